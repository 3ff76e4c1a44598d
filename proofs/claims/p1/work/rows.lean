section
/-! ===== BEGIN exceptions that leave a method, and their catching by the caller (launches without stack traces) ===== -/
section VXA
/-! The laws vx_back, vx_callV, vx_callS, vx_callSW, vx_throw0, vx_throwS follow proofs of the library, with one case more: JvmDerived/Free/Laws.lean (Back.of_free), Shelf42/LK1.lean (callV, callS), Shelf/KitTraced.lean (throwNew0V, throwNewS). -/
/-- where a method has thrown q: the class by its name, the cell, what was written, the world -/
def vx_T (XC : String → State → State → Prop) (st : State) (q : Addr) (t : State) (mc ms : Nat) (free : Addr → Prop) : Prop :=
  ∃ (E : String) (ce : Cell) (L : List Loc), XC E st t ∧ t.heap[q]? = some ce ∧ ce.vm = .none ∧ st.vm.findClass E = some ce.cls ∧ st.WarmedH t.vm ∧ st.sameButNew ({ t with vm := st.vm } : State) L mc ms ∧ ∀ z ∈ L, free z.base
def vx_Q (Qc : Array Value → State → Outcome → State → Prop) (XC : String → State → State → Prop) (mc ms : Nat) (free : Addr → Prop) : Array Value → State → Outcome → State → Prop := fun a st o t =>
  (Qc a st o t ∧ ∃ L, FrameEnd st o t L mc ms ∧ ∀ q ∈ L, free q.base) ∨ ∃ q, o = .threw q ∧ vx_T XC st q t mc ms free
/-- a callee that returns or throws -/
def vx_Met (l : Launch) (y : MethodName) (ws : List Cond) (rm : Room) (Pc : Array Value → State → Prop) (Qc : Array Value → State → Outcome → State → Prop) (XC : String → State → State → Prop) (mc ms : Nat) (free : Addr → Prop) : Prop :=
  MetFree l y (headSpec ws rm) Pc (fun _ _ _ _ _ => True) (vx_Q Qc XC mc ms free)
def vx_Post (XC : String → State → State → Prop) (mc ms : Nat) (free : Addr → Prop) : Pt → Array Value → Addr → Pt → Prop := fun A a q B =>
  ∃ (g : JFrame) (mk : MethodId) (t : State) (L : List Loc) (E : String) (ce : Cell), B.U.heap = t.heap ∧ B.U.vm = t.vm ∧ XC E (A.U.calling g mk a) t ∧ t.heap[q]? = some ce ∧ ce.vm = .none ∧ A.U.vm.findClass E = some ce.cls ∧ B.locs = A.locs ++ L ∧ (∀ z ∈ L, free z.base) ∧ B.cells = A.cells + mc ∧ B.slots = A.slots + ms
def vx_Back (l : Launch) (R : Room) (p : Program) (e : Env) (below : List Frame) (s : State) (sargs : Array Value) (y : MethodName) (len W9 : Nat)
    (Pre : Pt → Array Value → Prop) (Post : Pt → Array Value → Option Value → Pt → Prop) (PostX : Pt → Array Value → Addr → Pt → Prop) : Prop :=
  ∀ (m : MethodId) (meth : Method) (c : Code) (A : Pt) (g : JFrame) (ig : Instr) (mk : MethodId) (a : Array Value),
    Stand p l e R s m sargs below meth c A.U A.locs A.cells A.slots → g.method = m → g.locals.size = c.maxLocals → decode c.code g.pc = .ok (ig, len) →
    2 * g.monitorRoom + (g.stack.map fun v => v.category).sum ≤ W9 → A.U.methodNamed? y = some mk → Pre A a →
    (∃ (v : Option Value) (B : Pt), Stand p l e R s m sargs below meth c B.U B.locs B.cells B.slots ∧ Post A a v B ∧
      Steps p.tables e below (doInvoke e (A.U.setTop g) [] mk a).1 (B.U.setTop { g with pc := g.pc + len, stack := v.toList ++ g.stack })) ∨
    (∃ (q : Addr) (B : Pt), Stand p l e R s m sargs below meth c B.U B.locs B.cells B.slots ∧ PostX A a q B ∧
      Steps p.tables e below (doInvoke e (A.U.setTop g) [] mk a).1 ((B.U.setTop g).pushFrame (.throwing q)))
section Payer
variable {l : Launch} {R : Room} {p : Program} {e : Env} {below : List Frame} {s : State} {sargs : Array Value} {y : MethodName} {len W9 : Nat}
theorem vx_back {ws : List Cond} {rm : Room} {Pc : Array Value → State → Prop} {Qc : Array Value → State → Outcome → State → Prop} {XC : String → State → State → Prop} {mc ms : Nat} {free : Addr → Prop} {bytes : ByteArray} {maxL : Nat} {ret : Option FieldType}
    (hM : vx_Met l y ws rm Pc Qc XC mc ms free) (hblind : FrameBlind Pc) (hrc : rm.cells = mc) (hrs : rm.slots = ms)
    (hframes : rm.frames + 1 ≤ R.frames) (hlocals : W9 + (maxL + 11) + rm.locals ≤ R.locals)
    (hws : ∀ w ∈ ws, ∀ a' U, s.WarmedH U.vm → w.before a' U = true) (hcode : Cond.code y bytes maxL ret ∈ ws) (hinit : ∀ a' U, s.WarmedH U.vm → (Cond.initialized y.cls).before a' U = true) :
    vx_Back l R p e below s sargs y len W9 (PreOf R mc ms Pc) (PostOf Qc mc ms free) (vx_Post XC mc ms free) := by
  intro m meth c A g ig mk a X hg hsize hdg hW hn hp
  have h1 : (headSpec ws rm).pre.before a A.U = true := atoms_intro fun w hw => hws w hw _ _ X.warmed
  have h2 : (Cond.code y bytes maxL ret).before a A.U = true := hws _ hcode _ _ X.warmed
  have h3 : (Cond.initialized y.cls).before a A.U = true := hinit _ _ X.warmed
  have h4 : A.cells + (headSpec ws rm).room.cells ≤ R.cells := by rw [show (headSpec ws rm).room.cells = mc from hrc]; exact hp.1
  have h5 : A.slots + (headSpec ws rm).room.slots ≤ R.slots := by rw [show (headSpec ws rm).room.slots = ms from hrs]; exact hp.2.1
  have hPc : Pc a (A.U.calling g mk a) := hblind _ _ _ _ hp.2.2
  obtain ⟨U, Ls, c0, s0⟩ := A
  dsimp only [Pt.U, Pt.locs, Pt.cells, Pt.slots] at h1 h2 h3 h4 h5 X hn hPc ⊢
  obtain ⟨methY, cY, hmY, hcY, -, hlY, -, -, -, -⟩ := Cond.code_spec hn h2
  obtain ⟨kY, hkY, -⟩ := className_of_methodNamed hn
  have hinitY : kY.init = .initialized := Cond.initialized_spec (findClass_of_methodNamed hn) hkY h3
  have h : At U g.method c below := by rw [hg]; exact X.here
  have hlocals9 : W9 + (maxL + 11) + (headSpec ws rm).room.locals ≤ R.locals := hlocals
  have happ : (headSpec ws rm).appliesLoose y e.platform (U.calling g mk a) = true :=
    Spec.appliesLoose_calling (g := g) h hdg hn hkY hinitY
      (X.room_calling (g := g) (R' := (headSpec ws rm).room) hsize hmY hcY hframes (by rw [hlY]; omega) h4 h5) h1
  obtain ⟨mid, hmid⟩ := h.above
  have hfr : (U.setTop g).frames = (.java g :: mid) ++ below := by rw [State.frames_setTop' g h.top, hmid]; rfl
  obtain ⟨o, s₂, hsteps, -, hend, hq⟩ := Steps.callFree hM p X.admits X.cas X.clock (acts := []) hfr happ hPc trivial
  have hq' : vx_Q Qc XC mc ms free a (U.calling g mk a) o s₂ := hq
  rw [State.frames_setTop' g h.top] at hend
  obtain ⟨g₀, hg0⟩ := Option.isSome_iff_exists.mp h.top
  obtain ⟨r, hr⟩ := State.topJava?_eq_some.mp hg0
  have hr' : (({ U with heap := s₂.heap, slotsUsed := s₂.slotsUsed } : State).setVm s₂.vm).frames = .java g₀ :: r := hr
  rcases hq' with ⟨hqc, L, hfe, hL⟩ | ⟨q, rfl, E, ce, L, hx, hce, hcv, hcl, hW₂, hsm, hL⟩
  · obtain ⟨⟨v, rfl⟩, hW₂, e2, q2, q3, q4, q5, q6⟩ := id hfe
    have e3 : s₂ = ({ (U.calling g mk a).setFrames s₂.frames with heap := s₂.heap, slotsUsed := s₂.slotsUsed } : State).setVm s₂.vm := by
      have : s₂ = ({ s₂ with vm := (U.calling g mk a).vm } : State).setVm s₂.vm := rfl
      rw [e2] at this
      exact this
    obtain ⟨c₂, i₂, len₂, hc₂, hd₂, hf₂⟩ := hend
    have hW' : U.WarmedH s₂.vm := hW₂
    have hcc : c₂ = c := by
      have h1 : s₂.code? g.method = U.code? g.method := by
        rw [State.code?_eq, State.code?_eq, hW'.alike.method?]
      exact Option.some.inj (hc₂.symm.trans (h1.trans h.code))
    subst hcc
    have hlen : len₂ = len := by rw [hdg] at hd₂; cases hd₂; rfl
    subst hlen
    have hs₂ : s₂ = (({ U with heap := s₂.heap, slotsUsed := s₂.slotsUsed } : State).setVm s₂.vm).setTop { g with pc := g.pc + len₂, stack := v.toList ++ g.stack } := by
      refine e3.trans ?_
      rw [hf₂, State.calling_eq h.top, State.setFrames_setFrames, State.setTop_of_frames _ hr', hr]
      rfl
    have hsame : U.sameButNew ({ U with heap := s₂.heap, slotsUsed := s₂.slotsUsed } : State) L mc ms := by
      refine ⟨?_, q2, q3, q4, q5, q6⟩
      obtain ⟨t, ht, -⟩ := State.frames_cons hr
      show ({ U with heap := s₂.heap, slotsUsed := s₂.slotsUsed } : State) = { U.setFrames U.frames with heap := s₂.heap, slotsUsed := s₂.slotsUsed }
      rw [State.setFrames_self ht]
    subst hg
    refine Or.inl ⟨v, ⟨(({ U with heap := s₂.heap, slotsUsed := s₂.slotsUsed } : State).setVm s₂.vm), Ls ++ L, c0 + mc, s0 + ms⟩,
      ⟨X.admits, X.cas, X.clock, X.frames, X.room, X.hears, X.method, X.code, (X.here.setHeapUsed s₂.heap s₂.slotsUsed).setVm hW'.alike, X.tail, State.WarmedH.trans X.warmed hW', X.limits, X.bytes, X.same.trans (hsame.setVm s.vm)⟩,
      ⟨g, mk, s₂, L, rfl, rfl, hqc, rfl, hL, rfl, rfl⟩, ?_⟩
    show Steps p.tables e below _ ((({ U with heap := s₂.heap, slotsUsed := s₂.slotsUsed } : State).setVm s₂.vm).setTop { g with pc := g.pc + len₂, stack := v.toList ++ g.stack })
    rw [← hs₂]
    exact hsteps
  · obtain ⟨e2, q2, q3, q4, q5, q6⟩ := id hsm
    have e3 : s₂ = ({ (U.calling g mk a).setFrames s₂.frames with heap := s₂.heap, slotsUsed := s₂.slotsUsed } : State).setVm s₂.vm := by
      have : s₂ = ({ s₂ with vm := (U.calling g mk a).vm } : State).setVm s₂.vm := rfl
      rw [e2] at this
      exact this
    have hf₂ : s₂.frames = .throwing q :: .java g :: U.frames.tail := hend
    have hW' : U.WarmedH s₂.vm := hW₂
    have hs₂ : s₂ = ((({ U with heap := s₂.heap, slotsUsed := s₂.slotsUsed } : State).setVm s₂.vm).setTop g).pushFrame (.throwing q) := by
      refine e3.trans ?_
      rw [hf₂, State.calling_eq h.top, State.setFrames_setFrames, State.pushFrame, State.frames_setTop _ hr', State.setTop_of_frames _ hr', State.setFrames_setFrames, hr]
      rfl
    have hsame : U.sameButNew ({ U with heap := s₂.heap, slotsUsed := s₂.slotsUsed } : State) L mc ms := by
      refine ⟨?_, q2, q3, q4, q5, q6⟩
      obtain ⟨t, ht, -⟩ := State.frames_cons hr
      show ({ U with heap := s₂.heap, slotsUsed := s₂.slotsUsed } : State) = { U.setFrames U.frames with heap := s₂.heap, slotsUsed := s₂.slotsUsed }
      rw [State.setFrames_self ht]
    subst hg
    refine Or.inr ⟨q, ⟨(({ U with heap := s₂.heap, slotsUsed := s₂.slotsUsed } : State).setVm s₂.vm), Ls ++ L, c0 + mc, s0 + ms⟩,
      ⟨X.admits, X.cas, X.clock, X.frames, X.room, X.hears, X.method, X.code, (X.here.setHeapUsed s₂.heap s₂.slotsUsed).setVm hW'.alike, X.tail, State.WarmedH.trans X.warmed hW', X.limits, X.bytes, X.same.trans (hsame.setVm s.vm)⟩,
      ⟨g, mk, s₂, L, E, ce, rfl, rfl, hx, hce, hcv, hcl, rfl, hL, rfl, rfl⟩, ?_⟩
    show Steps p.tables e below _ (((({ U with heap := s₂.heap, slotsUsed := s₂.slotsUsed } : State).setVm s₂.vm).setTop g).pushFrame (.throwing q))
    rw [← hs₂]
    exact hsteps
end Payer
section Calls
variable {p : Program} {l : Launch} {e : Env} {R : Room} {s : State} {m : MethodId} {args : Array Value} {below : List Frame} {meth : Method} {c : Code} {T : State} {locs : List Loc} {cells slots : Nat}
theorem vx_callV (X : Stand p l e R s m args below meth c T locs cells slots) (hexec : p.tables.exec = Jvm.exec) {own C : String} {index : Nat} {y : MethodName} {bytes : ByteArray} {maxL : Nat} {ret : Option FieldType}
    (hown : s.vm.findClass own = some m.cls) (hlink : (Cond.methodLink own index y).before args s = true) (hinst : (Cond.instanceMethod y).before args s = true) (hsel : (Cond.selects C y y).before args s = true)
    (hcode : (Cond.code y bytes maxL ret).before args s = true) (hy : y.cls ≠ "java/lang/invoke/MethodHandle" ∧ y.cls ≠ "java/lang/invoke/VarHandle")
    {W9 : Nat} {Pre : Pt → Array Value → Prop} {Post : Pt → Array Value → Option Value → Pt → Prop} {PostX : Pt → Array Value → Addr → Pt → Prop} (hK : vx_Back l R p e below s args y 3 W9 Pre Post PostX)
    {b : Addr} {cellB : Cell} (hcell : T.heap[b]? = some cellB) (hobj : cellB.vm.isStatics = false) (hcls : s.vm.findClass C = some cellB.cls)
    {g : JFrame} (hg : g.method = m) (hsize : g.locals.size = c.maxLocals) {argsL rest : List Value} (hlen : ∀ sig, parseMethodDescriptor y.desc = some sig → argsL.length = sig.parameters.length)
    (hstack : g.stack = argsL.reverse ++ .ref b :: rest) (hW : 2 * g.monitorRoom + (rest.map fun v => v.category).sum ≤ W9) (hdg : decode c.code g.pc = .ok (.invokevirtual index, 3))
    (hpre : ∀ vm₁, s.WarmedH vm₁ → Pre ⟨T.setVm vm₁, locs, cells, slots⟩ (Value.ref b :: argsL).toArray) :
    (∃ (v : Option Value) (vm₁ : Vm) (B : Pt), s.WarmedH vm₁ ∧ Stand p l e R s m args below meth c B.U B.locs B.cells B.slots ∧ Post ⟨T.setVm vm₁, locs, cells, slots⟩ (Value.ref b :: argsL).toArray v B ∧
      ∀ target, Steps p.tables e below (B.U.setTop { g with pc := g.pc + 3, stack := v.toList ++ rest }) target → Steps p.tables e below (T.setTop g) target) ∨
    (∃ (q : Addr) (vm₁ : Vm) (B : Pt), s.WarmedH vm₁ ∧ Stand p l e R s m args below meth c B.U B.locs B.cells B.slots ∧ PostX ⟨T.setVm vm₁, locs, cells, slots⟩ (Value.ref b :: argsL).toArray q B ∧
      Steps p.tables e below (T.setTop g) ((B.U.setTop { g with stack := rest }).pushFrame (.throwing q))) := by
  obtain ⟨mk, methM, hnamed, hmethM, hstM, habM⟩ := Cond.instanceMethod_spec hinst
  obtain ⟨methM', cM, hmethM', -, -, -, -, -, -, hsigM⟩ := Cond.code_spec hnamed hcode
  cases hmethM.symm.trans hmethM'
  obtain ⟨c2, r2, m2, q1, q2, q3, q4, kP, hkP, hkPi⟩ := Cond.selects_spec hsel
  cases hcls.symm.trans q1
  cases (State.methodFound?_of_named hnamed hy).symm.trans q2
  cases hnamed.symm.trans q3
  have hselP : selectMethod e.platform s.vm cellB.cls mk = .method mk := by rw [Launch.admits_selectMethod X.admits]; exact q4
  obtain ⟨vm₁, X₁, hstep₁⟩ := X.invokevirtual hexec hown hlink hnamed hmethM hstM hkP hkPi hy (a := b) (cell := cellB) hcell
    (fun z h => by rw [h] at hobj; cases hobj) hselP hmethM habM hkP hkPi (g := g) hg (argsL := argsL) (rest := rest) (hlen _ hsigM) hstack hdg
  rcases hK m meth c ⟨T.setVm vm₁, locs, cells, slots⟩ { g with stack := rest } (.invokevirtual index) mk (Value.ref b :: argsL).toArray X₁ hg hsize hdg hW (X₁.named hnamed) (hpre vm₁ X₁.warmed) with ⟨v, B, X', hpost, hsteps⟩ | ⟨q, B, X', hpost, hsteps⟩
  · exact Or.inl ⟨v, vm₁, B, X₁.warmed, X', hpost, fun target h => hstep₁ _ fun acts => by rw [doInvoke_state]; exact hsteps.trans h⟩
  · exact Or.inr ⟨q, vm₁, B, X₁.warmed, X', hpost, hstep₁ _ fun acts => by rw [doInvoke_state]; exact hsteps⟩
theorem vx_callS (X : Stand p l e R s m args below meth c T locs cells slots) (hexec : p.tables.exec = Jvm.exec) {own : String} {index : Nat} {y : MethodName} {bytes : ByteArray} {maxL : Nat} {ret : Option FieldType}
    (hown : s.vm.findClass own = some m.cls) (hlink : (Cond.methodLink own index y).before args s = true) (hstat : (Cond.static y).before args s = true) (hinit : (Cond.initialized y.cls).before args s = true)
    (hcode : (Cond.code y bytes maxL ret).before args s = true) (hy : y.cls ≠ "java/lang/invoke/MethodHandle" ∧ y.cls ≠ "java/lang/invoke/VarHandle")
    {W9 : Nat} {Pre : Pt → Array Value → Prop} {Post : Pt → Array Value → Option Value → Pt → Prop} {PostX : Pt → Array Value → Addr → Pt → Prop} (hK : vx_Back l R p e below s args y 3 W9 Pre Post PostX)
    {g : JFrame} (hg : g.method = m) (hsize : g.locals.size = c.maxLocals) {argsL rest : List Value} (hlen : ∀ sig, parseMethodDescriptor y.desc = some sig → argsL.length = sig.parameters.length)
    (hstack : g.stack = argsL.reverse ++ rest) (hW : 2 * g.monitorRoom + (rest.map fun v => v.category).sum ≤ W9) (hdg : decode c.code g.pc = .ok (.invokestatic index, 3))
    (hpre : ∀ vm₁, s.WarmedH vm₁ → Pre ⟨T.setVm vm₁, locs, cells, slots⟩ argsL.toArray) :
    (∃ (v : Option Value) (vm₁ : Vm) (B : Pt), s.WarmedH vm₁ ∧ Stand p l e R s m args below meth c B.U B.locs B.cells B.slots ∧ Post ⟨T.setVm vm₁, locs, cells, slots⟩ argsL.toArray v B ∧
      ∀ target, Steps p.tables e below (B.U.setTop { g with pc := g.pc + 3, stack := v.toList ++ rest }) target → Steps p.tables e below (T.setTop g) target) ∨
    (∃ (q : Addr) (vm₁ : Vm) (B : Pt), s.WarmedH vm₁ ∧ Stand p l e R s m args below meth c B.U B.locs B.cells B.slots ∧ PostX ⟨T.setVm vm₁, locs, cells, slots⟩ argsL.toArray q B ∧
      Steps p.tables e below (T.setTop g) ((B.U.setTop { g with stack := rest }).pushFrame (.throwing q))) := by
  obtain ⟨mk, hnamed⟩ := Cond.code_named hcode
  obtain ⟨methM, cM, hmethM, -, -, -, -, -, -, hsigM⟩ := Cond.code_spec hnamed hcode
  have hstatic : methM.isStatic = true := Cond.static_spec hnamed hmethM hstat
  obtain ⟨kP, hkP, -⟩ := className_of_methodNamed hnamed
  have hinitP : kP.init = .initialized := Cond.initialized_spec (findClass_of_methodNamed hnamed) hkP hinit
  obtain ⟨vm₁, X₁, hstep₁⟩ := X.invokestatic hexec hown hlink hnamed hmethM hstatic hkP hinitP hy (g := g) hg (argsL := argsL) (rest := rest) (hlen _ hsigM) hstack hdg
  rcases hK m meth c ⟨T.setVm vm₁, locs, cells, slots⟩ { g with stack := rest } (.invokestatic index) mk argsL.toArray X₁ hg hsize hdg hW (X₁.named hnamed) (hpre vm₁ X₁.warmed) with ⟨v, B, X', hpost, hsteps⟩ | ⟨q, B, X', hpost, hsteps⟩
  · exact Or.inl ⟨v, vm₁, B, X₁.warmed, X', hpost, fun target h => hstep₁ _ fun acts => by rw [doInvoke_state]; exact hsteps.trans h⟩
  · exact Or.inr ⟨q, vm₁, B, X₁.warmed, X', hpost, hstep₁ _ fun acts => by rw [doInvoke_state]; exact hsteps⟩
end Calls
theorem vx_cls {s : State} {T : State} {vm₁ : Vm} {E : String} {k : ClassId} (hW : s.WarmedH vm₁) (h : (T.setVm vm₁).vm.findClass E = some k) : s.vm.findClass E = some k := by
  have h1 : vm₁.findClass E = some k := h
  rw [hW.alike.findClass] at h1
  exact h1
/-- the method's frame g, with q thrown over it -/
def vx_W (p : Program) (l : Launch) (e : Env) (R : Room) (s : State) (m : MethodId) (args : Array Value) (below : List Frame) (meth : Method) (c : Code) (H : Heap) (locs : List Loc) (cells slots : Nat) (Q : State → Prop) (g : JFrame) (q : Addr) : Prop :=
  ∀ T : State, T.heap = H → Stand p l e R s m args below meth c T locs cells slots → ∃ t, Steps p.tables e below ((T.setTop g).pushFrame (.throwing q)) t ∧ Q t
def vx_Run (p : Program) (l : Launch) (e : Env) (R : Room) (s : State) (m : MethodId) (args : Array Value) (below : List Frame) (meth : Method) (c : Code) (H : Heap) (locs : List Loc) (cells slots mc ms : Nat) (g : JFrame) (rest : List Value) (Qa : State → Outcome → State → Prop) (XC : String → State → State → Prop) (free : Addr → Prop) : Prop :=
  ∀ T : State, T.heap = H → Stand p l e R s m args below meth c T locs cells slots →
    (∃ (v : Option Value) (st₀ t T' : State) (L : List Loc), st₀.heap = H ∧ Stand p l e R s m args below meth c T' (locs ++ L) (cells + mc) (slots + ms) ∧ (∀ q ∈ L, free q.base) ∧ T'.heap = t.heap ∧ T'.vm = t.vm ∧ Qa st₀ (.returned v) t ∧
      Goes p e below T g T' { g with pc := g.pc + 3, stack := v.toList ++ rest }) ∨
    (∃ (q : Addr) (st₀ t T' : State) (L : List Loc) (E : String) (ce : Cell), st₀.heap = H ∧ Stand p l e R s m args below meth c T' (locs ++ L) (cells + mc) (slots + ms) ∧ (∀ z ∈ L, free z.base) ∧ T'.heap = t.heap ∧ T'.vm = t.vm ∧ XC E st₀ t ∧ t.heap[q]? = some ce ∧ ce.vm = .none ∧ s.vm.findClass E = some ce.cls ∧
      Steps p.tables e below (T.setTop g) ((T'.setTop { g with stack := rest }).pushFrame (.throwing q)))
def vx_X {S : Type} (px : S → Prop) (B : String → S → State → Prop) (A : Nat → Prop) : String → State → State → Prop := fun E st t => ∃ u : S, px u ∧ B E u t ∧ va_F A st t
section Runs
variable {p : Program} {l : Launch} {e : Env} {R : Room} {s : State} {m : MethodId} {args : Array Value} {below : List Frame} {meth : Method} {c : Code} {H : Heap} {locs : List Loc} {cells slots : Nat}
variable {y : MethodName} {bytes cc : ByteArray} {maxL nL mc ms n index : Nat} {ret : Option FieldType} {ws : List Cond} {rm : Room} {Pc : Array Value → State → Prop} {Qc : Array Value → State → Outcome → State → Prop} {XC : String → State → State → Prop} {free : Addr → Prop} {Ts : List Cond} {own C : String} {b : Addr} {As rest : List Value} {g : JFrame}
theorem vx_callBack (cb : CallB R s args own index y bytes maxL ret ws rm mc ms n) (hM : vx_Met l y ws rm Pc Qc XC mc ms free) (hbl : FrameBlind Pc) : vx_Back l R p e below s args y 3 8 (PreOf R mc ms Pc) (PostOf Qc mc ms free) (vx_Post XC mc ms free) := by
  obtain ⟨hrc, hrs, hfr, hlo, hws, hcw, -, hini, -⟩ := cb
  exact vx_back (bytes := bytes) (maxL := maxL) (ret := ret) hM hbl hrc hrs hfr hlo hws hcw (fun a' U hW => word_at hW (Or.inl (by first | rfl | simp [Cond.onTables, Cond.keeps, Cond.steady])) hini)
theorem vx_runV (S : CallFix p m c cc nL s args Ts own) (hM : vx_Met l y ws rm Pc Qc XC mc ms free) (cw : CallW R s args own C index y bytes maxL ret ws rm mc ms n) (hp : PreV s H C b Pc As)
    (hg : g.method = m) (hn : As.length = n) (hsize : g.locals.size = nL) (hstack : g.stack = As.reverse ++ .ref b :: rest) (hW : 2 * g.monitorRoom + (rest.map fun v => v.category).sum ≤ 8) (hdg : decode cc g.pc = .ok (.invokevirtual index, 3)) (hf : cells + mc ≤ R.cells ∧ slots + ms ≤ R.slots) :
    vx_Run p l e R s m args below meth c H locs cells slots mc ms g rest (Qc (Value.ref b :: As).toArray) XC free := by
  have hK : vx_Back l R p e below s args y 3 8 (PreOf R mc ms Pc) (PostOf Qc mc ms free) (vx_Post XC mc ms free) := vx_callBack cw.1 hM hp.1
  obtain ⟨⟨-, -, -, -, -, -, hcode, -, hy, hlen, hl⟩, hin, hse⟩ := cw
  obtain ⟨hx, hb, hml, ho, -⟩ := S
  obtain ⟨-, ⟨cellB, hcB, hoB, hclB⟩, hPc⟩ := hp
  intro T hT X
  rcases vx_callV X hx (C := C) (bytes := bytes) (maxL := maxL) (ret := ret) ho hl hin hse hcode hy hK (by rw [hT]; exact hcB) hoB hclB hg (hsize.trans hml.symm) (argsL := As) (rest := rest) (fun sig h => hn.trans (hlen sig h)) hstack hW (by rw [hb]; exact hdg)
    (fun vm₁ hW₁ => ⟨hf.1, hf.2, hPc (T.setVm vm₁) hT hW₁⟩) with ⟨v, vm₁, ⟨U', l2, c2, s2⟩, hW₁, X', ⟨g', mk, t, L, e1, e2, hq, h1, hL, h2, h3⟩, st⟩ | ⟨q, vm₁, ⟨U', l2, c2, s2⟩, hW₁, X', ⟨g', mk, t, L, E, ce, e1, e2, hq, hce, hcv, hcl, h1, hL, h2, h3⟩, st⟩
  · dsimp only [Pt.U, Pt.locs, Pt.cells, Pt.slots] at X' e1 e2 h1 h2 h3 st
    subst h1; subst h2; subst h3
    exact Or.inl ⟨v, (T.setVm vm₁).calling g' mk (Value.ref b :: As).toArray, t, U', L, hT, X', hL, e1, e2, hq, st⟩
  · dsimp only [Pt.U, Pt.locs, Pt.cells, Pt.slots] at X' e1 e2 h1 h2 h3 st hcl
    subst h1; subst h2; subst h3
    exact Or.inr ⟨q, (T.setVm vm₁).calling g' mk (Value.ref b :: As).toArray, t, U', L, E, ce, hT, X', hL, e1, e2, hq, hce, hcv, vx_cls hW₁ hcl, st⟩
theorem vx_runS (S : CallFix p m c cc nL s args Ts own) (hM : vx_Met l y ws rm Pc Qc XC mc ms free) (cw : CallB R s args own index y bytes maxL ret ws rm mc ms n ∧ (Cond.static y).before args s = true) (hp : PreS s H Pc As)
    (hg : g.method = m) (hn : As.length = n) (hsize : g.locals.size = nL) (hstack : g.stack = As.reverse ++ rest) (hW : 2 * g.monitorRoom + (rest.map fun v => v.category).sum ≤ 8) (hdg : decode cc g.pc = .ok (.invokestatic index, 3)) (hf : cells + mc ≤ R.cells ∧ slots + ms ≤ R.slots) :
    vx_Run p l e R s m args below meth c H locs cells slots mc ms g rest (Qc As.toArray) XC free := by
  have hK : vx_Back l R p e below s args y 3 8 (PreOf R mc ms Pc) (PostOf Qc mc ms free) (vx_Post XC mc ms free) := vx_callBack cw.1 hM hp.1
  obtain ⟨⟨-, -, -, -, -, -, hcode, hini, hy, hlen, hl⟩, hstt⟩ := cw
  obtain ⟨hx, hb, hml, ho, -⟩ := S
  intro T hT X
  rcases vx_callS X hx (bytes := bytes) (maxL := maxL) (ret := ret) ho hl hstt hini hcode hy hK hg (hsize.trans hml.symm) (argsL := As) (rest := rest) (fun sig h => hn.trans (hlen sig h)) hstack hW (by rw [hb]; exact hdg)
    (fun vm₁ hW₁ => ⟨hf.1, hf.2, hp.2 (T.setVm vm₁) hT hW₁⟩) with ⟨v, vm₁, ⟨U', l2, c2, s2⟩, hW₁, X', ⟨g', mk, t, L, e1, e2, hq, h1, hL, h2, h3⟩, st⟩ | ⟨q, vm₁, ⟨U', l2, c2, s2⟩, hW₁, X', ⟨g', mk, t, L, E, ce, e1, e2, hq, hce, hcv, hcl, h1, hL, h2, h3⟩, st⟩
  · dsimp only [Pt.U, Pt.locs, Pt.cells, Pt.slots] at X' e1 e2 h1 h2 h3 st
    subst h1; subst h2; subst h3
    exact Or.inl ⟨v, (T.setVm vm₁).calling g' mk As.toArray, t, U', L, hT, X', hL, e1, e2, hq, st⟩
  · dsimp only [Pt.U, Pt.locs, Pt.cells, Pt.slots] at X' e1 e2 h1 h2 h3 st hcl
    subst h1; subst h2; subst h3
    exact Or.inr ⟨q, (T.setVm vm₁).calling g' mk As.toArray, t, U', L, E, ce, hT, X', hL, e1, e2, hq, hce, hcv, vx_cls hW₁ hcl, st⟩
end Runs
section Rows
variable {p : Program} {l : Launch} {e : Env} {R : Room} {s : State} {m : MethodId} {args : Array Value} {below : List Frame} {meth : Method} {c : Code} {H : Heap} {locs : List Loc} {cells slots : Nat} {Q : State → Prop}
variable {mc ms : Nat} {free : Addr → Prop} {A0 A1 : Nat → Prop} {H0 : Heap} {a : Array Value} {pc : Nat} {ls : Array Slot} {st0 rest : List Value}
theorem vx_keep {st₀ t T' : State} {L : List Loc} (h0 : st₀.heap = H) (e1 : T'.heap = t.heap) (hS : va_S A0 H0 H locs) (hA : ∀ q, q < H.size → A1 q → A0 q) (hf : ∀ q, free q → A0 q) (hL : ∀ q ∈ L, free q.base) (hF : va_F A1 st₀ t) :
    H.size ≤ T'.heap.size ∧ (∀ q : Nat, q < H.size → ¬ A1 q → T'.heap[q]? = H[q]?) ∧ va_S A0 H0 T'.heap (locs ++ L) := by
  obtain ⟨hz, hk⟩ := hF
  rw [h0] at hz hk
  exact ⟨by rw [e1]; exact hz, fun q h1 h2 => by rw [e1]; exact hk q h1 h2,
    ⟨Nat.le_trans hS.1 (by rw [e1]; exact hz), fun q h1 h2 => by rw [e1, hk q (Nat.lt_of_lt_of_le h1 hS.1) (fun z => h2 (hA q (Nat.lt_of_lt_of_le h1 hS.1) z))]; exact hS.2.1 q h1 h2, fun q hq => by
      rcases List.mem_append.mp hq with h | h
      · exact hS.2.2 q h
      · exact hf _ (hL q h)⟩⟩
theorem vx_calli {S SX : Type} {post : Int32 → S → Prop} {px : SX → Prop} {B : S → State → Prop} {BX : String → SX → State → Prop} {AX : Nat → Prop} (hr : vx_Run p l e R s m args below meth c H locs cells slots mc ms (F0 m pc ls st0) rest (va_Qi post B A1 a) (vx_X px BX AX) free) (hS : va_S A0 H0 H locs) (hA : ∀ q, q < H.size → A1 q → A0 q) (hf : ∀ q, free q → A0 q) (hAX : ∀ q, q < H.size → AX q → A0 q)
    (kx : ∀ (E : String) (ce : Cell) (q9 : Addr) (u : SX) (t : State) (H1 : Heap) (locs1 : List Loc), t.heap = H1 → s.vm.Alike t.vm → px u → BX E u t → H.size ≤ H1.size → (∀ q : Nat, q < H.size → ¬ AX q → H1[q]? = H[q]?) → va_S A0 H0 H1 locs1 → H1[q9]? = some ce → ce.vm = .none → s.vm.findClass E = some ce.cls → vx_W p l e R s m args below meth c H1 locs1 (cells + mc) (slots + ms) Q (F0 m pc ls rest) q9)
    (kk : ∀ (r : Int32) (u : S) (t : State) (H1 : Heap) (locs1 : List Loc), t.heap = H1 → s.vm.Alike t.vm → post r u → B u t → H.size ≤ H1.size → (∀ q : Nat, q < H.size → ¬ A1 q → H1[q]? = H[q]?) → va_S A0 H0 H1 locs1 → W p l e R s m args below meth c H1 locs1 (cells + mc) (slots + ms) Q (F0 m (pc + 3) ls (.int r :: rest))) : W p l e R s m args below meth c H locs cells slots Q (F0 m pc ls st0) := by
  intro T hT X
  rcases hr T hT X with ⟨v, st₀, t, T', L, h0, X', hL, e1, e2, ⟨⟨r, u, hv, hp, hb⟩, hF⟩, st⟩ | ⟨q, st₀, t, T', L, E, ce, h0, X', hL, e1, e2, ⟨u, hp, hb, hF⟩, hce, hcv, hcl, st⟩
  · cases hv
    obtain ⟨k1, k2, k3⟩ := vx_keep h0 e1 hS hA hf hL hF
    obtain ⟨t2, a1, b1⟩ := kk r u t T'.heap (locs ++ L) e1.symm (by rw [← e2]; exact X'.warmed.alike) hp hb k1 k2 k3 T' rfl X'
    exact ⟨t2, st t2 a1, b1⟩
  · obtain ⟨k1, k2, k3⟩ := vx_keep h0 e1 hS hAX hf hL hF
    obtain ⟨t2, a1, b1⟩ := kx E ce q u t T'.heap (locs ++ L) e1.symm (by rw [← e2]; exact X'.warmed.alike) hp hb k1 k2 k3 (by rw [e1]; exact hce) hcv hcl T' rfl X'
    exact ⟨t2, st.trans a1, b1⟩
theorem vx_calll {S SX : Type} {post : Int64 → S → Prop} {px : SX → Prop} {B : S → State → Prop} {BX : String → SX → State → Prop} {AX : Nat → Prop} (hr : vx_Run p l e R s m args below meth c H locs cells slots mc ms (F0 m pc ls st0) rest (va_Ql post B A1 a) (vx_X px BX AX) free) (hS : va_S A0 H0 H locs) (hA : ∀ q, q < H.size → A1 q → A0 q) (hf : ∀ q, free q → A0 q) (hAX : ∀ q, q < H.size → AX q → A0 q)
    (kx : ∀ (E : String) (ce : Cell) (q9 : Addr) (u : SX) (t : State) (H1 : Heap) (locs1 : List Loc), t.heap = H1 → s.vm.Alike t.vm → px u → BX E u t → H.size ≤ H1.size → (∀ q : Nat, q < H.size → ¬ AX q → H1[q]? = H[q]?) → va_S A0 H0 H1 locs1 → H1[q9]? = some ce → ce.vm = .none → s.vm.findClass E = some ce.cls → vx_W p l e R s m args below meth c H1 locs1 (cells + mc) (slots + ms) Q (F0 m pc ls rest) q9)
    (kk : ∀ (r : Int64) (u : S) (t : State) (H1 : Heap) (locs1 : List Loc), t.heap = H1 → s.vm.Alike t.vm → post r u → B u t → H.size ≤ H1.size → (∀ q : Nat, q < H.size → ¬ A1 q → H1[q]? = H[q]?) → va_S A0 H0 H1 locs1 → W p l e R s m args below meth c H1 locs1 (cells + mc) (slots + ms) Q (F0 m (pc + 3) ls (.long r :: rest))) : W p l e R s m args below meth c H locs cells slots Q (F0 m pc ls st0) := by
  intro T hT X
  rcases hr T hT X with ⟨v, st₀, t, T', L, h0, X', hL, e1, e2, ⟨⟨r, u, hv, hp, hb⟩, hF⟩, st⟩ | ⟨q, st₀, t, T', L, E, ce, h0, X', hL, e1, e2, ⟨u, hp, hb, hF⟩, hce, hcv, hcl, st⟩
  · cases hv
    obtain ⟨k1, k2, k3⟩ := vx_keep h0 e1 hS hA hf hL hF
    obtain ⟨t2, a1, b1⟩ := kk r u t T'.heap (locs ++ L) e1.symm (by rw [← e2]; exact X'.warmed.alike) hp hb k1 k2 k3 T' rfl X'
    exact ⟨t2, st t2 a1, b1⟩
  · obtain ⟨k1, k2, k3⟩ := vx_keep h0 e1 hS hAX hf hL hF
    obtain ⟨t2, a1, b1⟩ := kx E ce q u t T'.heap (locs ++ L) e1.symm (by rw [← e2]; exact X'.warmed.alike) hp hb k1 k2 k3 (by rw [e1]; exact hce) hcv hcl T' rfl X'
    exact ⟨t2, st.trans a1, b1⟩
theorem vx_callf {S SX : Type} {post : UInt32 → S → Prop} {px : SX → Prop} {B : S → State → Prop} {BX : String → SX → State → Prop} {AX : Nat → Prop} (hr : vx_Run p l e R s m args below meth c H locs cells slots mc ms (F0 m pc ls st0) rest (va_Qf post B A1 a) (vx_X px BX AX) free) (hS : va_S A0 H0 H locs) (hA : ∀ q, q < H.size → A1 q → A0 q) (hf : ∀ q, free q → A0 q) (hAX : ∀ q, q < H.size → AX q → A0 q)
    (kx : ∀ (E : String) (ce : Cell) (q9 : Addr) (u : SX) (t : State) (H1 : Heap) (locs1 : List Loc), t.heap = H1 → s.vm.Alike t.vm → px u → BX E u t → H.size ≤ H1.size → (∀ q : Nat, q < H.size → ¬ AX q → H1[q]? = H[q]?) → va_S A0 H0 H1 locs1 → H1[q9]? = some ce → ce.vm = .none → s.vm.findClass E = some ce.cls → vx_W p l e R s m args below meth c H1 locs1 (cells + mc) (slots + ms) Q (F0 m pc ls rest) q9)
    (kk : ∀ (r : UInt32) (u : S) (t : State) (H1 : Heap) (locs1 : List Loc), t.heap = H1 → s.vm.Alike t.vm → post r u → B u t → H.size ≤ H1.size → (∀ q : Nat, q < H.size → ¬ A1 q → H1[q]? = H[q]?) → va_S A0 H0 H1 locs1 → W p l e R s m args below meth c H1 locs1 (cells + mc) (slots + ms) Q (F0 m (pc + 3) ls (.float r :: rest))) : W p l e R s m args below meth c H locs cells slots Q (F0 m pc ls st0) := by
  intro T hT X
  rcases hr T hT X with ⟨v, st₀, t, T', L, h0, X', hL, e1, e2, ⟨⟨r, u, hv, hp, hb⟩, hF⟩, st⟩ | ⟨q, st₀, t, T', L, E, ce, h0, X', hL, e1, e2, ⟨u, hp, hb, hF⟩, hce, hcv, hcl, st⟩
  · cases hv
    obtain ⟨k1, k2, k3⟩ := vx_keep h0 e1 hS hA hf hL hF
    obtain ⟨t2, a1, b1⟩ := kk r u t T'.heap (locs ++ L) e1.symm (by rw [← e2]; exact X'.warmed.alike) hp hb k1 k2 k3 T' rfl X'
    exact ⟨t2, st t2 a1, b1⟩
  · obtain ⟨k1, k2, k3⟩ := vx_keep h0 e1 hS hAX hf hL hF
    obtain ⟨t2, a1, b1⟩ := kx E ce q u t T'.heap (locs ++ L) e1.symm (by rw [← e2]; exact X'.warmed.alike) hp hb k1 k2 k3 (by rw [e1]; exact hce) hcv hcl T' rfl X'
    exact ⟨t2, st.trans a1, b1⟩
theorem vx_calld {S SX : Type} {post : UInt64 → S → Prop} {px : SX → Prop} {B : S → State → Prop} {BX : String → SX → State → Prop} {AX : Nat → Prop} (hr : vx_Run p l e R s m args below meth c H locs cells slots mc ms (F0 m pc ls st0) rest (va_Qd post B A1 a) (vx_X px BX AX) free) (hS : va_S A0 H0 H locs) (hA : ∀ q, q < H.size → A1 q → A0 q) (hf : ∀ q, free q → A0 q) (hAX : ∀ q, q < H.size → AX q → A0 q)
    (kx : ∀ (E : String) (ce : Cell) (q9 : Addr) (u : SX) (t : State) (H1 : Heap) (locs1 : List Loc), t.heap = H1 → s.vm.Alike t.vm → px u → BX E u t → H.size ≤ H1.size → (∀ q : Nat, q < H.size → ¬ AX q → H1[q]? = H[q]?) → va_S A0 H0 H1 locs1 → H1[q9]? = some ce → ce.vm = .none → s.vm.findClass E = some ce.cls → vx_W p l e R s m args below meth c H1 locs1 (cells + mc) (slots + ms) Q (F0 m pc ls rest) q9)
    (kk : ∀ (r : UInt64) (u : S) (t : State) (H1 : Heap) (locs1 : List Loc), t.heap = H1 → s.vm.Alike t.vm → post r u → B u t → H.size ≤ H1.size → (∀ q : Nat, q < H.size → ¬ A1 q → H1[q]? = H[q]?) → va_S A0 H0 H1 locs1 → W p l e R s m args below meth c H1 locs1 (cells + mc) (slots + ms) Q (F0 m (pc + 3) ls (.double r :: rest))) : W p l e R s m args below meth c H locs cells slots Q (F0 m pc ls st0) := by
  intro T hT X
  rcases hr T hT X with ⟨v, st₀, t, T', L, h0, X', hL, e1, e2, ⟨⟨r, u, hv, hp, hb⟩, hF⟩, st⟩ | ⟨q, st₀, t, T', L, E, ce, h0, X', hL, e1, e2, ⟨u, hp, hb, hF⟩, hce, hcv, hcl, st⟩
  · cases hv
    obtain ⟨k1, k2, k3⟩ := vx_keep h0 e1 hS hA hf hL hF
    obtain ⟨t2, a1, b1⟩ := kk r u t T'.heap (locs ++ L) e1.symm (by rw [← e2]; exact X'.warmed.alike) hp hb k1 k2 k3 T' rfl X'
    exact ⟨t2, st t2 a1, b1⟩
  · obtain ⟨k1, k2, k3⟩ := vx_keep h0 e1 hS hAX hf hL hF
    obtain ⟨t2, a1, b1⟩ := kx E ce q u t T'.heap (locs ++ L) e1.symm (by rw [← e2]; exact X'.warmed.alike) hp hb k1 k2 k3 (by rw [e1]; exact hce) hcv hcl T' rfl X'
    exact ⟨t2, st.trans a1, b1⟩
theorem vx_callv {S SX : Type} {post : S → Prop} {px : SX → Prop} {B : S → State → Prop} {BX : String → SX → State → Prop} {AX : Nat → Prop} (hr : vx_Run p l e R s m args below meth c H locs cells slots mc ms (F0 m pc ls st0) rest (va_Qv post B A1 a) (vx_X px BX AX) free) (hS : va_S A0 H0 H locs) (hA : ∀ q, q < H.size → A1 q → A0 q) (hf : ∀ q, free q → A0 q) (hAX : ∀ q, q < H.size → AX q → A0 q)
    (kx : ∀ (E : String) (ce : Cell) (q9 : Addr) (u : SX) (t : State) (H1 : Heap) (locs1 : List Loc), t.heap = H1 → s.vm.Alike t.vm → px u → BX E u t → H.size ≤ H1.size → (∀ q : Nat, q < H.size → ¬ AX q → H1[q]? = H[q]?) → va_S A0 H0 H1 locs1 → H1[q9]? = some ce → ce.vm = .none → s.vm.findClass E = some ce.cls → vx_W p l e R s m args below meth c H1 locs1 (cells + mc) (slots + ms) Q (F0 m pc ls rest) q9)
    (kk : ∀ (u : S) (t : State) (H1 : Heap) (locs1 : List Loc), t.heap = H1 → s.vm.Alike t.vm → post u → B u t → H.size ≤ H1.size → (∀ q : Nat, q < H.size → ¬ A1 q → H1[q]? = H[q]?) → va_S A0 H0 H1 locs1 → W p l e R s m args below meth c H1 locs1 (cells + mc) (slots + ms) Q (F0 m (pc + 3) ls (rest))) : W p l e R s m args below meth c H locs cells slots Q (F0 m pc ls st0) := by
  intro T hT X
  rcases hr T hT X with ⟨v, st₀, t, T', L, h0, X', hL, e1, e2, ⟨⟨u, hv, hp, hb⟩, hF⟩, st⟩ | ⟨q, st₀, t, T', L, E, ce, h0, X', hL, e1, e2, ⟨u, hp, hb, hF⟩, hce, hcv, hcl, st⟩
  · cases hv
    obtain ⟨k1, k2, k3⟩ := vx_keep h0 e1 hS hA hf hL hF
    obtain ⟨t2, a1, b1⟩ := kk u t T'.heap (locs ++ L) e1.symm (by rw [← e2]; exact X'.warmed.alike) hp hb k1 k2 k3 T' rfl X'
    exact ⟨t2, st t2 a1, b1⟩
  · obtain ⟨k1, k2, k3⟩ := vx_keep h0 e1 hS hAX hf hL hF
    obtain ⟨t2, a1, b1⟩ := kx E ce q u t T'.heap (locs ++ L) e1.symm (by rw [← e2]; exact X'.warmed.alike) hp hb k1 k2 k3 (by rw [e1]; exact hce) hcv hcl T' rfl X'
    exact ⟨t2, st.trans a1, b1⟩
/-- caught by the row x of this method's table; the rows ahead don't take it -/
theorem vx_catch {own name : String} {E : String} {ce : Cell} {q : Addr} (hown : s.vm.findClass own = some m.cls) (pre : List ExceptionTableEntry) (x : ExceptionTableEntry) (suf : List ExceptionTableEntry) (hsplit : c.exceptionTable.toList = pre ++ x :: suf)
    (hpass : ∀ z ∈ pre, covers z pc = false ∨ (z.catchType ≠ 0 ∧ ∃ nm : String, (Cond.classLink own z.catchType nm).before args s = true ∧ va_Nc E nm s)) (hx : covers x pc = true) (h0 : x.catchType ≠ 0)
    (hlink : (Cond.classLink own x.catchType name).before args s = true) (hcast : (Cond.castable E name).before args s = true) (hcell : H[q]? = some ce) (hv : ce.vm = .none) (hcl : s.vm.findClass E = some ce.cls)
    (kk : W p l e R s m args below meth c H locs cells slots Q (F0 m x.handlerPc ls [.ref q])) : vx_W p l e R s m args below meth c H locs cells slots Q (F0 m pc ls rest) q := by
  intro T hT X
  have hpl : e.platform.magicAccessors = ({} : Platform).magicAccessors := by rw [X.admits.platform]
  obtain ⟨c3, c4, hc3, hc4, hasg⟩ := Cond.castable_spec hcast
  cases Option.some.inj (hc3.symm.trans hcl)
  obtain ⟨c5, hc5, hcl5⟩ := Cond.classLink_spec hown hlink e.platform hpl
  cases Option.some.inj (hc4.symm.trans hc5)
  obtain ⟨vm', X', st⟩ := Jvm.Stand.thenCaughtThrough X q (g := F0 m pc ls rest) rfl (Steps.refl _) (by rw [hT]; exact hcell) (by rw [hv]; rfl) (by obtain ⟨k9, h9, -⟩ := Vm.findClass_spec hcl; exact ⟨k9, h9⟩) pre x suf hsplit
    (fun z hz => by
      rcases hpass z hz with h | ⟨hz0, nm, hl1, hn1⟩
      · exact Or.inl h
      · obtain ⟨c6, hc6, hcl6⟩ := Cond.classLink_spec hown hl1 e.platform hpl
        obtain ⟨a8, b8, h1, h2, h3⟩ := hn1
        cases Option.some.inj (h1.symm.trans hcl)
        cases Option.some.inj (h2.symm.trans hc6)
        exact Or.inr ⟨hz0, _, hcl6, h3⟩) hx (Or.inr ⟨h0, c4, hcl5, hasg⟩)
  obtain ⟨t, a1, b1⟩ := kk (T.setVm vm') hT X'
  exact ⟨t, st.trans a1, b1⟩
end Rows
section Ends
variable {p : Program} {l : Launch} {e : Env} {R : Room} {s : State} {m : MethodId} {args : Array Value} {below : List Frame} {meth : Method} {c : Code} {H : Heap} {locs : List Loc} {cells slots : Nat} {Q : State → Prop}
variable {mc ms : Nat} {free : Addr → Prop} {A0 A1 : Nat → Prop} {H0 : Heap} {a : Array Value} {ls : Array Slot} {st0 rest : List Value}
variable {Qc : Array Value → State → Outcome → State → Prop} {XC : String → State → State → Prop}
/-- what a body that may throw owes at its end -/
def vx_MQ (below : List Frame) (Qc : Array Value → State → Outcome → State → Prop) (XC : String → State → State → Prop) (a : Array Value) (s : State) (mc ms : Nat) (free : Addr → Prop) : State → Prop := fun t =>
  ∃ o, t.status = .running ∧ Ended t below o ∧ vx_Q Qc XC mc ms free a s o t
theorem vx_ret {g : JFrame} {mc ms : Nat} (k : W p l e R s m args below meth c H locs cells slots (MQ below Qc args s mc ms free) g) : W p l e R s m args below meth c H locs cells slots (vx_MQ below Qc XC args s mc ms free) g := by
  intro T hT X
  obtain ⟨t, a1, o, b1, b2, b3, b4⟩ := k T hT X
  exact ⟨t, a1, o, b1, b2, Or.inl ⟨b3, b4⟩⟩
/-- not caught here: it goes on to the caller -/
theorem vx_widen {g : JFrame} {q : Addr} {k n : Nat} (h1 : cells ≤ k) (h2 : slots ≤ n) (kk : vx_W p l e R s m args below meth c H locs k n Q g q) : vx_W p l e R s m args below meth c H locs cells slots Q g q := fun T hT X => kk T hT (stand_widen X h1 h2)
theorem vx_out {pc : Nat} {E : String} {ce : Cell} {q : Addr} {mc ms : Nat} (hout : ∀ x ∈ c.exceptionTable.toList, covers x pc = false) (hlocks : meth.locks = false) (hcell : H[q]? = some ce) (hv : ce.vm = .none) (hcl : s.vm.findClass E = some ce.cls)
    (hx : ∀ t : State, t.heap = H → s.vm.Alike t.vm → XC E s t) (hf : ∀ z ∈ locs, free z.base) (hc : cells ≤ mc) (hs : slots ≤ ms) :
    vx_W p l e R s m args below meth c H locs cells slots (vx_MQ below Qc XC args s mc ms free) (F0 m pc ls rest) q := by
  intro T hT X
  obtain ⟨st1, hrun, hend, hW, hsm⟩ := X.leaveThrown q (g := F0 m pc ls rest) rfl rfl rfl hout hlocks
  have hcell9 : (T.setFrames (.throwing q :: below)).heap[q]? = some ce := by
    show T.heap[q]? = some ce
    rw [hT]; exact hcell
  exact ⟨_, st1, .threw q, hrun, hend, Or.inr ⟨q, rfl, E, ce, locs, hx _ hT hW.alike, hcell9, hv, hcl, hW, hsm.mono hc hs, hf⟩⟩
theorem vx_frame {U : State} {k n : Nat} (h : s.sameButNew ({ U with vm := s.vm } : State) locs k n) : s.heap.size ≤ U.heap.size ∧ ∀ q : Nat, q < s.heap.size → (∀ z ∈ locs, z.base ≠ q) → U.heap[q]? = s.heap[q]? := by
  obtain ⟨-, h2, -, -, -, h6⟩ := h
  refine ⟨h2, fun q hq hz => ?_⟩
  obtain ⟨c9, e1, e2, e3, e4⟩ := h6 q _ (Array.getElem?_eq_getElem hq)
  have hs : c9.slots = (s.heap[q]).slots := Array.ext_getElem? fun i => e4 i fun hm => hz _ hm rfl
  have h9 : c9 = s.heap[q] := by
    rw [hs] at e2
    exact e2
  have e5 : U.heap[q]? = some c9 := e1
  rw [e5, h9, Array.getElem?_eq_getElem hq]
/-- the words of a throw but the four that speak of the heap -/
def vx_no (w : Cond) : Bool := decide (w ≠ .isRef (.static Bundle.tN "UNASSIGNED_STACK" Bundle.steD)) && decide (w ≠ .isRef (.static Bundle.tN "SUPPRESSED_SENTINEL" Bundle.listD)) && decide (w ≠ .laysStatic Bundle.tN "UNASSIGNED_STACK" Bundle.steD) && decide (w ≠ .laysStatic Bundle.tN "SUPPRESSED_SENTINEL" Bundle.listD)
def vx_at0 (own : String) (ic : Nat) (X : String) (names : List String) : List Cond := (Bundle.ownAtoms0 own ic X names).filter vx_no
def vx_atS (own : String) (ic : Nat) (X : String) (names : List String) : List Cond := (Bundle.ownAtoms own ic X names).filter vx_no
/-- a word that the tables alone decide, or a good one -/
def vx_ot (w : Cond) : Bool := w.onTables || goodWord w
theorem vx_ot_at {args a' : Array Value} {s U : State} {w : Cond} (hW : s.WarmedH U.vm) (hvm : s.vm = U.vm) (hg : vx_ot w = true) (h : w.before args s = true) : w.before a' U = true := by
  simp only [vx_ot, Bool.or_eq_true] at hg
  rcases hg with hg | hg
  · exact va_tabs hg hvm h
  · exact word_at hW (good_of_word hg) h
/-- a list's words: the good ones out of the method's own list, the others by premises of their own -/
theorem vx_hat {args : Array Value} {s : State} {L B : List Cond} (h1 : ∀ w ∈ L.filter goodWord, w.before args s = true) (h2 : ∀ w ∈ L.filter (fun w => !goodWord w), w ∈ B) (h3 : ∀ w ∈ B, w.before args s = true) : ∀ w ∈ L, w.before args s = true := by
  intro w hw
  by_cases g : goodWord w = true
  · exact h1 w (List.mem_filter.mpr ⟨hw, g⟩)
  · refine h3 w (h2 w (List.mem_filter.mpr ⟨hw, ?_⟩))
    show (!goodWord w) = true
    cases hgw : goodWord w
    · rfl
    · exact absurd hgw g
theorem vx_c {args : Array Value} {s : State} {w : Cond} {B : List Cond} (h : w.before args s = true) (t : ∀ w ∈ B, w.before args s = true) : ∀ w' ∈ w :: B, w'.before args s = true := fun w' h' => (List.mem_cons.mp h').elim (fun e => by rw [e]; exact h) (t w')
theorem vx_n {args : Array Value} {s : State} : ∀ w ∈ ([] : List Cond), w.before args s = true := fun _ h => nomatch h
theorem vx_own {args : Array Value} {s : State} {L : List Cond} (h1 : ∀ w ∈ L.filter vx_no, w.before args s = true)
    (hU : (Cond.isRef (.static Bundle.tN "UNASSIGNED_STACK" Bundle.steD)).before args s = true) (hN : (Cond.isRef (.static Bundle.tN "SUPPRESSED_SENTINEL" Bundle.listD)).before args s = true)
    (lU : (Cond.laysStatic Bundle.tN "UNASSIGNED_STACK" Bundle.steD).before args s = true) (lN : (Cond.laysStatic Bundle.tN "SUPPRESSED_SENTINEL" Bundle.listD).before args s = true) : ∀ w ∈ L, w.before args s = true := by
  intro w hw
  by_cases e1 : w = .isRef (.static Bundle.tN "UNASSIGNED_STACK" Bundle.steD)
  · rw [e1]; exact hU
  · by_cases e2 : w = .isRef (.static Bundle.tN "SUPPRESSED_SENTINEL" Bundle.listD)
    · rw [e2]; exact hN
    · by_cases e3 : w = .laysStatic Bundle.tN "UNASSIGNED_STACK" Bundle.steD
      · rw [e3]; exact lU
      · by_cases e4 : w = .laysStatic Bundle.tN "SUPPRESSED_SENTINEL" Bundle.listD
        · rw [e4]; exact lN
        · exact h1 w (List.mem_filter.mpr ⟨hw, by unfold vx_no; rw [decide_eq_true e1, decide_eq_true e2, decide_eq_true e3, decide_eq_true e4]; rfl⟩)
/-- where a static field lies, its class's statics cell in H -/
def vx_L (C n d : String) (A : Nat → Prop) (U : State) (H : Heap) : Prop := ∃ (c : ClassId) (k : Class) (i : Nat) (f : Field) (a : Nat) (cell : Cell), U.vm.findClass C = some c ∧ U.fieldFound? C n d = some (c, k, i, f) ∧ f.isStatic = true ∧ k.statics = some a ∧ H[a]? = some cell ∧ cell.vm.isStatics = true ∧ cell.cls = c ∧ f.slot < cell.slots.size ∧ k.staticTypes[f.slot]? = some f.type ∧ ¬ A a
theorem vx_L.moved {C n d : String} {A : Nat → Prop} {u U : State} {H : Heap} (hvm : u.vm.Alike U.vm) (h : vx_L C n d A u H) : vx_L C n d A U H := by
  obtain ⟨c, k, i, f, a, cell, h1, h2, h3, h4, h5, h6, h7, h8, h9, h10⟩ := h
  obtain ⟨k', hi', he⟩ := State.fieldFound?_setVm hvm h2
  exact ⟨c, k', i, f, a, cell, by rw [hvm.findClass]; exact h1, hi', h3, by rw [he]; exact h4, h5, h6, h7, h8, by rw [he]; exact h9, h10⟩
theorem vx_L.kept {C n d : String} {A : Nat → Prop} {U : State} {H H1 : Heap} (h : vx_L C n d A U H) (hq : ∀ a : Nat, a < H.size → ¬ A a → H1[a]? = H[a]?) : vx_L C n d A U H1 := by
  obtain ⟨c, k, i, f, a, cell, h1, h2, h3, h4, h5, h6, h7, h8, h9, h10⟩ := h
  exact ⟨c, k, i, f, a, cell, h1, h2, h3, h4, by rw [hq a (Array.getElem?_eq_some_iff.mp h5).1 h10]; exact h5, h6, h7, h8, h9, h10⟩
theorem vx_L.narrow {C n d : String} {A B : Nat → Prop} {U : State} {H : Heap} (h : vx_L C n d A U H) (hAB : ∀ q, B q → A q) : vx_L C n d B U H := by
  obtain ⟨c, k, i, f, a, cell, h1, h2, h3, h4, h5, h6, h7, h8, h9, h10⟩ := h
  exact ⟨c, k, i, f, a, cell, h1, h2, h3, h4, h5, h6, h7, h8, h9, fun z => h10 (hAB _ z)⟩
theorem vx_L.word {C n d : String} {A : Nat → Prop} {s : State} {args : Array Value} (h : vx_L C n d A s s.heap) : (Cond.laysStatic C n d).before args s = true := by
  obtain ⟨c, k, i, f, a, cell, h1, h2, h3, h4, h5, h6, h7, h8, h9, -⟩ := h
  show (Cond.laysStatic C n d).holds args s none s [] = true
  exact Cond.laysStatic_of h1 h2 h3 h4 h5 h6 h7 h8 h9
/-- .. and what it holds: null or some reference -/
def vx_Zq (C n d : String) (A : Nat → Prop) (U : State) (H : Heap) : Prop := va_Zq C n d A U H ∧ vx_L C n d A U H
theorem vx_Zq.moved {C n d : String} {A : Nat → Prop} {u U : State} {H : Heap} (hvm : u.vm.Alike U.vm) (h : vx_Zq C n d A u H) : vx_Zq C n d A U H := ⟨va_Zq.moved hvm h.1, vx_L.moved hvm h.2⟩
theorem vx_Zq.kept {C n d : String} {A : Nat → Prop} {U : State} {H H1 : Heap} (h : vx_Zq C n d A U H) (hq : ∀ a : Nat, a < H.size → ¬ A a → H1[a]? = H[a]?) : vx_Zq C n d A U H1 := ⟨va_Zq.kept h.1 hq, vx_L.kept h.2 hq⟩
theorem vx_Zq.narrow {C n d : String} {A B : Nat → Prop} {U : State} {H : Heap} (h : vx_Zq C n d A U H) (hAB : ∀ q, B q → A q) : vx_Zq C n d B U H := ⟨va_Zq.narrow h.1 hAB, vx_L.narrow h.2 hAB⟩
theorem vx_Zqof {args : Array Value} {s : State} {C n d : String} {A : Nat → Prop} (hl : (Cond.laysStatic C n d).before args s = true) (hini : (Cond.initialized C).before args s = true) (h : (Cond.isRef (.static C n d)).before args s = true) (hA : ∀ a : Nat, a < s.heap.size → ¬ A a) : vx_Zq C n d A s s.heap := by
  refine ⟨va_Zqof hl hini h hA, ?_⟩
  obtain ⟨c, k, i, f, a, cell, h1, h2, h3, h4, h5, h6, h7, h8, h9⟩ := Cond.laysStatic_spec hl
  exact ⟨c, k, i, f, a, cell, h1, h2, h3, h4, h5, h6, h7, h8, h9, hA a (Array.getElem?_eq_some_iff.mp h5).1⟩
theorem vx_isRef {C n d : String} {v : Value} {A : Nat → Prop} {s : State} {args : Array Value} (h : va_Z C n d v A s s.heap) (hv : v.isRef = true) : (Cond.isRef (.static C n d)).before args s = true := by
  obtain ⟨cf, kf, fi, f, a, cell, h1, h2, h3, h4, h5, h6, h7, -⟩ := h
  have he : (Term.static C n d).eval args s none [] s = some v := by
    simp [Term.eval, State.fieldNamed?, h1, h2, h4, h5, h6, h7]
  simp only [Cond.before, Cond.holds, Cond.value, he]
  cases v <;> simp_all [Value.isRef]
theorem vx_isRefq {C n d : String} {A : Nat → Prop} {s : State} {args : Array Value} (h : va_Zq C n d A s s.heap) : (Cond.isRef (.static C n d)).before args s = true := by
  rcases h with h | ⟨t, h⟩
  · exact vx_isRef h rfl
  · exact vx_isRef h rfl
/-- the same frame, seen from here: as if the method were called anew in this heap -/
theorem vx_rebase {T : State} (X : Stand p l e R s m args below meth c T locs cells slots) {R' : Room} (hf : R'.frames ≤ R.frames) (hl : R'.locals ≤ R.locals) (hc : cells + R'.cells ≤ R.cells) (hs : slots + R'.slots ≤ R.slots) :
    Stand p l e R' ((T.setVm s.vm).setFrames (.invoking m args :: below)) m args below meth c T [] 0 0 := by
  have htop : (T.setVm s.vm).topJava?.isSome := X.here.top
  have hF : ((T.setVm s.vm).setFrames (.invoking m args :: below)).frames = .invoking m args :: below := State.frames_setFrames _ (State.cur_lt_of_top htop)
  obtain ⟨g₀, hg0⟩ := Option.isSome_iff_exists.mp htop
  obtain ⟨r, hr⟩ := State.topJava?_eq_some.mp hg0
  have hl9 : e.platform.stackLimits (T.setVm s.vm).me = e.platform.stackLimits s.me := X.limits
  have hb9 : (T.setVm s.vm).me.stackBytes = s.me.stackBytes := X.bytes
  refine ⟨X.admits, X.cas, X.clock, hF, ?_, X.hears, X.method, X.code, X.here, X.tail, X.warmed, ?_, ?_, ?_⟩
  · have h := X.room
    have hU : ((T.setVm s.vm).setFrames (.invoking m args :: below)).localsInUse = s.localsInUse := by
      rw [State.localsInUse_invoking hF (meth := meth) (c := c) X.method X.code, State.localsInUse_invoking X.frames X.method X.code]
    simp only [State.hasRoom, Bool.and_eq_true, decide_eq_true_eq] at h ⊢
    obtain ⟨⟨⟨⟨h1, h2, h3, h4, h5, h6⟩, h7⟩, h8⟩, h9⟩ := h
    rw [X.frames, List.length_cons] at h2 h3
    have q1 := X.heapSize
    have q2 := X.used
    simp only [hF, hU, List.length_cons, State.stackLimits_setFrames, State.stackBytes_setFrames, hl9, hb9]
    refine ⟨⟨⟨⟨by omega, by omega, by omega, by omega, by omega, h6⟩, ?_⟩, ?_⟩, X.book⟩
    · show T.heap.size + R'.cells ≤ e.platform.maxCells
      omega
    · show T.slotsUsed + R'.slots ≤ e.platform.maxSlots
      omega
  · rw [State.stackLimits_setFrames]; rfl
  · rw [State.stackBytes_setFrames]; rfl
  · refine ⟨?_, Nat.le_refl _, Nat.le_refl _, ?_, ?_, fun a c9 h9 => ⟨c9, h9, rfl, rfl, fun _ _ => rfl⟩⟩
    · obtain ⟨t, ht, -⟩ := State.frames_cons hr
      show T.setVm s.vm = { ((T.setVm s.vm).setFrames (.invoking m args :: below)).setFrames (T.setVm s.vm).frames with heap := T.heap, slotsUsed := T.slotsUsed }
      rw [State.setFrames_setFrames, State.setFrames_self ht]
      rfl
    · show T.slotsUsed = T.slotsUsed + ((T.heap.toList.drop T.heap.size).map (·.slots.size)).sum
      rw [List.drop_eq_nil_of_le (Nat.le_of_eq Array.length_toList)]
      rfl
    · show ((T.heap.toList.drop T.heap.size).map (·.slots.size)).sum ≤ 0
      rw [List.drop_eq_nil_of_le (Nat.le_of_eq Array.length_toList)]
      exact Nat.le_refl _
/-- 'throw new E()': new; dup; invokespecial; athrow -/
theorem vx_throw0 {cc : ByteArray} {pc : Nat} (hexec : p.tables.exec = Jvm.exec) (hb : c.code = cc) (hl : l.stackTraces = false) {own cls : String} {names : List String} {ik ic mc ms : Nat} {A : Nat → Prop}
    (hown : s.vm.findClass own = some m.cls) (hcls : Bundle.fit cls = true) (hnames : ∀ n ∈ names, Bundle.fit n = true)
    (hk : (Cond.classLink own ik cls).before args s = true) (hini : (Cond.initialized cls).before args s = true) (hat : ∀ w ∈ vx_at0 own ic cls names, w.before args s = true)
    (hgood : ∀ w ∈ Cond.classLink own ik cls :: Cond.initialized cls :: vx_at0 own ic cls names, vx_ot w = true)
    (hU : vx_Zq Bundle.tN "UNASSIGNED_STACK" Bundle.steD A s s.heap) (hN : vx_Zq Bundle.tN "SUPPRESSED_SENTINEL" Bundle.listD A s s.heap) (hS : va_S A s.heap H locs) (hsize : ls.size = c.maxLocals)
    (d0 : decode cc pc = .ok (.new ik, 3)) (d3 : decode cc (pc + 3) = .ok (.dup, 1)) (d4 : decode cc (pc + 4) = .ok (.invokespecial ic, 3)) (d7 : decode cc (pc + 7) = .ok (.athrow, 1))
    (hout : ∀ x ∈ c.exceptionTable.toList, covers x (pc + 7) = false)
    (hRframes : names.length + 3 < R.frames) (hRlocals : (rest.map fun v => v.category).sum + (13 * (names.length + 1) + 42) ≤ R.locals) (hRcells : cells + 1 ≤ R.cells) (hRslots : slots + 6 ≤ R.slots) (hlocks : meth.locks = false)
    (hx : ∀ t : State, s.vm.Alike t.vm → H.size ≤ t.heap.size → (∀ q : Nat, q < H.size → t.heap[q]? = H[q]?) → XC cls s t)
    (hf : ∀ z ∈ locs, free z.base) (hc : cells + 1 ≤ mc) (hs : slots + 6 ≤ ms) :
    W p l e R s m args below meth c H locs cells slots (vx_MQ below Qc XC args s mc ms free) (F0 m pc ls rest) := by
  intro T hT X
  have htr : e.platform.stackTraces = false := (show e.platform.stackTraces = l.stackTraces by rw [X.admits.platform]).trans hl
  have Y := vx_rebase X (R' := { frames := R.frames, locals := R.locals, cells := 1, slots := 6 }) (Nat.le_refl _) (Nat.le_refl _) hRcells hRslots
  obtain ⟨s', hA⟩ : ∃ z, z = (T.setVm s.vm).setFrames (.invoking m args :: below) := ⟨_, rfl⟩
  rw [← hA] at Y
  have hvm : s'.vm = s.vm := by rw [hA]; rfl
  have hhp : s'.heap = H := by rw [hA]; exact hT
  have hW0 : s.WarmedH s'.vm := by rw [hvm]; exact State.WarmedH.refl s
  have hat' : ∀ w ∈ vx_at0 own ic cls names, w.before args s' = true := fun w hw => vx_ot_at hW0 hvm.symm (hgood w (List.mem_cons_of_mem _ (List.mem_cons_of_mem _ hw))) (hat w hw)
  have hk' : (Cond.classLink own ik cls).before args s' = true := vx_ot_at hW0 hvm.symm (hgood _ List.mem_cons_self) hk
  have hini' : (Cond.initialized cls).before args s' = true := vx_ot_at hW0 hvm.symm (hgood _ (List.mem_cons_of_mem _ List.mem_cons_self)) hini
  have hU' : vx_Zq Bundle.tN "UNASSIGNED_STACK" Bundle.steD A s' s'.heap := by rw [hhp]; exact vx_Zq.moved hW0.alike (hU.kept hS.2.1)
  have hN' : vx_Zq Bundle.tN "SUPPRESSED_SENTINEL" Bundle.listD A s' s'.heap := by rw [hhp]; exact vx_Zq.moved hW0.alike (hN.kept hS.2.1)
  have h : ∀ w ∈ Bundle.ownAtoms0 own ic cls names, w.before args s' = true := vx_own hat' (vx_isRefq hU'.1) (vx_isRefq hN'.1) hU'.2.word hN'.2.word
  have hown' : s'.vm.findClass own = some m.cls := by rw [hvm]; exact hown
  have hins : (Cond.instantiable cls 6).before args s' = true := h _ (by simp [Bundle.ownAtoms0])
  obtain ⟨vm₁, cX, kX, hfX, hkX, -, -, X₁, st1⟩ := Y.newCold hexec (own := own) (C := cls) (index := ik) (n := 6) hown' hk' hins hini'
    (g := F0 m pc ls rest) rfl (by rw [hb]; exact d0) (Nat.le_refl _) (Nat.le_refl _)
  generalize hT1 : (T.setVm vm₁).pushCell { cls := cX, slots := kX.instanceTypes.map defaultValue, vm := .none } = T1 at X₁ st1
  have hcat : (Value.ref T.heap.size).category = 1 := rfl
  have hcellA : T1.heap[T.heap.size]? = some (freshCell cX kX) := by rw [← hT1]; exact State.heap_pushCell_size _ _
  have d3' : decode c.code (pc + 3) = .ok (.dup, 1) := by rw [hb]; exact d3
  obtain ⟨U, hsteps, hrun, hend, hW, hsame, ce, hce, hO⟩ := X₁.ctorThrow0 hexec htr (own := own) (cls := cls) (names := names) (ic := ic) hown' hcls hnames h (fun x hx => nomatch hx) hfX hkX hcellA (by rw [hhp, hT]; exact Nat.le_refl _)
    (g := { method := m, pc := pc + 4, locals := ls, stack := .ref T.heap.size :: .ref T.heap.size :: rest, locked := none }) rfl hsize rfl rfl (rest := rest) rfl
    (by rw [hb]; exact d4) (by rw [hb]; exact d7) hout hRframes (by simp only [List.map_cons, List.sum_cons, hcat]; omega) hlocks
  obtain ⟨f1, f2⟩ := vx_frame hsame
  rw [hhp] at f1 f2
  have hWs : s.WarmedH U.vm := State.WarmedH.trans hW0 hW
  have hcl : s.vm.findClass cls = some ce.cls := by
    have h9 := hO.cls
    rw [hvm] at h9
    exact h9
  have hall : s.sameButNew ({ U with vm := s.vm } : State) locs mc ms := by
    subst hA
    obtain ⟨e1, e2⟩ := hsame
    rw [State.setFrames_setFrames] at e1
    have h2 : (T.setVm s.vm).sameButNew ({ U with vm := s.vm } : State) [] (0 + 1) (0 + 6) := ⟨e1, e2⟩
    have h3 := X.same.trans h2
    rw [List.append_nil] at h3
    exact h3.mono hc hs
  refine ⟨U, ?_, .threw T.heap.size, hrun, hend, Or.inr ⟨T.heap.size, rfl, cls, ce, locs, hx U hWs.alike f1 (fun q hq => f2 q hq (fun z hz => nomatch hz)), hce, hO.vm, hcl, hWs, hall, hf⟩⟩
  refine st1 _ ?_
  show Steps p.tables e below (T1.setTop { method := m, pc := pc + 3, locals := ls, stack := .ref T.heap.size :: rest, locked := none }) _
  jvm_step X₁.here [X₁.here.top, hexec, d3', Value.category]
  exact hsteps
/-- 'throw new E("text")': new; dup; ldc; invokespecial; athrow -/
theorem vx_throwS {cc : ByteArray} {pc : Nat} (hexec : p.tables.exec = Jvm.exec) (hb : c.code = cc) (hl : l.stackTraces = false) {own cls text : String} {names : List String} {ik is ic mc ms sa : Nat} {A : Nat → Prop}
    (hown : s.vm.findClass own = some m.cls) (hcls : Bundle.fit cls = true) (hnames : ∀ n ∈ names, Bundle.fit n = true)
    (hk : (Cond.classLink own ik cls).before args s = true) (hini : (Cond.initialized cls).before args s = true) (hstr : vk_R own is text sa s) (hat : ∀ w ∈ vx_atS own ic cls names, w.before args s = true)
    (hgood : ∀ w ∈ Cond.classLink own ik cls :: Cond.initialized cls :: vx_atS own ic cls names, vx_ot w = true)
    (hU : vx_Zq Bundle.tN "UNASSIGNED_STACK" Bundle.steD A s s.heap) (hN : vx_Zq Bundle.tN "SUPPRESSED_SENTINEL" Bundle.listD A s s.heap) (hS : va_S A s.heap H locs) (hsize : ls.size = c.maxLocals)
    (d0 : decode cc pc = .ok (.new ik, 3)) (d3 : decode cc (pc + 3) = .ok (.dup, 1)) (d4 : decode cc (pc + 4) = .ok (.ldc is, 2)) (d6 : decode cc (pc + 6) = .ok (.invokespecial ic, 3)) (d9 : decode cc (pc + 9) = .ok (.athrow, 1))
    (hout : ∀ x ∈ c.exceptionTable.toList, covers x (pc + 9) = false)
    (hRframes : names.length + 3 < R.frames) (hRlocals : (rest.map fun v => v.category).sum + (13 * (names.length + 1) + 43) ≤ R.locals) (hRcells : cells + 1 ≤ R.cells) (hRslots : slots + 6 ≤ R.slots) (hlocks : meth.locks = false)
    (hx : ∀ t : State, s.vm.Alike t.vm → H.size ≤ t.heap.size → (∀ q : Nat, q < H.size → t.heap[q]? = H[q]?) → XC cls s t)
    (hf : ∀ z ∈ locs, free z.base) (hc : cells + 1 ≤ mc) (hs : slots + 6 ≤ ms) :
    W p l e R s m args below meth c H locs cells slots (vx_MQ below Qc XC args s mc ms free) (F0 m pc ls rest) := by
  intro T hT X
  have htr : e.platform.stackTraces = false := (show e.platform.stackTraces = l.stackTraces by rw [X.admits.platform]).trans hl
  have Y := vx_rebase X (R' := { frames := R.frames, locals := R.locals, cells := 1, slots := 6 }) (Nat.le_refl _) (Nat.le_refl _) hRcells hRslots
  obtain ⟨s', hA⟩ : ∃ z, z = (T.setVm s.vm).setFrames (.invoking m args :: below) := ⟨_, rfl⟩
  rw [← hA] at Y
  have hvm : s'.vm = s.vm := by rw [hA]; rfl
  have hhp : s'.heap = H := by rw [hA]; exact hT
  have hW0 : s.WarmedH s'.vm := by rw [hvm]; exact State.WarmedH.refl s
  have hat' : ∀ w ∈ vx_atS own ic cls names, w.before args s' = true := fun w hw => vx_ot_at hW0 hvm.symm (hgood w (List.mem_cons_of_mem _ (List.mem_cons_of_mem _ hw))) (hat w hw)
  have hk' : (Cond.classLink own ik cls).before args s' = true := vx_ot_at hW0 hvm.symm (hgood _ List.mem_cons_self) hk
  have hini' : (Cond.initialized cls).before args s' = true := vx_ot_at hW0 hvm.symm (hgood _ (List.mem_cons_of_mem _ List.mem_cons_self)) hini
  have hU' : vx_Zq Bundle.tN "UNASSIGNED_STACK" Bundle.steD A s' s'.heap := by rw [hhp]; exact vx_Zq.moved hW0.alike (hU.kept hS.2.1)
  have hN' : vx_Zq Bundle.tN "SUPPRESSED_SENTINEL" Bundle.listD A s' s'.heap := by rw [hhp]; exact vx_Zq.moved hW0.alike (hN.kept hS.2.1)
  have h : ∀ w ∈ Bundle.ownAtoms own ic cls names, w.before args s' = true := vx_own hat' (vx_isRefq hU'.1) (vx_isRefq hN'.1) hU'.2.word hN'.2.word
  have hown' : s'.vm.findClass own = some m.cls := by rw [hvm]; exact hown
  have hins : (Cond.instantiable cls 6).before args s' = true := h _ (by simp [Bundle.ownAtoms])
  obtain ⟨vm₁, cX, kX, hfX, hkX, -, -, X₁, st1⟩ := Y.newCold hexec (own := own) (C := cls) (index := ik) (n := 6) hown' hk' hins hini'
    (g := F0 m pc ls rest) rfl (by rw [hb]; exact d0) (Nat.le_refl _) (Nat.le_refl _)
  generalize hT1 : (T.setVm vm₁).pushCell { cls := cX, slots := kX.instanceTypes.map defaultValue, vm := .none } = T1 at X₁ st1
  have hcat : (Value.ref T.heap.size).category = 1 := rfl
  have hcellA : T1.heap[T.heap.size]? = some (freshCell cX kX) := by rw [← hT1]; exact State.heap_pushCell_size _ _
  have d3' : decode c.code (pc + 3) = .ok (.dup, 1) := by rw [hb]; exact d3
  have d4' : decode c.code (pc + 4) = .ok (.ldc is, 2) := by rw [hb]; exact d4
  have hstr' : vk_R own is text sa s' := vk_R.warm hW0 hstr
  obtain ⟨U, hsteps, hrun, hend, hW, hsame, ce, hce, hO⟩ := X₁.ctorThrowS hexec htr (own := own) (cls := cls) (names := names) (ic := ic) hown' hcls hnames h (fun x hx => nomatch hx) hfX hkX hcellA (by rw [hhp, hT]; exact Nat.le_refl _) (msg := .ref sa) rfl
    (g := { method := m, pc := pc + 6, locals := ls, stack := .ref sa :: .ref T.heap.size :: .ref T.heap.size :: rest, locked := none }) rfl hsize rfl rfl (rest := rest) rfl
    (by rw [hb]; exact d6) (by rw [hb]; exact d9) hout hRframes (by simp only [List.map_cons, List.sum_cons, hcat]; omega) hlocks
  obtain ⟨f1, f2⟩ := vx_frame hsame
  rw [hhp] at f1 f2
  have hWs : s.WarmedH U.vm := State.WarmedH.trans hW0 hW
  have hcl : s.vm.findClass cls = some ce.cls := by
    have h9 := hO.cls
    rw [hvm] at h9
    exact h9
  have hall : s.sameButNew ({ U with vm := s.vm } : State) locs mc ms := by
    subst hA
    obtain ⟨e1, e2⟩ := hsame
    rw [State.setFrames_setFrames] at e1
    have h2 : (T.setVm s.vm).sameButNew ({ U with vm := s.vm } : State) [] (0 + 1) (0 + 6) := ⟨e1, e2⟩
    have h3 := X.same.trans h2
    rw [List.append_nil] at h3
    exact h3.mono hc hs
  refine ⟨U, ?_, .threw T.heap.size, hrun, hend, Or.inr ⟨T.heap.size, rfl, cls, ce, locs, hx U hWs.alike f1 (fun q hq => f2 q hq (fun z hz => nomatch hz)), hce, hO.vm, hcl, hWs, hall, hf⟩⟩
  refine st1 _ ?_
  show Steps p.tables e below (T1.setTop { method := m, pc := pc + 3, locals := ls, stack := .ref T.heap.size :: rest, locked := none }) _
  jvm_step X₁.here [X₁.here.top, hexec, d3', Value.category]
  exact X₁.ldcString hexec (own := own) (text := text) (index := is) (a := sa) hown' hstr'.1 hstr'.2
    (g := { method := m, pc := pc + 4, locals := ls, stack := .ref T.heap.size :: .ref T.heap.size :: rest, locked := none }) rfl d4' _ hsteps
/-- 'throw new E("text")', the text by a wide index -/
theorem vx_throwSW {cc : ByteArray} {pc : Nat} (hexec : p.tables.exec = Jvm.exec) (hb : c.code = cc) (hl : l.stackTraces = false) {own cls text : String} {names : List String} {ik is ic mc ms sa : Nat} {A : Nat → Prop}
    (hown : s.vm.findClass own = some m.cls) (hcls : Bundle.fit cls = true) (hnames : ∀ n ∈ names, Bundle.fit n = true)
    (hk : (Cond.classLink own ik cls).before args s = true) (hini : (Cond.initialized cls).before args s = true) (hstr : vk_R own is text sa s) (hat : ∀ w ∈ vx_atS own ic cls names, w.before args s = true)
    (hgood : ∀ w ∈ Cond.classLink own ik cls :: Cond.initialized cls :: vx_atS own ic cls names, vx_ot w = true)
    (hU : vx_Zq Bundle.tN "UNASSIGNED_STACK" Bundle.steD A s s.heap) (hN : vx_Zq Bundle.tN "SUPPRESSED_SENTINEL" Bundle.listD A s s.heap) (hS : va_S A s.heap H locs) (hsize : ls.size = c.maxLocals)
    (d0 : decode cc pc = .ok (.new ik, 3)) (d3 : decode cc (pc + 3) = .ok (.dup, 1)) (d4 : decode cc (pc + 4) = .ok (.ldc_w is, 3)) (d7 : decode cc (pc + 7) = .ok (.invokespecial ic, 3)) (d10 : decode cc (pc + 10) = .ok (.athrow, 1))
    (hout : ∀ x ∈ c.exceptionTable.toList, covers x (pc + 10) = false)
    (hRframes : names.length + 3 < R.frames) (hRlocals : (rest.map fun v => v.category).sum + (13 * (names.length + 1) + 43) ≤ R.locals) (hRcells : cells + 1 ≤ R.cells) (hRslots : slots + 6 ≤ R.slots) (hlocks : meth.locks = false)
    (hx : ∀ t : State, s.vm.Alike t.vm → H.size ≤ t.heap.size → (∀ q : Nat, q < H.size → t.heap[q]? = H[q]?) → XC cls s t)
    (hf : ∀ z ∈ locs, free z.base) (hc : cells + 1 ≤ mc) (hs : slots + 6 ≤ ms) :
    W p l e R s m args below meth c H locs cells slots (vx_MQ below Qc XC args s mc ms free) (F0 m pc ls rest) := by
  intro T hT X
  have htr : e.platform.stackTraces = false := (show e.platform.stackTraces = l.stackTraces by rw [X.admits.platform]).trans hl
  have Y := vx_rebase X (R' := { frames := R.frames, locals := R.locals, cells := 1, slots := 6 }) (Nat.le_refl _) (Nat.le_refl _) hRcells hRslots
  obtain ⟨s', hA⟩ : ∃ z, z = (T.setVm s.vm).setFrames (.invoking m args :: below) := ⟨_, rfl⟩
  rw [← hA] at Y
  have hvm : s'.vm = s.vm := by rw [hA]; rfl
  have hhp : s'.heap = H := by rw [hA]; exact hT
  have hW0 : s.WarmedH s'.vm := by rw [hvm]; exact State.WarmedH.refl s
  have hat' : ∀ w ∈ vx_atS own ic cls names, w.before args s' = true := fun w hw => vx_ot_at hW0 hvm.symm (hgood w (List.mem_cons_of_mem _ (List.mem_cons_of_mem _ hw))) (hat w hw)
  have hk' : (Cond.classLink own ik cls).before args s' = true := vx_ot_at hW0 hvm.symm (hgood _ List.mem_cons_self) hk
  have hini' : (Cond.initialized cls).before args s' = true := vx_ot_at hW0 hvm.symm (hgood _ (List.mem_cons_of_mem _ List.mem_cons_self)) hini
  have hU' : vx_Zq Bundle.tN "UNASSIGNED_STACK" Bundle.steD A s' s'.heap := by rw [hhp]; exact vx_Zq.moved hW0.alike (hU.kept hS.2.1)
  have hN' : vx_Zq Bundle.tN "SUPPRESSED_SENTINEL" Bundle.listD A s' s'.heap := by rw [hhp]; exact vx_Zq.moved hW0.alike (hN.kept hS.2.1)
  have h : ∀ w ∈ Bundle.ownAtoms own ic cls names, w.before args s' = true := vx_own hat' (vx_isRefq hU'.1) (vx_isRefq hN'.1) hU'.2.word hN'.2.word
  have hown' : s'.vm.findClass own = some m.cls := by rw [hvm]; exact hown
  have hins : (Cond.instantiable cls 6).before args s' = true := h _ (by simp [Bundle.ownAtoms])
  obtain ⟨vm₁, cX, kX, hfX, hkX, -, -, X₁, st1⟩ := Y.newCold hexec (own := own) (C := cls) (index := ik) (n := 6) hown' hk' hins hini'
    (g := F0 m pc ls rest) rfl (by rw [hb]; exact d0) (Nat.le_refl _) (Nat.le_refl _)
  generalize hT1 : (T.setVm vm₁).pushCell { cls := cX, slots := kX.instanceTypes.map defaultValue, vm := .none } = T1 at X₁ st1
  have hcat : (Value.ref T.heap.size).category = 1 := rfl
  have hcellA : T1.heap[T.heap.size]? = some (freshCell cX kX) := by rw [← hT1]; exact State.heap_pushCell_size _ _
  have d3' : decode c.code (pc + 3) = .ok (.dup, 1) := by rw [hb]; exact d3
  have d4' : decode c.code (pc + 4) = .ok (.ldc_w is, 3) := by rw [hb]; exact d4
  have hstr' : vk_R own is text sa s' := vk_R.warm hW0 hstr
  obtain ⟨U, hsteps, hrun, hend, hW, hsame, ce, hce, hO⟩ := X₁.ctorThrowS hexec htr (own := own) (cls := cls) (names := names) (ic := ic) hown' hcls hnames h (fun x hx => nomatch hx) hfX hkX hcellA (by rw [hhp, hT]; exact Nat.le_refl _) (msg := .ref sa) rfl
    (g := { method := m, pc := pc + 7, locals := ls, stack := .ref sa :: .ref T.heap.size :: .ref T.heap.size :: rest, locked := none }) rfl hsize rfl rfl (rest := rest) rfl
    (by rw [hb]; exact d7) (by rw [hb]; exact d10) hout hRframes (by simp only [List.map_cons, List.sum_cons, hcat]; omega) hlocks
  obtain ⟨f1, f2⟩ := vx_frame hsame
  rw [hhp] at f1 f2
  have hWs : s.WarmedH U.vm := State.WarmedH.trans hW0 hW
  have hcl : s.vm.findClass cls = some ce.cls := by
    have h9 := hO.cls
    rw [hvm] at h9
    exact h9
  have hall : s.sameButNew ({ U with vm := s.vm } : State) locs mc ms := by
    subst hA
    obtain ⟨e1, e2⟩ := hsame
    rw [State.setFrames_setFrames] at e1
    have h2 : (T.setVm s.vm).sameButNew ({ U with vm := s.vm } : State) [] (0 + 1) (0 + 6) := ⟨e1, e2⟩
    have h3 := X.same.trans h2
    rw [List.append_nil] at h3
    exact h3.mono hc hs
  refine ⟨U, ?_, .threw T.heap.size, hrun, hend, Or.inr ⟨T.heap.size, rfl, cls, ce, locs, hx U hWs.alike f1 (fun q hq => f2 q hq (fun z hz => nomatch hz)), hce, hO.vm, hcl, hWs, hall, hf⟩⟩
  refine st1 _ ?_
  show Steps p.tables e below (T1.setTop { method := m, pc := pc + 3, locals := ls, stack := .ref T.heap.size :: rest, locked := none }) _
  jvm_step X₁.here [X₁.here.top, hexec, d3', Value.category]
  exact X₁.ldcStringW hexec (own := own) (text := text) (index := is) (a := sa) hown' hstr'.1 hstr'.2
    (g := { method := m, pc := pc + 4, locals := ls, stack := .ref T.heap.size :: .ref T.heap.size :: rest, locked := none }) rfl d4' _ hsteps
end Ends
section Bodies
variable {l : Launch}
theorem vx_ofW {y : MethodName} {ws ws' : List Cond} {rm : Room} {Pc : Array Value → State → Prop} {Qc : Array Value → State → Outcome → State → Prop} {XC : String → State → State → Prop} {mc ms : Nat} {free : Addr → Prop} {cc : ByteArray} {maxL : Nat} {ret : Option FieldType}
    (hy : plainName y.cls = true) (hw : ws = Cond.code y cc maxL ret :: ws')
    (body : ∀ p e s m args below meth c s₁, BodyLoose p l y (headSpec ws rm) cc maxL ret e s m args below meth c s₁ → c.maxLocals = maxL → (∀ x ∈ c.exceptionTable.toList, False) → Pc args s →
      W p l e (headSpec ws rm).room s m args below meth c s.heap [] 0 0 (vx_MQ below Qc XC args s mc ms free) (entryFrame m args maxL)) : vx_Met l y ws rm Pc Qc XC mc ms free := by
  refine MetFree.of_bodyS (code := cc) (maxLocals := maxL) (ret := ret) hy ?_ ?_
  · intro args s m h hn
    obtain ⟨meth, c, h1, h2, h3, h4, h5, h6, -, -⟩ := Cond.code_spec hn (atoms_spec (ws := ws) h _ (by rw [hw]; exact List.mem_cons_self))
    exact ⟨meth, c, h1, h2, h3, h4, h5, h6⟩
  · intro p e s m args below meth c s₁ B hml hP _
    have hh0 : s₁.heap = s.heap := by rw [B.state]; rfl
    have ht : ∀ x ∈ c.exceptionTable.toList, False := by
      obtain ⟨meth9, c9, h1, h2, -, -, -, -, h7, -⟩ := Cond.code_spec B.named (atoms_spec (ws := ws) B.pre _ (by rw [hw]; exact List.mem_cons_self))
      cases Option.some.inj (h1.symm.trans B.method)
      cases Option.some.inj (h2.symm.trans (Stand.of_body B).code)
      intro x hx
      rw [Array.isEmpty_iff.mp h7] at hx
      cases hx
    obtain ⟨t, a1, o, b1, b2, b3⟩ := body p e s m args below meth c s₁ B hml ht hP s₁ hh0 (Stand.of_body B)
    exact ⟨t, o, a1, b1, b2, b3⟩
/-- the table of a body with handlers -/
theorem vx_table {p : Program} {x y : MethodName} {S : Spec} {cc bytes : ByteArray} {maxL maxL' : Nat} {ret ret' : Option FieldType} {e : Env} {s s₁ : State} {m : MethodId} {args : Array Value} {below : List Frame} {meth : Method} {c : Code} {hh : List (Nat × Nat × Nat × Nat)}
    (B : BodyLoose p l y S cc maxL ret e s m args below meth c s₁) (h : (Cond.codeWith y bytes maxL' ret' hh).before args s = true) : c.exceptionTable.toList = tableOf hh := by
  obtain ⟨m9, meth9, c9, hn9, h1, h2, -, -, h6, -⟩ := Cond.codeWith_spec h
  cases Option.some.inj (hn9.symm.trans B.named)
  cases Option.some.inj (h1.symm.trans B.method)
  cases Option.some.inj (h2.symm.trans (Stand.of_body B).code)
  rw [← h6, table_eq]
end Bodies
end VXA
/-! ===== END ===== -/
/-! ===== BEGIN a static call of a method with an exception table ===== -/
section VXS
variable {p : Program} {l : Launch} {e : Env} {R : Room} {s : State} {m : MethodId} {args : Array Value} {below : List Frame} {meth : Method} {c : Code} {T : State} {H : Heap} {locs : List Loc} {cells slots : Nat}
abbrev vx_CSW (R : Room) (s : State) (args : Array Value) (own : String) (index : Nat) (y : MethodName) (bytes : ByteArray) (maxL : Nat) (ret : Option FieldType) (hh : List (Nat × Nat × Nat × Nat)) (ws : List Cond) (rm : Room) (mc ms n : Nat) : Prop :=
  (rm.cells = mc ∧ rm.slots = ms ∧ rm.frames + 1 ≤ R.frames ∧ 8 + (maxL + 11) + rm.locals ≤ R.locals ∧ (∀ w ∈ ws, ∀ (a' : Array Value) (U : State), s.WarmedH U.vm → w.before a' U = true) ∧ Cond.codeWith y bytes maxL ret hh ∈ ws) ∧
  (Cond.codeWith y bytes maxL ret hh).before args s = true ∧ (Cond.initialized y.cls).before args s = true ∧ (y.cls ≠ "java/lang/invoke/MethodHandle" ∧ y.cls ≠ "java/lang/invoke/VarHandle") ∧
  (∀ sig, parseMethodDescriptor y.desc = some sig → n = sig.parameters.length) ∧ (Cond.methodLink own index y).before args s = true ∧ (Cond.static y).before args s = true
theorem vx_cwSW {own : String} {index maxL mc ms : Nat} {y : MethodName} {bytes : ByteArray} {ret : Option FieldType} {hh : List (Nat × Nat × Nat × Nat)} {Ts ws ws' : List Cond} {rm : Room} (n : Nat) (ht : ∀ w ∈ Ts, w.before args s = true) (hT : GoodIn Ts (va_wsS own index y ws)) (hw : ws = Cond.codeWith y bytes maxL ret hh :: ws') (hrc : rm.cells = mc) (hrs : rm.slots = ms)
    (hd : y.cls ≠ "java/lang/invoke/MethodHandle" ∧ y.cls ≠ "java/lang/invoke/VarHandle" ∧ (parseMethodDescriptor y.desc).map (fun d => d.parameters.length) = some n) (hR : rm.frames + 1 ≤ R.frames ∧ 8 + (maxL + 11) + rm.locals ≤ R.locals) :
    vx_CSW R s args own index y bytes maxL ret hh ws rm mc ms n := by
  have ok : ∀ w ∈ va_wsS own index y ws, w.before args s = true := fun w h => ht w (hT w h).1
  have hG : GoodIn Ts ws := fun w h => hT w (by unfold va_wsS; exact List.mem_append_right _ h)
  have hc : Cond.codeWith y bytes maxL ret hh ∈ ws := by rw [hw]; exact List.mem_cons_self
  refine ⟨⟨hrc, hrs, hR.1, hR.2, pay_in ht hG, hc⟩, ht _ (hG _ hc).1, ok _ (by simp [va_wsS]), ⟨hd.1, hd.2.1⟩, fun sig h => ?_, ok _ (by simp [va_wsS]), ok _ (by simp [va_wsS])⟩
  have h2 := hd.2.2
  rw [h] at h2
  exact (Option.some.inj h2).symm
theorem vx_callSW (X : Stand p l e R s m args below meth c T locs cells slots) (hexec : p.tables.exec = Jvm.exec) {own : String} {index : Nat} {y : MethodName} {bytes : ByteArray} {maxL : Nat} {ret : Option FieldType} {hh : List (Nat × Nat × Nat × Nat)}
    (hown : s.vm.findClass own = some m.cls) (hlink : (Cond.methodLink own index y).before args s = true) (hstat : (Cond.static y).before args s = true) (hinit : (Cond.initialized y.cls).before args s = true)
    (hcode : (Cond.codeWith y bytes maxL ret hh).before args s = true) (hy : y.cls ≠ "java/lang/invoke/MethodHandle" ∧ y.cls ≠ "java/lang/invoke/VarHandle")
    {W9 : Nat} {Pre : Pt → Array Value → Prop} {Post : Pt → Array Value → Option Value → Pt → Prop} (hK : Back l R p e below s args y 3 W9 Pre Post)
    {g : JFrame} (hg : g.method = m) (hsize : g.locals.size = c.maxLocals) {argsL rest : List Value} (hlen : ∀ sig, parseMethodDescriptor y.desc = some sig → argsL.length = sig.parameters.length)
    (hstack : g.stack = argsL.reverse ++ rest) (hW : 2 * g.monitorRoom + (rest.map fun v => v.category).sum ≤ W9) (hdg : decode c.code g.pc = .ok (.invokestatic index, 3))
    (hpre : ∀ vm₁, s.WarmedH vm₁ → Pre ⟨T.setVm vm₁, locs, cells, slots⟩ argsL.toArray) :
    ∃ (v : Option Value) (vm₁ : Vm) (B : Pt), s.WarmedH vm₁ ∧ Stand p l e R s m args below meth c B.U B.locs B.cells B.slots ∧ Post ⟨T.setVm vm₁, locs, cells, slots⟩ argsL.toArray v B ∧
      ∀ target, Steps p.tables e below (B.U.setTop { g with pc := g.pc + 3, stack := v.toList ++ rest }) target → Steps p.tables e below (T.setTop g) target := by
  obtain ⟨mk, methM, cM, hnamed, hmethM, -, -, -, -, -, -, hsigM⟩ := Cond.codeWith_spec hcode
  have hstatic : methM.isStatic = true := Cond.static_spec hnamed hmethM hstat
  obtain ⟨kP, hkP, -⟩ := className_of_methodNamed hnamed
  have hinitP : kP.init = .initialized := Cond.initialized_spec (findClass_of_methodNamed hnamed) hkP hinit
  obtain ⟨vm₁, X₁, hstep₁⟩ := X.invokestatic hexec hown hlink hnamed hmethM hstatic hkP hinitP hy (g := g) hg (argsL := argsL) (rest := rest) (hlen _ hsigM) hstack hdg
  obtain ⟨v, B, X', hpost, hsteps⟩ := hK m meth c ⟨T.setVm vm₁, locs, cells, slots⟩ { g with stack := rest } (.invokestatic index) mk argsL.toArray X₁ hg hsize hdg hW (X₁.named hnamed) (hpre vm₁ X₁.warmed)
  exact ⟨v, vm₁, B, X₁.warmed, X', hpost, fun target h => hstep₁ _ fun acts => by rw [doInvoke_state]; exact hsteps.trans h⟩
theorem vx_runSW {y : MethodName} {bytes cc : ByteArray} {maxL nL mc ms n index : Nat} {ret : Option FieldType} {hh : List (Nat × Nat × Nat × Nat)} {ws : List Cond} {rm : Room} {Pc : Array Value → State → Prop} {Qc : Array Value → State → Outcome → State → Prop} {free : Addr → Prop} {Ts : List Cond} {own : String} {As rest : List Value} {g : JFrame}
    (S : CallFix p m c cc nL s args Ts own) (hM : Met l y ws rm Pc Qc mc ms free) (cw : vx_CSW R s args own index y bytes maxL ret hh ws rm mc ms n) (hp : PreS s H Pc As)
    (hg : g.method = m) (hn : As.length = n) (hsize : g.locals.size = nL) (hstack : g.stack = As.reverse ++ rest) (hW : 2 * g.monitorRoom + (rest.map fun v => v.category).sum ≤ 8) (hdg : decode cc g.pc = .ok (.invokestatic index, 3)) (hf : cells + mc ≤ R.cells ∧ slots + ms ≤ R.slots) :
    va_Run p l e R s m args below meth c H locs cells slots mc ms g rest (Qc As.toArray) (free) := by
  obtain ⟨⟨hrc, hrs, hfr, hlo, hws, hcw⟩, hcode, hini, hy, hlen, hl, hstt⟩ := cw
  have hK : Back l R p e below s args y 3 8 (PreOf R mc ms Pc) (PostOf Qc mc ms free) := va_backW (hh := hh) (bytes := bytes) (maxL := maxL) (ret := ret) hM hp.1 hrc hrs hfr hlo hws hcw (fun a' U hW => word_at hW (Or.inl (by first | rfl | simp [Cond.onTables, Cond.keeps, Cond.steady])) hini)
  obtain ⟨hx, hb, hml, ho, -⟩ := S
  intro T hT X
  obtain ⟨v, vm₁, ⟨U', l2, c2, s2⟩, hW₁, X', ⟨g', mk, t, L, e1, e2, hq, h1, hL, h2, h3⟩, st⟩ := vx_callSW X hx (hh := hh) (bytes := bytes) (maxL := maxL) (ret := ret) ho hl hstt hini hcode hy hK hg (hsize.trans hml.symm) (argsL := As) (rest := rest) (fun sig h => hn.trans (hlen sig h)) hstack hW (by rw [hb]; exact hdg)
    (fun vm₁ hW₁ => ⟨hf.1, hf.2, hp.2 (T.setVm vm₁) hT hW₁⟩)
  dsimp only [Pt.U, Pt.locs, Pt.cells, Pt.slots] at X' e1 e2 h1 h2 h3 st
  subst h1; subst h2; subst h3
  exact ⟨v, (T.setVm vm₁).calling g' mk As.toArray, t, U', L, hT, X', hL, e1, e2, hq, st⟩
theorem vx_lt {D : va_G} {cl : List vw_C} {ws : va_W} {H1 : Heap} (h : va_P D cl ws H1) {k : Nat} {q : Nat × va_E} (hk : ws[k]? = some q) : q.1 < H1.size := (h k q hk).lt
end VXS
/-! ===== END ===== -/
/-! ===== BEGIN methods with a table of their own: called by a name, returning or throwing ===== -/
section VXH
/-! vx_backW, vx_callVX, vx_callSX, vx_callVW, vx_runVW, vx_runVX, vx_runSX, vx_ofWH follow the same proofs as their sisters above (Free/Laws.lean, Shelf42/LK1.lean); vx_outP calls Shelf42/NT130.lean (outThrough). -/
section
variable {l : Launch} {R : Room} {p : Program} {e : Env} {below : List Frame} {s : State} {sargs : Array Value} {y : MethodName} {len W9 : Nat}
theorem vx_backW {ws : List Cond} {rm : Room} {Pc : Array Value → State → Prop} {Qc : Array Value → State → Outcome → State → Prop} {XC : String → State → State → Prop} {mc ms : Nat} {free : Addr → Prop} {bytes : ByteArray} {maxL : Nat} {ret : Option FieldType} {hh : List (Nat × Nat × Nat × Nat)}
    (hM : vx_Met l y ws rm Pc Qc XC mc ms free) (hblind : FrameBlind Pc) (hrc : rm.cells = mc) (hrs : rm.slots = ms)
    (hframes : rm.frames + 1 ≤ R.frames) (hlocals : W9 + (maxL + 11) + rm.locals ≤ R.locals)
    (hws : ∀ w ∈ ws, ∀ a' U, s.WarmedH U.vm → w.before a' U = true) (hcode : Cond.codeWith y bytes maxL ret hh ∈ ws) (hinit : ∀ a' U, s.WarmedH U.vm → (Cond.initialized y.cls).before a' U = true) :
    vx_Back l R p e below s sargs y len W9 (PreOf R mc ms Pc) (PostOf Qc mc ms free) (vx_Post XC mc ms free) := by
  intro m meth c A g ig mk a X hg hsize hdg hW hn hp
  have h1 : (headSpec ws rm).pre.before a A.U = true := atoms_intro fun w hw => hws w hw _ _ X.warmed
  have h2 : (Cond.codeWith y bytes maxL ret hh).before a A.U = true := hws _ hcode _ _ X.warmed
  have h3 : (Cond.initialized y.cls).before a A.U = true := hinit _ _ X.warmed
  have h4 : A.cells + (headSpec ws rm).room.cells ≤ R.cells := by rw [show (headSpec ws rm).room.cells = mc from hrc]; exact hp.1
  have h5 : A.slots + (headSpec ws rm).room.slots ≤ R.slots := by rw [show (headSpec ws rm).room.slots = ms from hrs]; exact hp.2.1
  have hPc : Pc a (A.U.calling g mk a) := hblind _ _ _ _ hp.2.2
  obtain ⟨U, Ls, c0, s0⟩ := A
  dsimp only [Pt.U, Pt.locs, Pt.cells, Pt.slots] at h1 h2 h3 h4 h5 X hn hPc ⊢
  obtain ⟨m9, methY, cY, hn9, hmY, hcY, -, hlY, -⟩ := Cond.codeWith_spec h2
  cases Option.some.inj (hn9.symm.trans hn)
  obtain ⟨kY, hkY, -⟩ := className_of_methodNamed hn
  have hinitY : kY.init = .initialized := Cond.initialized_spec (findClass_of_methodNamed hn) hkY h3
  have h : At U g.method c below := by rw [hg]; exact X.here
  have hlocals9 : W9 + (maxL + 11) + (headSpec ws rm).room.locals ≤ R.locals := hlocals
  have happ : (headSpec ws rm).appliesLoose y e.platform (U.calling g mk a) = true :=
    Spec.appliesLoose_calling (g := g) h hdg hn hkY hinitY
      (X.room_calling (g := g) (R' := (headSpec ws rm).room) hsize hmY hcY hframes (by rw [hlY]; omega) h4 h5) h1
  obtain ⟨mid, hmid⟩ := h.above
  have hfr : (U.setTop g).frames = (.java g :: mid) ++ below := by rw [State.frames_setTop' g h.top, hmid]; rfl
  obtain ⟨o, s₂, hsteps, -, hend, hq⟩ := Steps.callFree hM p X.admits X.cas X.clock (acts := []) hfr happ hPc trivial
  have hq' : vx_Q Qc XC mc ms free a (U.calling g mk a) o s₂ := hq
  rw [State.frames_setTop' g h.top] at hend
  obtain ⟨g₀, hg0⟩ := Option.isSome_iff_exists.mp h.top
  obtain ⟨r, hr⟩ := State.topJava?_eq_some.mp hg0
  have hr' : (({ U with heap := s₂.heap, slotsUsed := s₂.slotsUsed } : State).setVm s₂.vm).frames = .java g₀ :: r := hr
  rcases hq' with ⟨hqc, L, hfe, hL⟩ | ⟨q, rfl, E, ce, L, hx, hce, hcv, hcl, hW₂, hsm, hL⟩
  · obtain ⟨⟨v, rfl⟩, hW₂, e2, q2, q3, q4, q5, q6⟩ := id hfe
    have e3 : s₂ = ({ (U.calling g mk a).setFrames s₂.frames with heap := s₂.heap, slotsUsed := s₂.slotsUsed } : State).setVm s₂.vm := by
      have : s₂ = ({ s₂ with vm := (U.calling g mk a).vm } : State).setVm s₂.vm := rfl
      rw [e2] at this
      exact this
    obtain ⟨c₂, i₂, len₂, hc₂, hd₂, hf₂⟩ := hend
    have hW' : U.WarmedH s₂.vm := hW₂
    have hcc : c₂ = c := by
      have h1 : s₂.code? g.method = U.code? g.method := by
        rw [State.code?_eq, State.code?_eq, hW'.alike.method?]
      exact Option.some.inj (hc₂.symm.trans (h1.trans h.code))
    subst hcc
    have hlen : len₂ = len := by rw [hdg] at hd₂; cases hd₂; rfl
    subst hlen
    have hs₂ : s₂ = (({ U with heap := s₂.heap, slotsUsed := s₂.slotsUsed } : State).setVm s₂.vm).setTop { g with pc := g.pc + len₂, stack := v.toList ++ g.stack } := by
      refine e3.trans ?_
      rw [hf₂, State.calling_eq h.top, State.setFrames_setFrames, State.setTop_of_frames _ hr', hr]
      rfl
    have hsame : U.sameButNew ({ U with heap := s₂.heap, slotsUsed := s₂.slotsUsed } : State) L mc ms := by
      refine ⟨?_, q2, q3, q4, q5, q6⟩
      obtain ⟨t, ht, -⟩ := State.frames_cons hr
      show ({ U with heap := s₂.heap, slotsUsed := s₂.slotsUsed } : State) = { U.setFrames U.frames with heap := s₂.heap, slotsUsed := s₂.slotsUsed }
      rw [State.setFrames_self ht]
    subst hg
    refine Or.inl ⟨v, ⟨(({ U with heap := s₂.heap, slotsUsed := s₂.slotsUsed } : State).setVm s₂.vm), Ls ++ L, c0 + mc, s0 + ms⟩,
      ⟨X.admits, X.cas, X.clock, X.frames, X.room, X.hears, X.method, X.code, (X.here.setHeapUsed s₂.heap s₂.slotsUsed).setVm hW'.alike, X.tail, State.WarmedH.trans X.warmed hW', X.limits, X.bytes, X.same.trans (hsame.setVm s.vm)⟩,
      ⟨g, mk, s₂, L, rfl, rfl, hqc, rfl, hL, rfl, rfl⟩, ?_⟩
    show Steps p.tables e below _ ((({ U with heap := s₂.heap, slotsUsed := s₂.slotsUsed } : State).setVm s₂.vm).setTop { g with pc := g.pc + len₂, stack := v.toList ++ g.stack })
    rw [← hs₂]
    exact hsteps
  · obtain ⟨e2, q2, q3, q4, q5, q6⟩ := id hsm
    have e3 : s₂ = ({ (U.calling g mk a).setFrames s₂.frames with heap := s₂.heap, slotsUsed := s₂.slotsUsed } : State).setVm s₂.vm := by
      have : s₂ = ({ s₂ with vm := (U.calling g mk a).vm } : State).setVm s₂.vm := rfl
      rw [e2] at this
      exact this
    have hf₂ : s₂.frames = .throwing q :: .java g :: U.frames.tail := hend
    have hW' : U.WarmedH s₂.vm := hW₂
    have hs₂ : s₂ = ((({ U with heap := s₂.heap, slotsUsed := s₂.slotsUsed } : State).setVm s₂.vm).setTop g).pushFrame (.throwing q) := by
      refine e3.trans ?_
      rw [hf₂, State.calling_eq h.top, State.setFrames_setFrames, State.pushFrame, State.frames_setTop _ hr', State.setTop_of_frames _ hr', State.setFrames_setFrames, hr]
      rfl
    have hsame : U.sameButNew ({ U with heap := s₂.heap, slotsUsed := s₂.slotsUsed } : State) L mc ms := by
      refine ⟨?_, q2, q3, q4, q5, q6⟩
      obtain ⟨t, ht, -⟩ := State.frames_cons hr
      show ({ U with heap := s₂.heap, slotsUsed := s₂.slotsUsed } : State) = { U.setFrames U.frames with heap := s₂.heap, slotsUsed := s₂.slotsUsed }
      rw [State.setFrames_self ht]
    subst hg
    refine Or.inr ⟨q, ⟨(({ U with heap := s₂.heap, slotsUsed := s₂.slotsUsed } : State).setVm s₂.vm), Ls ++ L, c0 + mc, s0 + ms⟩,
      ⟨X.admits, X.cas, X.clock, X.frames, X.room, X.hears, X.method, X.code, (X.here.setHeapUsed s₂.heap s₂.slotsUsed).setVm hW'.alike, X.tail, State.WarmedH.trans X.warmed hW', X.limits, X.bytes, X.same.trans (hsame.setVm s.vm)⟩,
      ⟨g, mk, s₂, L, E, ce, rfl, rfl, hx, hce, hcv, hcl, rfl, hL, rfl, rfl⟩, ?_⟩
    show Steps p.tables e below _ (((({ U with heap := s₂.heap, slotsUsed := s₂.slotsUsed } : State).setVm s₂.vm).setTop g).pushFrame (.throwing q))
    rw [← hs₂]
    exact hsteps
end
variable {p : Program} {l : Launch} {e : Env} {R : Room} {s : State} {m : MethodId} {args : Array Value} {below : List Frame} {meth : Method} {c : Code} {T : State} {H : Heap} {locs : List Loc} {cells slots : Nat}
theorem vx_callVX (X : Stand p l e R s m args below meth c T locs cells slots) (hexec : p.tables.exec = Jvm.exec) {own C : String} {index : Nat} {y : MethodName} {bytes : ByteArray} {maxL : Nat} {ret : Option FieldType} {hh : List (Nat × Nat × Nat × Nat)}
    (hown : s.vm.findClass own = some m.cls) (hlink : (Cond.methodLink own index y).before args s = true) (hinst : (Cond.instanceMethod y).before args s = true) (hsel : (Cond.selects C y y).before args s = true)
    (hcode : (Cond.codeWith y bytes maxL ret hh).before args s = true) (hy : y.cls ≠ "java/lang/invoke/MethodHandle" ∧ y.cls ≠ "java/lang/invoke/VarHandle")
    {W9 : Nat} {Pre : Pt → Array Value → Prop} {Post : Pt → Array Value → Option Value → Pt → Prop} {PostX : Pt → Array Value → Addr → Pt → Prop} (hK : vx_Back l R p e below s args y 3 W9 Pre Post PostX)
    {b : Addr} {cellB : Cell} (hcell : T.heap[b]? = some cellB) (hobj : cellB.vm.isStatics = false) (hcls : s.vm.findClass C = some cellB.cls)
    {g : JFrame} (hg : g.method = m) (hsize : g.locals.size = c.maxLocals) {argsL rest : List Value} (hlen : ∀ sig, parseMethodDescriptor y.desc = some sig → argsL.length = sig.parameters.length)
    (hstack : g.stack = argsL.reverse ++ .ref b :: rest) (hW : 2 * g.monitorRoom + (rest.map fun v => v.category).sum ≤ W9) (hdg : decode c.code g.pc = .ok (.invokevirtual index, 3))
    (hpre : ∀ vm₁, s.WarmedH vm₁ → Pre ⟨T.setVm vm₁, locs, cells, slots⟩ (Value.ref b :: argsL).toArray) :
    (∃ (v : Option Value) (vm₁ : Vm) (B : Pt), s.WarmedH vm₁ ∧ Stand p l e R s m args below meth c B.U B.locs B.cells B.slots ∧ Post ⟨T.setVm vm₁, locs, cells, slots⟩ (Value.ref b :: argsL).toArray v B ∧
      ∀ target, Steps p.tables e below (B.U.setTop { g with pc := g.pc + 3, stack := v.toList ++ rest }) target → Steps p.tables e below (T.setTop g) target) ∨
    (∃ (q : Addr) (vm₁ : Vm) (B : Pt), s.WarmedH vm₁ ∧ Stand p l e R s m args below meth c B.U B.locs B.cells B.slots ∧ PostX ⟨T.setVm vm₁, locs, cells, slots⟩ (Value.ref b :: argsL).toArray q B ∧
      Steps p.tables e below (T.setTop g) ((B.U.setTop { g with stack := rest }).pushFrame (.throwing q))) := by
  obtain ⟨mk, methM, hnamed, hmethM, hstM, habM⟩ := Cond.instanceMethod_spec hinst
  obtain ⟨m8, methM', cM, hn8, hmethM', -, -, -, -, -, -, hsigM⟩ := Cond.codeWith_spec hcode
  cases Option.some.inj (hn8.symm.trans hnamed)
  cases hmethM.symm.trans hmethM'
  obtain ⟨c2, r2, m2, q1, q2, q3, q4, kP, hkP, hkPi⟩ := Cond.selects_spec hsel
  cases hcls.symm.trans q1
  cases (State.methodFound?_of_named hnamed hy).symm.trans q2
  cases hnamed.symm.trans q3
  have hselP : selectMethod e.platform s.vm cellB.cls mk = .method mk := by rw [Launch.admits_selectMethod X.admits]; exact q4
  obtain ⟨vm₁, X₁, hstep₁⟩ := X.invokevirtual hexec hown hlink hnamed hmethM hstM hkP hkPi hy (a := b) (cell := cellB) hcell
    (fun z h => by rw [h] at hobj; cases hobj) hselP hmethM habM hkP hkPi (g := g) hg (argsL := argsL) (rest := rest) (hlen _ hsigM) hstack hdg
  rcases hK m meth c ⟨T.setVm vm₁, locs, cells, slots⟩ { g with stack := rest } (.invokevirtual index) mk (Value.ref b :: argsL).toArray X₁ hg hsize hdg hW (X₁.named hnamed) (hpre vm₁ X₁.warmed) with ⟨v, B, X', hpost, hsteps⟩ | ⟨q, B, X', hpost, hsteps⟩
  · exact Or.inl ⟨v, vm₁, B, X₁.warmed, X', hpost, fun target h => hstep₁ _ fun acts => by rw [doInvoke_state]; exact hsteps.trans h⟩
  · exact Or.inr ⟨q, vm₁, B, X₁.warmed, X', hpost, hstep₁ _ fun acts => by rw [doInvoke_state]; exact hsteps⟩
theorem vx_callSX (X : Stand p l e R s m args below meth c T locs cells slots) (hexec : p.tables.exec = Jvm.exec) {own : String} {index : Nat} {y : MethodName} {bytes : ByteArray} {maxL : Nat} {ret : Option FieldType} {hh : List (Nat × Nat × Nat × Nat)}
    (hown : s.vm.findClass own = some m.cls) (hlink : (Cond.methodLink own index y).before args s = true) (hstat : (Cond.static y).before args s = true) (hinit : (Cond.initialized y.cls).before args s = true)
    (hcode : (Cond.codeWith y bytes maxL ret hh).before args s = true) (hy : y.cls ≠ "java/lang/invoke/MethodHandle" ∧ y.cls ≠ "java/lang/invoke/VarHandle")
    {W9 : Nat} {Pre : Pt → Array Value → Prop} {Post : Pt → Array Value → Option Value → Pt → Prop} {PostX : Pt → Array Value → Addr → Pt → Prop} (hK : vx_Back l R p e below s args y 3 W9 Pre Post PostX)
    {g : JFrame} (hg : g.method = m) (hsize : g.locals.size = c.maxLocals) {argsL rest : List Value} (hlen : ∀ sig, parseMethodDescriptor y.desc = some sig → argsL.length = sig.parameters.length)
    (hstack : g.stack = argsL.reverse ++ rest) (hW : 2 * g.monitorRoom + (rest.map fun v => v.category).sum ≤ W9) (hdg : decode c.code g.pc = .ok (.invokestatic index, 3))
    (hpre : ∀ vm₁, s.WarmedH vm₁ → Pre ⟨T.setVm vm₁, locs, cells, slots⟩ argsL.toArray) :
    (∃ (v : Option Value) (vm₁ : Vm) (B : Pt), s.WarmedH vm₁ ∧ Stand p l e R s m args below meth c B.U B.locs B.cells B.slots ∧ Post ⟨T.setVm vm₁, locs, cells, slots⟩ argsL.toArray v B ∧
      ∀ target, Steps p.tables e below (B.U.setTop { g with pc := g.pc + 3, stack := v.toList ++ rest }) target → Steps p.tables e below (T.setTop g) target) ∨
    (∃ (q : Addr) (vm₁ : Vm) (B : Pt), s.WarmedH vm₁ ∧ Stand p l e R s m args below meth c B.U B.locs B.cells B.slots ∧ PostX ⟨T.setVm vm₁, locs, cells, slots⟩ argsL.toArray q B ∧
      Steps p.tables e below (T.setTop g) ((B.U.setTop { g with stack := rest }).pushFrame (.throwing q))) := by
  obtain ⟨mk, methM, cM, hnamed, hmethM, -, -, -, -, -, -, hsigM⟩ := Cond.codeWith_spec hcode
  have hstatic : methM.isStatic = true := Cond.static_spec hnamed hmethM hstat
  obtain ⟨kP, hkP, -⟩ := className_of_methodNamed hnamed
  have hinitP : kP.init = .initialized := Cond.initialized_spec (findClass_of_methodNamed hnamed) hkP hinit
  obtain ⟨vm₁, X₁, hstep₁⟩ := X.invokestatic hexec hown hlink hnamed hmethM hstatic hkP hinitP hy (g := g) hg (argsL := argsL) (rest := rest) (hlen _ hsigM) hstack hdg
  rcases hK m meth c ⟨T.setVm vm₁, locs, cells, slots⟩ { g with stack := rest } (.invokestatic index) mk argsL.toArray X₁ hg hsize hdg hW (X₁.named hnamed) (hpre vm₁ X₁.warmed) with ⟨v, B, X', hpost, hsteps⟩ | ⟨q, B, X', hpost, hsteps⟩
  · exact Or.inl ⟨v, vm₁, B, X₁.warmed, X', hpost, fun target h => hstep₁ _ fun acts => by rw [doInvoke_state]; exact hsteps.trans h⟩
  · exact Or.inr ⟨q, vm₁, B, X₁.warmed, X', hpost, hstep₁ _ fun acts => by rw [doInvoke_state]; exact hsteps⟩
theorem vx_callVW (X : Stand p l e R s m args below meth c T locs cells slots) (hexec : p.tables.exec = Jvm.exec) {own C : String} {index : Nat} {y : MethodName} {bytes : ByteArray} {maxL : Nat} {ret : Option FieldType} {hh : List (Nat × Nat × Nat × Nat)}
    (hown : s.vm.findClass own = some m.cls) (hlink : (Cond.methodLink own index y).before args s = true) (hinst : (Cond.instanceMethod y).before args s = true) (hsel : (Cond.selects C y y).before args s = true)
    (hcode : (Cond.codeWith y bytes maxL ret hh).before args s = true) (hy : y.cls ≠ "java/lang/invoke/MethodHandle" ∧ y.cls ≠ "java/lang/invoke/VarHandle")
    {W9 : Nat} {Pre : Pt → Array Value → Prop} {Post : Pt → Array Value → Option Value → Pt → Prop} (hK : Back l R p e below s args y 3 W9 Pre Post)
    {b : Addr} {cellB : Cell} (hcell : T.heap[b]? = some cellB) (hobj : cellB.vm.isStatics = false) (hcls : s.vm.findClass C = some cellB.cls)
    {g : JFrame} (hg : g.method = m) (hsize : g.locals.size = c.maxLocals) {argsL rest : List Value} (hlen : ∀ sig, parseMethodDescriptor y.desc = some sig → argsL.length = sig.parameters.length)
    (hstack : g.stack = argsL.reverse ++ .ref b :: rest) (hW : 2 * g.monitorRoom + (rest.map fun v => v.category).sum ≤ W9) (hdg : decode c.code g.pc = .ok (.invokevirtual index, 3))
    (hpre : ∀ vm₁, s.WarmedH vm₁ → Pre ⟨T.setVm vm₁, locs, cells, slots⟩ (Value.ref b :: argsL).toArray) :
    ∃ (v : Option Value) (vm₁ : Vm) (B : Pt), s.WarmedH vm₁ ∧ Stand p l e R s m args below meth c B.U B.locs B.cells B.slots ∧ Post ⟨T.setVm vm₁, locs, cells, slots⟩ (Value.ref b :: argsL).toArray v B ∧
      ∀ target, Steps p.tables e below (B.U.setTop { g with pc := g.pc + 3, stack := v.toList ++ rest }) target → Steps p.tables e below (T.setTop g) target := by
  obtain ⟨mk, methM, hnamed, hmethM, hstM, habM⟩ := Cond.instanceMethod_spec hinst
  obtain ⟨m8, methM', cM, hn8, hmethM', -, -, -, -, -, -, hsigM⟩ := Cond.codeWith_spec hcode
  cases Option.some.inj (hn8.symm.trans hnamed)
  cases hmethM.symm.trans hmethM'
  obtain ⟨c2, r2, m2, q1, q2, q3, q4, kP, hkP, hkPi⟩ := Cond.selects_spec hsel
  cases hcls.symm.trans q1
  cases (State.methodFound?_of_named hnamed hy).symm.trans q2
  cases hnamed.symm.trans q3
  have hselP : selectMethod e.platform s.vm cellB.cls mk = .method mk := by rw [Launch.admits_selectMethod X.admits]; exact q4
  obtain ⟨vm₁, X₁, hstep₁⟩ := X.invokevirtual hexec hown hlink hnamed hmethM hstM hkP hkPi hy (a := b) (cell := cellB) hcell
    (fun z h => by rw [h] at hobj; cases hobj) hselP hmethM habM hkP hkPi (g := g) hg (argsL := argsL) (rest := rest) (hlen _ hsigM) hstack hdg
  obtain ⟨v, B, X', hpost, hsteps⟩ := hK m meth c ⟨T.setVm vm₁, locs, cells, slots⟩ { g with stack := rest } (.invokevirtual index) mk (Value.ref b :: argsL).toArray X₁ hg hsize hdg hW (X₁.named hnamed) (hpre vm₁ X₁.warmed)
  exact ⟨v, vm₁, B, X₁.warmed, X', hpost, fun target h => hstep₁ _ fun acts => by rw [doInvoke_state]; exact hsteps.trans h⟩
abbrev vx_CVW (R : Room) (s : State) (args : Array Value) (own C : String) (index : Nat) (y : MethodName) (bytes : ByteArray) (maxL : Nat) (ret : Option FieldType) (hh : List (Nat × Nat × Nat × Nat)) (ws : List Cond) (rm : Room) (mc ms n : Nat) : Prop :=
  (rm.cells = mc ∧ rm.slots = ms ∧ rm.frames + 1 ≤ R.frames ∧ 8 + (maxL + 11) + rm.locals ≤ R.locals ∧ (∀ w ∈ ws, ∀ (a' : Array Value) (U : State), s.WarmedH U.vm → w.before a' U = true) ∧ Cond.codeWith y bytes maxL ret hh ∈ ws) ∧
  (Cond.codeWith y bytes maxL ret hh).before args s = true ∧ (Cond.initialized y.cls).before args s = true ∧ (y.cls ≠ "java/lang/invoke/MethodHandle" ∧ y.cls ≠ "java/lang/invoke/VarHandle") ∧
  (∀ sig, parseMethodDescriptor y.desc = some sig → n = sig.parameters.length) ∧ (Cond.methodLink own index y).before args s = true ∧ (Cond.instanceMethod y).before args s = true ∧ (Cond.selects C y y).before args s = true
theorem vx_cwVW {own C : String} {index maxL mc ms : Nat} {y : MethodName} {bytes : ByteArray} {ret : Option FieldType} {hh : List (Nat × Nat × Nat × Nat)} {Ts ws ws' : List Cond} {rm : Room} (n : Nat) (ht : ∀ w ∈ Ts, w.before args s = true) (hT : GoodIn Ts (wsV own index C y ws)) (hw : ws = Cond.codeWith y bytes maxL ret hh :: ws') (hrc : rm.cells = mc) (hrs : rm.slots = ms)
    (hd : y.cls = C ∧ y.cls ≠ "java/lang/invoke/MethodHandle" ∧ y.cls ≠ "java/lang/invoke/VarHandle" ∧ (parseMethodDescriptor y.desc).map (fun d => d.parameters.length) = some n) (hR : rm.frames + 1 ≤ R.frames ∧ 8 + (maxL + 11) + rm.locals ≤ R.locals) :
    vx_CVW R s args own C index y bytes maxL ret hh ws rm mc ms n := by
  obtain ⟨hC, hd⟩ := hd
  subst hC
  have ok : ∀ w ∈ wsV own index y.cls y ws, w.before args s = true := fun w h => ht w (hT w h).1
  have hG : GoodIn Ts ws := fun w h => hT w (by unfold wsV; exact List.mem_append_right _ h)
  have hc : Cond.codeWith y bytes maxL ret hh ∈ ws := by rw [hw]; exact List.mem_cons_self
  refine ⟨⟨hrc, hrs, hR.1, hR.2, pay_in ht hG, hc⟩, ht _ (hG _ hc).1, ok _ (by simp [wsV]), ⟨hd.1, hd.2.1⟩, fun sig h => ?_, ok _ (by simp [wsV]), ok _ (by simp [wsV]), ok _ (by simp [wsV])⟩
  have h2 := hd.2.2
  rw [h] at h2
  exact (Option.some.inj h2).symm
theorem vx_runVW {y : MethodName} {bytes cc : ByteArray} {maxL nL mc ms n index : Nat} {ret : Option FieldType} {hh : List (Nat × Nat × Nat × Nat)} {ws : List Cond} {rm : Room} {Pc : Array Value → State → Prop} {Qc : Array Value → State → Outcome → State → Prop} {free : Addr → Prop} {Ts : List Cond} {own C : String} {b : Addr} {As rest : List Value} {g : JFrame}
    (S : CallFix p m c cc nL s args Ts own) (hM : Met l y ws rm Pc Qc mc ms free) (cw : vx_CVW R s args own C index y bytes maxL ret hh ws rm mc ms n) (hp : PreV s H C b Pc As)
    (hg : g.method = m) (hn : As.length = n) (hsize : g.locals.size = nL) (hstack : g.stack = As.reverse ++ .ref b :: rest) (hW : 2 * g.monitorRoom + (rest.map fun v => v.category).sum ≤ 8) (hdg : decode cc g.pc = .ok (.invokevirtual index, 3)) (hf : cells + mc ≤ R.cells ∧ slots + ms ≤ R.slots) :
    va_Run p l e R s m args below meth c H locs cells slots mc ms g rest (Qc (Value.ref b :: As).toArray) free := by
  obtain ⟨⟨hrc, hrs, hfr, hlo, hws, hcw⟩, hcode, hini, hy, hlen, hl, hin, hse⟩ := cw
  have hK : Back l R p e below s args y 3 8 (PreOf R mc ms Pc) (PostOf Qc mc ms free) := va_backW (hh := hh) (bytes := bytes) (maxL := maxL) (ret := ret) hM hp.1 hrc hrs hfr hlo hws hcw (fun a' U hW => word_at hW (Or.inl (by first | rfl | simp [Cond.onTables, Cond.keeps, Cond.steady])) hini)
  obtain ⟨hx, hb, hml, ho, -⟩ := S
  obtain ⟨-, ⟨cellB, hcB, hoB, hclB⟩, hPc⟩ := hp
  intro T hT X
  obtain ⟨v, vm₁, ⟨U', l2, c2, s2⟩, hW₁, X', ⟨g', mk, t, L, e1, e2, hq, h1, hL, h2, h3⟩, st⟩ := vx_callVW X hx (C := C) (hh := hh) (bytes := bytes) (maxL := maxL) (ret := ret) ho hl hin hse hcode hy hK (by rw [hT]; exact hcB) hoB hclB hg (hsize.trans hml.symm) (argsL := As) (rest := rest) (fun sig h => hn.trans (hlen sig h)) hstack hW (by rw [hb]; exact hdg)
    (fun vm₁ hW₁ => ⟨hf.1, hf.2, hPc (T.setVm vm₁) hT hW₁⟩)
  dsimp only [Pt.U, Pt.locs, Pt.cells, Pt.slots] at X' e1 e2 h1 h2 h3 st
  subst h1; subst h2; subst h3
  exact ⟨v, (T.setVm vm₁).calling g' mk (Value.ref b :: As).toArray, t, U', L, hT, X', hL, e1, e2, hq, st⟩
section
variable {y : MethodName} {bytes cc : ByteArray} {maxL nL mc ms n index : Nat} {ret : Option FieldType} {ws : List Cond} {rm : Room} {Pc : Array Value → State → Prop} {Qc : Array Value → State → Outcome → State → Prop} {XC : String → State → State → Prop} {free : Addr → Prop} {Ts : List Cond} {own C : String} {b : Addr} {As rest : List Value} {g : JFrame}
theorem vx_runVX {hh : List (Nat × Nat × Nat × Nat)} (S : CallFix p m c cc nL s args Ts own) (hM : vx_Met l y ws rm Pc Qc XC mc ms free) (cw : vx_CVW R s args own C index y bytes maxL ret hh ws rm mc ms n) (hp : PreV s H C b Pc As)
    (hg : g.method = m) (hn : As.length = n) (hsize : g.locals.size = nL) (hstack : g.stack = As.reverse ++ .ref b :: rest) (hW : 2 * g.monitorRoom + (rest.map fun v => v.category).sum ≤ 8) (hdg : decode cc g.pc = .ok (.invokevirtual index, 3)) (hf : cells + mc ≤ R.cells ∧ slots + ms ≤ R.slots) :
    vx_Run p l e R s m args below meth c H locs cells slots mc ms g rest (Qc (Value.ref b :: As).toArray) XC free := by
  obtain ⟨⟨hrc, hrs, hfr, hlo, hws, hcw⟩, hcode, hini, hy, hlen, hl, hin, hse⟩ := cw
  have hK : vx_Back l R p e below s args y 3 8 (PreOf R mc ms Pc) (PostOf Qc mc ms free) (vx_Post XC mc ms free) := vx_backW (hh := hh) (bytes := bytes) (maxL := maxL) (ret := ret) hM hp.1 hrc hrs hfr hlo hws hcw (fun a' U hW => word_at hW (Or.inl (by first | rfl | simp [Cond.onTables, Cond.keeps, Cond.steady])) hini)
  obtain ⟨hx, hb, hml, ho, -⟩ := S
  obtain ⟨-, ⟨cellB, hcB, hoB, hclB⟩, hPc⟩ := hp
  intro T hT X
  rcases vx_callVX X hx (C := C) (hh := hh) (bytes := bytes) (maxL := maxL) (ret := ret) ho hl hin hse hcode hy hK (by rw [hT]; exact hcB) hoB hclB hg (hsize.trans hml.symm) (argsL := As) (rest := rest) (fun sig h => hn.trans (hlen sig h)) hstack hW (by rw [hb]; exact hdg)
    (fun vm₁ hW₁ => ⟨hf.1, hf.2, hPc (T.setVm vm₁) hT hW₁⟩) with ⟨v, vm₁, ⟨U', l2, c2, s2⟩, hW₁, X', ⟨g', mk, t, L, e1, e2, hq, h1, hL, h2, h3⟩, st⟩ | ⟨q, vm₁, ⟨U', l2, c2, s2⟩, hW₁, X', ⟨g', mk, t, L, E, ce, e1, e2, hq, hce, hcv, hcl, h1, hL, h2, h3⟩, st⟩
  · dsimp only [Pt.U, Pt.locs, Pt.cells, Pt.slots] at X' e1 e2 h1 h2 h3 st
    subst h1; subst h2; subst h3
    exact Or.inl ⟨v, (T.setVm vm₁).calling g' mk (Value.ref b :: As).toArray, t, U', L, hT, X', hL, e1, e2, hq, st⟩
  · dsimp only [Pt.U, Pt.locs, Pt.cells, Pt.slots] at X' e1 e2 h1 h2 h3 st hcl
    subst h1; subst h2; subst h3
    exact Or.inr ⟨q, (T.setVm vm₁).calling g' mk (Value.ref b :: As).toArray, t, U', L, E, ce, hT, X', hL, e1, e2, hq, hce, hcv, vx_cls hW₁ hcl, st⟩
theorem vx_runSX {hh : List (Nat × Nat × Nat × Nat)} (S : CallFix p m c cc nL s args Ts own) (hM : vx_Met l y ws rm Pc Qc XC mc ms free) (cw : vx_CSW R s args own index y bytes maxL ret hh ws rm mc ms n) (hp : PreS s H Pc As)
    (hg : g.method = m) (hn : As.length = n) (hsize : g.locals.size = nL) (hstack : g.stack = As.reverse ++ rest) (hW : 2 * g.monitorRoom + (rest.map fun v => v.category).sum ≤ 8) (hdg : decode cc g.pc = .ok (.invokestatic index, 3)) (hf : cells + mc ≤ R.cells ∧ slots + ms ≤ R.slots) :
    vx_Run p l e R s m args below meth c H locs cells slots mc ms g rest (Qc As.toArray) XC free := by
  obtain ⟨⟨hrc, hrs, hfr, hlo, hws, hcw⟩, hcode, hini, hy, hlen, hl, hstt⟩ := cw
  have hK : vx_Back l R p e below s args y 3 8 (PreOf R mc ms Pc) (PostOf Qc mc ms free) (vx_Post XC mc ms free) := vx_backW (hh := hh) (bytes := bytes) (maxL := maxL) (ret := ret) hM hp.1 hrc hrs hfr hlo hws hcw (fun a' U hW => word_at hW (Or.inl (by first | rfl | simp [Cond.onTables, Cond.keeps, Cond.steady])) hini)
  obtain ⟨hx, hb, hml, ho, -⟩ := S
  intro T hT X
  rcases vx_callSX X hx (hh := hh) (bytes := bytes) (maxL := maxL) (ret := ret) ho hl hstt hini hcode hy hK hg (hsize.trans hml.symm) (argsL := As) (rest := rest) (fun sig h => hn.trans (hlen sig h)) hstack hW (by rw [hb]; exact hdg)
    (fun vm₁ hW₁ => ⟨hf.1, hf.2, hp.2 (T.setVm vm₁) hT hW₁⟩) with ⟨v, vm₁, ⟨U', l2, c2, s2⟩, hW₁, X', ⟨g', mk, t, L, e1, e2, hq, h1, hL, h2, h3⟩, st⟩ | ⟨q, vm₁, ⟨U', l2, c2, s2⟩, hW₁, X', ⟨g', mk, t, L, E, ce, e1, e2, hq, hce, hcv, hcl, h1, hL, h2, h3⟩, st⟩
  · dsimp only [Pt.U, Pt.locs, Pt.cells, Pt.slots] at X' e1 e2 h1 h2 h3 st
    subst h1; subst h2; subst h3
    exact Or.inl ⟨v, (T.setVm vm₁).calling g' mk As.toArray, t, U', L, hT, X', hL, e1, e2, hq, st⟩
  · dsimp only [Pt.U, Pt.locs, Pt.cells, Pt.slots] at X' e1 e2 h1 h2 h3 st hcl
    subst h1; subst h2; subst h3
    exact Or.inr ⟨q, (T.setVm vm₁).calling g' mk As.toArray, t, U', L, E, ce, hT, X', hL, e1, e2, hq, hce, hcv, vx_cls hW₁ hcl, st⟩
end
end VXH
theorem vx_ofWH {l : Launch} {y : MethodName} {ws ws' : List Cond} {rm : Room} {Pc : Array Value → State → Prop} {Qc : Array Value → State → Outcome → State → Prop} {XC : String → State → State → Prop} {mc ms : Nat} {free : Addr → Prop} {cc : ByteArray} {maxL : Nat} {ret : Option FieldType} {hh : List (Nat × Nat × Nat × Nat)}
    (hy : plainName y.cls = true) (hw : ws = Cond.codeWith y cc maxL ret hh :: ws')
    (body : ∀ p e s m args below meth c s₁, BodyLoose p l y (headSpec ws rm) cc maxL ret e s m args below meth c s₁ → c.maxLocals = maxL → Pc args s →
      W p l e (headSpec ws rm).room s m args below meth c s.heap [] 0 0 (vx_MQ below Qc XC args s mc ms free) (entryFrame m args maxL)) : vx_Met l y ws rm Pc Qc XC mc ms free := by
  refine MetFree.of_bodyS (code := cc) (maxLocals := maxL) (ret := ret) hy ?_ ?_
  · intro args s m h hn
    obtain ⟨m9, meth, c, hn9, h1, h2, h3, h4, -, h5, h6, -⟩ := Cond.codeWith_spec (atoms_spec (ws := ws) h _ (by rw [hw]; exact List.mem_cons_self))
    cases hn.symm.trans hn9
    exact ⟨meth, c, h1, h2, h3, h4, h5, h6⟩
  · intro p e s m args below meth c s₁ B hml hP _
    have hh0 : s₁.heap = s.heap := by rw [B.state]; rfl
    obtain ⟨t, a1, o, b1, b2, b3⟩ := body p e s m args below meth c s₁ B hml hP s₁ hh0 (Stand.of_body B)
    exact ⟨t, o, a1, b1, b2, b3⟩
/-! ===== END ===== -/
end
section
/-! THE PURE MACHINE: a memory of numbered cells, values of a domain V (.inl: an int, .inr (.inl ..): a long, .inr (.inr ..): null or a cell by its number). A cell: a tag (0 int[], 1 long[], 2 boolean[], 4 + n the n-th array of objects, 7 a constant text, 8 + n an object of the n-th class) and its contents. The first cells are the constant texts. -/
abbrev xv_V (V : Type) : Type := V ⊕ (V ⊕ Option Nat)
abbrev xv_O (V : Type) : Type := Nat × List (xv_V V)
abbrev xv_M (V : Type) : Type := List (xv_O V)
abbrev xv_L (V : Type) : Type := List (Option (xv_V V))
abbrev xv_R (V : Type) : Type := Option (xv_V V) × xv_M V
/-- what a domain can do: constants, operations by their numbers, comparisons by theirs, its exact number, is it 0 or 1 -/
abbrev xv_D (V : Type) : Type := (Int32 → V) × (Int64 → V) × (Nat → V → V → Option V) × (Nat → V → V → Option Bool) × (V → Option Int) × (V → Bool)
abbrev xv_I : Type := Nat × Instr
/-- the links of a class: fields (class, place), methods (kind, number), classes, ints, longs -/
abbrev xv_K : Type := List (Nat × Nat × Nat) × List (Nat × Nat × Nat) × List (Nat × Nat) × List (Nat × Int32) × List (Nat × Int64)
/-- a method: its class's number, its class's links, how many parameters, its locals, what it answers (0 nothing, 1 an int, 2 a long, 3 a boolean), 1 for a constructor, cells and places that it may make, its code -/
abbrev xv_N : Type := (Nat × xv_K) × (Nat × Nat × Nat × Nat) × (Nat × Nat) × List xv_I
def xv_len : Instr → Nat
  | .bipush _ => 2
  | .ldc _ => 2
  | .newarray _ => 2
  | .iload _ => 2
  | .istore _ => 2
  | .lload _ => 2
  | .lstore _ => 2
  | .aload _ => 2
  | .astore _ => 2
  | .sipush _ => 3
  | .iinc _ _ => 3
  | .ldc2_w _ => 3
  | .getfield _ => 3
  | .putfield _ => 3
  | .getstatic _ => 3
  | .new _ => 3
  | .anewarray _ => 3
  | .invokevirtual _ => 3
  | .invokespecial _ => 3
  | .invokestatic _ => 3
  | .if_icmp _ _ => 3
  | .ifCond _ _ => 3
  | .goto _ => 3
  | _ => 1
def xv_find {α : Type} : List (Nat × α) → Nat → Option α
  | [], _ => none
  | q :: r, i => bif Nat.beq q.1 i then some q.2 else xv_find r i
def xv_to : List xv_I → Nat → List xv_I
  | [], _ => []
  | q :: r, i => bif Nat.beq q.1 i then q :: r else xv_to r i
def xv_cat {V : Type} : xv_V V → Nat
  | .inr (.inl _) => 2
  | _ => 1
def xv_kill {V : Type} (L : xv_L V) : Nat → xv_L V
  | 0 => L
  | j + 1 => match L[j]? with
    | some (some (.inr (.inl _))) => L.set j none
    | _ => L
def xv_put1 {V : Type} (L : xv_L V) (i : Nat) (v : xv_V V) : xv_L V := (xv_kill L i).set i (some v)
def xv_put2 {V : Type} (L : xv_L V) (i : Nat) (v : xv_V V) : xv_L V := ((xv_kill L i).set (i + 1) none).set i (some v)
/-- loads and stores of locals -/
def xv_ld {V : Type} (L : xv_L V) (S : List (xv_V V)) (t i : Nat) : Option (xv_L V × List (xv_V V)) := match L[i]? with
  | some (some (.inl a)) => bif Nat.beq t 0 then some (L, .inl a :: S) else none
  | some (some (.inr (.inl a))) => bif Nat.beq t 1 then some (L, .inr (.inl a) :: S) else none
  | some (some (.inr (.inr (some a)))) => bif Nat.beq t 2 then some (L, .inr (.inr (some a)) :: S) else none
  | _ => none
def xv_sto {V : Type} (L : xv_L V) (S : List (xv_V V)) (t i : Nat) : Option (xv_L V × List (xv_V V)) := match S with
  | .inl a :: S => bif Nat.beq t 0 && Nat.blt i L.length then some (xv_put1 L i (.inl a), S) else none
  | .inr (.inl a) :: S => bif Nat.beq t 1 && Nat.blt (i + 1) L.length then some (xv_put2 L i (.inr (.inl a)), S) else none
  | .inr (.inr (some a)) :: S => bif Nat.beq t 2 && Nat.blt i L.length then some (xv_put1 L i (.inr (.inr (some a))), S) else none
  | _ => none
def xv_i2 {V : Type} (D : xv_D V) (o : Nat) (L : xv_L V) (S : List (xv_V V)) : Option (xv_L V × List (xv_V V)) := match S with
  | .inl b :: .inl a :: S => match D.2.2.1 o a b with
    | some r => some (L, .inl r :: S)
    | none => none
  | _ => none
def xv_l2 {V : Type} (D : xv_D V) (o : Nat) (L : xv_L V) (S : List (xv_V V)) : Option (xv_L V × List (xv_V V)) := match S with
  | .inr (.inl b) :: .inr (.inl a) :: S => match D.2.2.1 o a b with
    | some r => some (L, .inr (.inl r) :: S)
    | none => none
  | _ => none
def xv_s2 {V : Type} (D : xv_D V) (o : Nat) (L : xv_L V) (S : List (xv_V V)) : Option (xv_L V × List (xv_V V)) := match S with
  | .inl b :: .inr (.inl a) :: S => match D.2.2.1 o a b with
    | some r => some (L, .inr (.inl r) :: S)
    | none => none
  | _ => none
def xv_iinc {V : Type} (D : xv_D V) (L : xv_L V) (S : List (xv_V V)) (i : Nat) (n : Int) : Option (xv_L V × List (xv_V V)) := match L[i]? with
  | some (some (.inl a)) => match D.2.2.1 0 a (D.1 (Int32.ofInt n)) with
    | some r => some (xv_put1 L i (.inl r), S)
    | none => none
  | _ => none
/-- instructions that touch locals and stack alone -/
def xv_pure {V : Type} (D : xv_D V) (K : xv_K) (L : xv_L V) (S : List (xv_V V)) : Instr → Option (xv_L V × List (xv_V V))
  | .iconst n => some (L, .inl (D.1 (Int32.ofInt n)) :: S)
  | .bipush n => some (L, .inl (D.1 (Int8.ofInt n).toInt32) :: S)
  | .sipush n => some (L, .inl (D.1 (Int16.ofInt n).toInt32) :: S)
  | .lconst n => some (L, .inr (.inl (D.2.1 (Int64.ofNat (n : Nat)))) :: S)
  | .ldc i => match xv_find K.2.2.2.1 i with
    | some v => some (L, .inl (D.1 v) :: S)
    | none => match xv_find K.2.2.1 i with
      | some n => bif Nat.ble 2000 n then some (L, .inr (.inr (some (n - 2000))) :: S) else none
      | none => none
  | .ldc2_w i => match xv_find K.2.2.2.2 i with
    | some v => some (L, .inr (.inl (D.2.1 v)) :: S)
    | none => none
  | .iload_n k => xv_ld L S 0 k
  | .iload k => xv_ld L S 0 k
  | .lload_n k => xv_ld L S 1 k
  | .lload k => xv_ld L S 1 k
  | .aload_n k => xv_ld L S 2 k
  | .aload k => xv_ld L S 2 k
  | .istore_n k => xv_sto L S 0 k
  | .istore k => xv_sto L S 0 k
  | .lstore_n k => xv_sto L S 1 k
  | .lstore k => xv_sto L S 1 k
  | .astore_n k => xv_sto L S 2 k
  | .astore k => xv_sto L S 2 k
  | .iinc k n => xv_iinc D L S k n
  | .iadd => xv_i2 D 0 L S
  | .isub => xv_i2 D 1 L S
  | .imul => xv_i2 D 2 L S
  | .iand => xv_i2 D 3 L S
  | .ior => xv_i2 D 4 L S
  | .ishl => xv_i2 D 5 L S
  | .ishr => xv_i2 D 6 L S
  | .iushr => xv_i2 D 7 L S
  | .idiv => xv_i2 D 8 L S
  | .irem => xv_i2 D 9 L S
  | .ineg => match S with
    | .inl a :: S => match D.2.2.1 10 a a with
      | some r => some (L, .inl r :: S)
      | none => none
    | _ => none
  | .ladd => xv_l2 D 20 L S
  | .lsub => xv_l2 D 21 L S
  | .lmul => xv_l2 D 22 L S
  | .land => xv_l2 D 23 L S
  | .lor => xv_l2 D 24 L S
  | .ldiv => xv_l2 D 25 L S
  | .lrem => xv_l2 D 26 L S
  | .lneg => match S with
    | .inr (.inl a) :: S => match D.2.2.1 27 a a with
      | some r => some (L, .inr (.inl r) :: S)
      | none => none
    | _ => none
  | .lshl => xv_s2 D 30 L S
  | .lshr => xv_s2 D 31 L S
  | .i2l => match S with
    | .inl a :: S => match D.2.2.1 40 a a with
      | some r => some (L, .inr (.inl r) :: S)
      | none => none
    | _ => none
  | .l2i => match S with
    | .inr (.inl a) :: S => match D.2.2.1 41 a a with
      | some r => some (L, .inl r :: S)
      | none => none
    | _ => none
  | .lcmp => match S with
    | .inr (.inl b) :: .inr (.inl a) :: S => match D.2.2.1 42 a b with
      | some r => some (L, .inl r :: S)
      | none => none
    | _ => none
  | .dup => match S with
    | v :: S => bif Nat.beq (xv_cat v) 1 then some (L, v :: v :: S) else none
    | _ => none
  | .pop => match S with
    | v :: S => bif Nat.beq (xv_cat v) 1 then some (L, S) else none
    | _ => none
  | .dup2 => match S with
    | v :: w :: S => bif Nat.beq (xv_cat v) 1 && Nat.beq (xv_cat w) 1 then some (L, v :: w :: v :: w :: S) else none
    | _ => none
  | _ => none
def xv_tgt (pc : Nat) (off : Int) : Option Nat := match (pc : Int) + off with
  | .ofNat t => some t
  | _ => none
def xv_cmp2 {V : Type} (D : xv_D V) (o pc : Nat) (off : Int) (S : List (xv_V V)) : Option (Nat × List (xv_V V)) := match S with
  | .inl b :: .inl a :: S => match D.2.2.2.1 o a b, xv_tgt pc off with
    | some r, some t => some (bif r then t else pc + 3, S)
    | _, _ => none
  | _ => none
def xv_cmp1 {V : Type} (D : xv_D V) (o pc : Nat) (off : Int) (S : List (xv_V V)) : Option (Nat × List (xv_V V)) := match S with
  | .inl a :: S => match D.2.2.2.1 o a (D.1 0), xv_tgt pc off with
    | some r, some t => some (bif r then t else pc + 3, S)
    | _, _ => none
  | _ => none
def xv_tab {V : Type} (pc : Nat) (dflt lo hi : Int) (offs : Array Int) (n : Int) (S : List (xv_V V)) : Option (Nat × List (xv_V V)) :=
  if n < lo ∨ hi < n then match xv_tgt pc dflt with
    | some t => some (t, S)
    | none => none
  else match offs[(n - lo).toNat]? with
    | some off => match xv_tgt pc off with
      | some t => some (t, S)
      | none => none
    | none => none
/-- a number that lies outside a switch's table -/
def xv_out {V : Type} (D : xv_D V) (a : V) (lo hi : Int) : Bool := match D.2.2.2.1 2 a (D.1 (Int32.ofInt lo)), D.2.2.2.1 4 a (D.1 (Int32.ofInt hi)) with
  | some true, _ => decide ((Int32.ofInt lo).toInt = lo)
  | _, some true => decide ((Int32.ofInt hi).toInt = hi)
  | _, _ => false
/-- jumps: where to, and the stack there -/
def xv_br {V : Type} (D : xv_D V) (pc : Nat) (S : List (xv_V V)) : Instr → Option (Nat × List (xv_V V))
  | .goto off => match xv_tgt pc off with
    | some t => some (t, S)
    | none => none
  | .if_icmp .eq off => xv_cmp2 D 0 pc off S
  | .if_icmp .ne off => xv_cmp2 D 1 pc off S
  | .if_icmp .lt off => xv_cmp2 D 2 pc off S
  | .if_icmp .ge off => xv_cmp2 D 3 pc off S
  | .if_icmp .gt off => xv_cmp2 D 4 pc off S
  | .if_icmp .le off => xv_cmp2 D 5 pc off S
  | .ifCond .eq off => xv_cmp1 D 0 pc off S
  | .ifCond .ne off => xv_cmp1 D 1 pc off S
  | .ifCond .lt off => xv_cmp1 D 2 pc off S
  | .ifCond .ge off => xv_cmp1 D 3 pc off S
  | .ifCond .gt off => xv_cmp1 D 4 pc off S
  | .ifCond .le off => xv_cmp1 D 5 pc off S
  | .tableswitch dflt lo hi offs => match S with
    | .inl a :: S => match D.2.2.2.2.1 a with
      | some n => xv_tab pc dflt lo hi offs n S
      | none => bif xv_out D a lo hi then match xv_tgt pc dflt with
          | some t => some (t, S)
          | none => none
        else none
    | _ => none
  | .lookupswitch dflt ps => match S with
    | .inl a :: S => match D.2.2.2.2.1 a with
      | some n => bif (ps.toList.zip (ps.toList.drop 1)).all (fun q => decide (q.1.1 < q.2.1)) then match xv_tgt pc (Op.lookupswitch.offset ps.toList dflt n) with
          | some t => some (t, S)
          | none => none
        else none
      | none => none
    | _ => none
  | _ => none
def xv_dflt {V : Type} (D : xv_D V) : FieldType → xv_V V
  | .int => .inl (D.1 0)
  | .boolean => .inl (D.1 0)
  | .long => .inr (.inl (D.2.1 0))
  | _ => .inr (.inr none)
/-- may a field or array of this type hold this value -/
def xv_fit {V : Type} (D : xv_D V) : FieldType → xv_V V → Bool
  | .int, .inl _ => true
  | .boolean, .inl a => D.2.2.2.2.2 a
  | .long, .inr (.inl _) => true
  | .object _, .inr (.inr _) => true
  | .array _, .inr (.inr _) => true
  | _, _ => false
/-- the index of an array access: an exact number within -/
def xv_ix {V : Type} (D : xv_D V) (a : V) (n : Nat) : Option Nat := match D.2.2.2.2.1 a with
  | some (.ofNat k) => bif Nat.blt k n then some k else none
  | _ => none
def xv_ald {V : Type} (D : xv_D V) (M : xv_M V) (S : List (xv_V V)) (t0 t1 : Nat) : Option (List (xv_V V) × xv_M V × Nat × Nat) := match S with
  | .inl i :: .inr (.inr (some a)) :: S => match M[a]? with
    | some o => bif Nat.ble t0 o.1 && Nat.ble o.1 t1 then match xv_ix D i o.2.length with
        | some k => match o.2[k]? with
          | some v => some (v :: S, M, 0, 0)
          | none => none
        | none => none
      else none
    | none => none
  | _ => none
def xv_ast {V : Type} (D : xv_D V) (M : xv_M V) (S : List (xv_V V)) (t : Nat) (ty : FieldType) : Option (List (xv_V V) × xv_M V × Nat × Nat) := match S with
  | v :: .inl i :: .inr (.inr (some a)) :: S => match M[a]? with
    | some o => bif Nat.beq o.1 t && xv_fit D ty v then match xv_ix D i o.2.length with
        | some k => some (S, M.set a (o.1, o.2.set k v), 0, 0)
        | none => none
      else none
    | none => none
  | _ => none
/-- a new array: at most 4096 places -/
def xv_newa {V : Type} (D : xv_D V) (M : xv_M V) (S : List (xv_V V)) (t : Nat) (v : xv_V V) : Option (List (xv_V V) × xv_M V × Nat × Nat) := match S with
  | .inl n :: S => match xv_ix D n 4096 with
    | some k => some (.inr (.inr (some M.length)) :: S, M ++ [(t, List.replicate k v)], 1, k)
    | none => none
  | _ => none
/-- instructions of the memory: stack, memory, new cells, new places. ct: the fields of the classes (their types, final or not), at: the classes of the arrays of objects; w: the class's own number, ini: 1 in a constructor -/
def xv_mem {V : Type} (D : xv_D V) (ct : List (List (FieldType × Bool))) (at_ : List Nat) (K : xv_K) (w ini : Nat) (M : xv_M V) (S : List (xv_V V)) : Instr → Option (List (xv_V V) × xv_M V × Nat × Nat)
  | .getfield i => match xv_find K.1 i with
    | some ck => match S with
      | .inr (.inr (some a)) :: S => match M[a]? with
        | some o => bif Nat.beq o.1 (8 + ck.1) then match o.2[ck.2]? with
            | some v => some (v :: S, M, 0, 0)
            | none => none
          else none
        | none => none
      | _ => none
    | none => none
  | .putfield i => match xv_find K.1 i with
    | some ck => match S with
      | v :: .inr (.inr (some a)) :: S => match M[a]? with
        | some o => bif Nat.beq o.1 (8 + ck.1) && Nat.blt ck.2 o.2.length then match ct[ck.1]? with
            | some fs => match fs[ck.2]? with
              | some f => bif xv_fit D f.1 v && (!f.2 || (Nat.beq ini 1 && Nat.beq w ck.1)) then some (S, M.set a (o.1, o.2.set ck.2 v), 0, 0) else none
              | none => none
            | none => none
          else none
        | none => none
      | _ => none
    | none => none
  | .new i => match xv_find K.2.2.1 i with
    | some ci => match ct[ci]? with
      | some fs => bif Nat.blt ci 1000 then some (.inr (.inr (some M.length)) :: S, M ++ [(8 + ci, fs.map (fun f => xv_dflt D f.1))], 1, fs.length) else none
      | none => none
    | none => none
  | .newarray .int => xv_newa D M S 0 (.inl (D.1 0))
  | .newarray .long => xv_newa D M S 1 (.inr (.inl (D.2.1 0)))
  | .newarray .boolean => xv_newa D M S 2 (.inl (D.1 0))
  | .anewarray i => match xv_find K.2.2.1 (70000 + i) with
    | some ci => bif Nat.ble 1000 ci && Nat.blt ci 1003 then xv_newa D M S (ci - 996) (.inr (.inr none)) else none
    | none => none
  | .arraylength => match S with
    | .inr (.inr (some a)) :: S => match M[a]? with
      | some o => bif Nat.blt o.1 7 && Nat.ble o.2.length 4096 then some (.inl (D.1 (Int32.ofNat o.2.length)) :: S, M, 0, 0) else none
      | none => none
    | _ => none
  | .iaload => match xv_ald D M S 0 0 with
    | some r => some r
    | none => xv_ald D M S 3 3
  | .laload => xv_ald D M S 1 1
  | .baload => xv_ald D M S 2 2
  | .aaload => xv_ald D M S 4 6
  | .iastore => xv_ast D M S 0 .int
  | .lastore => xv_ast D M S 1 .long
  | .bastore => xv_ast D M S 2 .boolean
  | .aastore => match S with
    | .inr (.inr (some v)) :: .inl i :: .inr (.inr (some a)) :: S => match M[a]?, M[v]? with
      | some o, some ov => match at_[o.1 - 4]? with
        | some ci => bif Nat.ble 4 o.1 && Nat.blt o.1 7 && Nat.beq ov.1 (8 + ci) then match xv_ix D i o.2.length with
            | some k => some (S, M.set a (o.1, o.2.set k (.inr (.inr (some v)))), 0, 0)
            | none => none
          else none
        | none => none
      | _, _ => none
    | _ => none
  | _ => none
def xv_cats {V : Type} : List (xv_V V) → Nat
  | [] => 0
  | v :: S => xv_cat v + xv_cats S
/-- arraycopy of int arrays -/
def xv_copy {V : Type} (D : xv_D V) (M : xv_M V) (S : List (xv_V V)) : Option (List (xv_V V) × xv_M V) := match S with
  | .inl n :: .inl dp :: .inr (.inr (some b)) :: .inl sp :: .inr (.inr (some a)) :: S => match M[a]?, M[b]? with
    | some oa, some ob => bif Nat.beq oa.1 0 && Nat.beq ob.1 0 && Nat.ble (xv_cats S) 8 then match xv_ix D n 4096, xv_ix D dp 4096, xv_ix D sp 4096 with
        | some n, some dp, some sp => bif Nat.ble (sp + n) oa.2.length && Nat.ble (dp + n) ob.2.length then some (S, M.set b (0, ob.2.take dp ++ ((oa.2.drop sp).take n ++ ob.2.drop (dp + n)))) else none
        | _, _, _ => none
      else none
    | _, _ => none
  | _ => none
/-- a call: the method's number, its arguments (the receiver first), the stack below -/
def xv_arg {V : Type} (ms : List xv_N) (K : xv_K) (M : xv_M V) (S : List (xv_V V)) : Instr → Option (Nat × List (xv_V V) × List (xv_V V))
  | .invokevirtual i => match xv_find K.2.1 i with
    | some (0, j) => match ms[j]? with
      | some y => match S.drop y.2.1.1 with
        | .inr (.inr (some a)) :: R => match M[a]? with
          | some o => bif Nat.beq o.1 (8 + y.1.1) && Nat.ble (xv_cats R) 8 then some (j, .inr (.inr (some a)) :: (S.take y.2.1.1).reverse, R) else none
          | none => none
        | _ => none
      | none => none
    | _ => none
  | .invokespecial i => match xv_find K.2.1 i with
    | some (k, j) => bif Nat.beq k 1 || Nat.beq k 2 then match ms[j]? with
        | some y => match S.drop y.2.1.1 with
          | .inr (.inr (some a)) :: R => bif Nat.ble (xv_cats R) 8 then some (j, .inr (.inr (some a)) :: (S.take y.2.1.1).reverse, R) else none
          | _ => none
        | none => none
      else none
    | none => none
  | .invokestatic i => match xv_find K.2.1 i with
    | some (3, j) => match ms[j]? with
      | some y => bif Nat.ble y.2.1.1 S.length && Nat.ble (xv_cats (S.drop y.2.1.1)) 8 then some (j, (S.take y.2.1.1).reverse, S.drop y.2.1.1) else none
      | none => none
    | _ => none
  | _ => none
/-- calls that are no walk: Object's constructor, arraycopy, charAt of a constant text (sct: their bytes) -/
def xv_nat {V : Type} (D : xv_D V) (sct : List (List Int32)) (K : xv_K) (M : xv_M V) (S : List (xv_V V)) : Instr → Option (List (xv_V V) × xv_M V)
  | .invokespecial i => match xv_find K.2.1 i with
    | some (5, _) => match S with
      | .inr (.inr (some _)) :: S => bif Nat.ble (xv_cats S) 8 then some (S, M) else none
      | _ => none
    | _ => none
  | .invokestatic i => match xv_find K.2.1 i with
    | some (6, _) => xv_copy D M S
    | _ => none
  | .invokevirtual i => match xv_find K.2.1 i with
    | some (4, _) => match S with
      | .inl a :: .inr (.inr (some n)) :: S => match sct[n]? with
        | some cs => match xv_ix D a cs.length with
          | some k => match cs[k]? with
            | some b => bif Nat.ble (xv_cats S) 8 then some (.inl (D.1 (b &&& 255)) :: S, M) else none
            | none => none
          | none => none
        | none => none
      | _ => none
    | _ => none
  | _ => none
/-- ends: what is answered -/
def xv_end {V : Type} (D : xv_D V) (r : Nat) (S : List (xv_V V)) : Instr → Option (Option (xv_V V))
  | .return_ => match S with
    | [] => bif Nat.beq r 0 then some none else none
    | _ => none
  | .ireturn => match S with
    | [.inl a] => bif Nat.beq r 1 || (Nat.beq r 3 && D.2.2.2.2.2 a) then some (some (.inl a)) else none
    | _ => none
  | .lreturn => match S with
    | [.inr (.inl a)] => bif Nat.beq r 2 then some (some (.inr (.inl a))) else none
    | _ => none
  | _ => none
/-- one step of the method y at the instruction (pc, i), then ih; at its end fin -/
def xv_step {V ρ : Type} (D : xv_D V) (ct : List (List (FieldType × Bool))) (at_ : List Nat) (sct : List (List Int32)) (ms : List xv_N) (call : Nat → List (xv_V V) → xv_M V → Option (xv_R V)) (y : xv_N) (fin : Option (xv_V V) → xv_M V → Option ρ)
    (ih : Nat → List xv_I → xv_L V → List (xv_V V) → xv_M V → Nat → Nat → Option ρ) (pc : Nat) (cs : List xv_I) (L : xv_L V) (S : List (xv_V V)) (M : xv_M V) (c s : Nat) : Option ρ := match cs with
  | [] => none
  | q :: cs => bif Nat.beq q.1 pc then match xv_pure D y.1.2 L S q.2 with
      | some LS => ih (pc + xv_len q.2) cs LS.1 LS.2 M c s
      | none => match xv_br D pc S q.2 with
        | some tS => ih tS.1 (xv_to y.2.2.2 tS.1) L tS.2 M c s
        | none => match xv_mem D ct at_ y.1.2 y.1.1 y.2.1.2.2.2 M S q.2 with
          | some T => bif Nat.ble (c + T.2.2.1) y.2.2.1.1 && Nat.ble (s + T.2.2.2) y.2.2.1.2 then ih (pc + xv_len q.2) cs L T.1 T.2.1 (c + T.2.2.1) (s + T.2.2.2) else none
          | none => match xv_arg ms y.1.2 M S q.2 with
            | some A => match ms[A.1]? with
              | some z => bif Nat.ble (c + z.2.2.1.1) y.2.2.1.1 && Nat.ble (s + z.2.2.1.2) y.2.2.1.2 then match call A.1 A.2.1 M with
                  | some r => ih (pc + 3) cs L (r.1.toList ++ A.2.2) r.2 (c + z.2.2.1.1) (s + z.2.2.1.2)
                  | none => none
                else none
              | none => none
            | none => match xv_nat D sct y.1.2 M S q.2 with
              | some T => ih (pc + 3) cs L T.1 T.2 c s
              | none => match xv_end D y.2.1.2.2.1 S q.2 with
                | some r => fin r M
                | none => none
    else none
noncomputable def xv_loop {V : Type} (D : xv_D V) (ct : List (List (FieldType × Bool))) (at_ : List Nat) (sct : List (List Int32)) (ms : List xv_N) (call : Nat → List (xv_V V) → xv_M V → Option (xv_R V)) (y : xv_N) : Nat → Nat → List xv_I → xv_L V → List (xv_V V) → xv_M V → Nat → Nat → Option (xv_R V) :=
  Nat.rec (fun _ _ _ _ _ _ _ => none) (fun _ ih => xv_step D ct at_ sct ms call y (fun r M => some (r, M)) ih)
/-- the same up to the instruction at stop: at least one step -/
noncomputable def xv_seg {V : Type} (D : xv_D V) (ct : List (List (FieldType × Bool))) (at_ : List Nat) (sct : List (List Int32)) (ms : List xv_N) (call : Nat → List (xv_V V) → xv_M V → Option (xv_R V)) (y : xv_N) (stop : Nat) : Nat → Nat → List xv_I → xv_L V → List (xv_V V) → xv_M V → Nat → Nat → Option (xv_L V × List (xv_V V) × xv_M V × Nat × Nat) :=
  Nat.rec (fun _ _ _ _ _ _ _ => none) (fun _ ih => xv_step D ct at_ sct ms call y (fun _ _ => none) (fun pc cs L S M c s => bif Nat.beq pc stop then some (L, S, M, c, s) else ih pc cs L S M c s))
/-- the locals at the entry -/
def xv_in {V : Type} : List (xv_V V) → Nat → xv_L V
  | [], n => List.replicate n none
  | v :: r, n => match v with
    | .inr (.inl a) => some (.inr (.inl a)) :: none :: xv_in r (n - 2)
    | v => some v :: xv_in r (n - 1)
/-- what the method j does: at most so many calls deep; ext: what is known of a call already -/
noncomputable def xv_run {V : Type} (D : xv_D V) (ct : List (List (FieldType × Bool))) (at_ : List Nat) (sct : List (List Int32)) (ms : List xv_N) (ext : Nat → Nat → List (xv_V V) → xv_M V → Option (xv_R V)) (fuel : Nat) : Nat → Nat → List (xv_V V) → xv_M V → Option (xv_R V) :=
  Nat.rec (fun _ _ _ => none) (fun d ih j as M => match ext (d + 1) j as M with
    | some r => some r
    | none => match ms[j]? with
      | some y => bif Nat.ble (xv_cats as) y.2.1.2.1 then xv_loop D ct at_ sct ms ih y fuel 0 y.2.2.2 (xv_in as y.2.1.2.1) [] M 0 0 else none
      | none => none)
end
section
/-! THE RELATION between the pure machine and the kit's worlds. φ: the addresses of the cells, by their numbers. -/
def xr_v {V : Type} (g : V → Value → Prop) (φ : List Nat) : xv_V V → Value → Prop
  | .inl a, x => ∃ n : Int32, x = .int n ∧ g a (.int n)
  | .inr (.inl a), x => ∃ n : Int64, x = .long n ∧ g a (.long n)
  | .inr (.inr none), x => x = .null
  | .inr (.inr (some k)), x => ∃ q : Nat, φ[k]? = some q ∧ x = .ref q
def xr_s {V : Type} (g : V → Value → Prop) (φ : List Nat) : List (xv_V V) → List Value → Prop
  | [], st => st = []
  | v :: S, st => ∃ (x : Value) (r : List Value), st = x :: r ∧ xr_v g φ v x ∧ xr_s g φ S r
def xr_l {V : Type} (g : V → Value → Prop) (φ : List Nat) (L : xv_L V) (ls : Array Slot) (nL : Nat) : Prop :=
  L.length = nL ∧ ∃ lv : List (Nat × Value), lv_has ls nL lv ∧ ∀ (i : Nat) (v : xv_V V), L[i]? = some (some v) → ∃ x : Value, (i, x) ∈ lv ∧ xr_v g φ v x
def xr_e {V : Type} (g : V → Value → Prop) (φ : List Nat) (tys : List (ClassId × FieldType)) (o : xv_O V) (E : va_E) : Prop :=
  (8 ≤ o.1 ∧ ∃ fs : List Value, E = .inr (o.1 - 8, fs) ∧ fs.length = o.2.length ∧ ∀ (j : Nat) (v : xv_V V), o.2[j]? = some v → ∃ x : Value, fs[j]? = some x ∧ xr_v g φ v x) ∨
  (∃ (cA : ClassId) (ty : FieldType), tys[o.1]? = some (cA, ty) ∧
    (((o.1 = 0 ∨ o.1 = 2) ∧ ∃ f : Nat → Int32, E = .inl (cA, o.2.length, .inl f) ∧ ∀ (j : Nat) (v : xv_V V), o.2[j]? = some v → xr_v g φ v (.int (f j))) ∨
     (o.1 = 1 ∧ ∃ f : Nat → Int64, E = .inl (cA, o.2.length, .inr (.inl f)) ∧ ∀ (j : Nat) (v : xv_V V), o.2[j]? = some v → xr_v g φ v (.long (f j))) ∨
     ((4 ≤ o.1 ∧ o.1 < 7) ∧ ∃ f : Nat → Option Nat, E = .inl (cA, o.2.length, .inr (.inr (.inr (.inr f)))) ∧ ∀ (j : Nat) (v : xv_V V), o.2[j]? = some v → xr_v g φ v (va_rf (f j)))))
/-- the memory: C says what a constant cell holds; the constant cells are the first ones -/
def xr_m {V : Type} (C : Nat → xv_O V → Prop) (g : V → Value → Prop) (φ : List Nat) (tys : List (ClassId × FieldType)) (M : xv_M V) (ws : va_W) : Prop :=
  ∃ pre : List Nat, pre ++ ws.map (·.1) = φ ∧ M.length = φ.length ∧ (∀ (k : Nat) (o : xv_O V), M[k]? = some o → o.1 ≠ 7 → o.1 ≠ 3 → pre.length ≤ k ∧ ∃ (q : Nat) (E : va_E), ws[k - pre.length]? = some (q, E) ∧ xr_e g φ tys o E) ∧ ∀ (k : Nat) (o : xv_O V), M[k]? = some o → o.1 = 3 → C k o
def xv_semI : Nat → Int32 → Int32 → Option Int32
  | 0, x, y => some (x + y)
  | 1, x, y => some (x - y)
  | 2, x, y => some (x * y)
  | 3, x, y => some (x &&& y)
  | 4, x, y => some (x ||| y)
  | 5, x, y => some (x <<< (y &&& 31))
  | 6, x, y => some (x >>> (y &&& 31))
  | 7, x, y => some ((x.toUInt32 >>> (y.toUInt32 &&& Int32.toUInt32 31)).toInt32)
  | 8, x, y => if y = 0 then none else some (x / y)
  | 9, x, y => if y = 0 then none else some (x - x / y * y)
  | 10, x, _ => some (-x)
  | _, _, _ => none
def xv_semL : Nat → Int64 → Int64 → Option Int64
  | 0, x, y => some (x + y)
  | 1, x, y => some (x - y)
  | 2, x, y => some (x * y)
  | 3, x, y => some (x &&& y)
  | 4, x, y => some (x ||| y)
  | 5, x, y => if y = 0 then none else some (x / y)
  | 6, x, y => if y = 0 then none else some (x - x / y * y)
  | 7, x, _ => some (-x)
  | _, _, _ => none
def xv_cmp : Nat → Int32 → Int32 → Bool
  | 0, x, y => decide (x = y)
  | 1, x, y => !decide (x = y)
  | 2, x, y => decide (x < y)
  | 3, x, y => decide (y ≤ x)
  | 4, x, y => decide (y < x)
  | _, x, y => decide (x ≤ y)
/-- the domain's operations are right -/
def xv_ok {V : Type} (D : xv_D V) (g : V → Value → Prop) : Prop :=
  (∀ n : Int32, g (D.1 n) (.int n)) ∧ (∀ n : Int64, g (D.2.1 n) (.long n)) ∧
  (∀ (o : Nat) (a b r : V) (x y : Int32), o < 20 → D.2.2.1 o a b = some r → g a (.int x) → g b (.int y) → ∃ z, xv_semI o x y = some z ∧ g r (.int z)) ∧
  (∀ (o : Nat) (a b r : V) (x y : Int64), o < 10 → D.2.2.1 (o + 20) a b = some r → g a (.long x) → g b (.long y) → ∃ z, xv_semL o x y = some z ∧ g r (.long z)) ∧
  (∀ (a b r : V) (x : Int64) (y : Int32), D.2.2.1 30 a b = some r → g a (.long x) → g b (.int y) → g r (.long (x <<< (y.toInt64 &&& 63)))) ∧
  (∀ (a b r : V) (x : Int64) (y : Int32), D.2.2.1 31 a b = some r → g a (.long x) → g b (.int y) → g r (.long (x >>> (y.toInt64 &&& 63)))) ∧
  (∀ (a b r : V) (x : Int32), D.2.2.1 40 a b = some r → g a (.int x) → g r (.long x.toInt64)) ∧
  (∀ (a b r : V) (x : Int64), D.2.2.1 41 a b = some r → g a (.long x) → g r (.int x.toInt32)) ∧
  (∀ (a b r : V) (x y : Int64), D.2.2.1 42 a b = some r → g a (.long x) → g b (.long y) → g r (.int (lg_cmp x y))) ∧
  (∀ (o : Nat) (a b : V) (t : Bool) (x y : Int32), D.2.2.2.1 o a b = some t → g a (.int x) → g b (.int y) → xv_cmp o x y = t) ∧
  (∀ (a : V) (n : Int) (x : Int32), D.2.2.2.2.1 a = some n → g a (.int x) → x.toInt = n) ∧
  (∀ (a : V) (x : Int32), D.2.2.2.2.2 a = true → g a (.int x) → x = 0 ∨ x = 1)
section XRM
variable {V : Type} {g : V → Value → Prop} {φ : List Nat}
theorem xr_v_mono {t : List Nat} : ∀ {v : xv_V V} {x : Value}, xr_v g φ v x → xr_v g (φ ++ t) v x
  | .inl _, _, h => h
  | .inr (.inl _), _, h => h
  | .inr (.inr none), _, h => h
  | .inr (.inr (some k)), _, ⟨q, hq, hx⟩ => ⟨q, by
      have hk : k < φ.length := (List.getElem?_eq_some_iff.mp hq).1
      rw [List.getElem?_append_left hk]; exact hq, hx⟩
theorem xr_s_mono {t : List Nat} : ∀ {S : List (xv_V V)} {st : List Value}, xr_s g φ S st → xr_s g (φ ++ t) S st
  | [], _, h => h
  | _ :: _, _, ⟨x, r, e, h, k⟩ => ⟨x, r, e, xr_v_mono h, xr_s_mono k⟩
theorem xr_l_mono {t : List Nat} {L : xv_L V} {ls : Array Slot} {nL : Nat} (h : xr_l g φ L ls nL) : xr_l g (φ ++ t) L ls nL :=
  ⟨h.1, h.2.choose, h.2.choose_spec.1, fun i v hv => by
    obtain ⟨x, hx, hr⟩ := h.2.choose_spec.2 i v hv
    exact ⟨x, hx, xr_v_mono hr⟩⟩
theorem xr_v_cat : ∀ {v : xv_V V} {x : Value}, xr_v g φ v x → x.category = xv_cat v
  | .inl _, _, ⟨_, h, _⟩ => by rw [h]; rfl
  | .inr (.inl _), _, ⟨_, h, _⟩ => by rw [h]; rfl
  | .inr (.inr none), _, h => by rw [show _ = Value.null from h]; rfl
  | .inr (.inr (some _)), _, ⟨_, _, h⟩ => by rw [h]; rfl
theorem xr_s_cats : ∀ {S : List (xv_V V)} {st : List Value}, xr_s g φ S st → (st.map fun v => v.category).sum = xv_cats S
  | [], _, h => by rw [show _ = ([] : List Value) from h]; rfl
  | _ :: _, _, ⟨x, r, e, h, k⟩ => by rw [e, List.map_cons, List.sum_cons, xr_v_cat h, xr_s_cats k]; rfl
theorem xr_l_at {L : xv_L V} {ls : Array Slot} {nL i : Nat} {v : xv_V V} (h : xr_l g φ L ls nL) (hi : L[i]? = some (some v)) : ∃ x : Value, ls[i]? = some (.val x) ∧ xr_v g φ v x := by
  obtain ⟨-, lv, h1, h2⟩ := h
  obtain ⟨x, hx, hr⟩ := h2 i v hi
  exact ⟨x, h1.2.2 (i, x) hx, hr⟩
theorem xv_kill_len (L : xv_L V) (i : Nat) : (xv_kill L i).length = L.length := by
  cases i with
  | zero => rfl
  | succ j =>
    simp only [xv_kill]
    split
    · rw [List.length_set]
    · rfl
/-- what is left behind a store at i -/
theorem xv_kill_at {L : xv_L V} {i j : Nat} {w : xv_V V} (h : (xv_kill L i)[j]? = some (some w)) : L[j]? = some (some w) ∧ (j + 1 = i → xv_cat w = 1) := by
  cases i with
  | zero => exact ⟨h, fun q => by omega⟩
  | succ k =>
    simp only [xv_kill] at h
    split at h
    · rename_i a hk
      rw [List.getElem?_set] at h
      split at h
      · split at h <;> simp at h
      · rename_i hne
        exact ⟨h, fun q => absurd (by omega : k = j) hne⟩
    · rename_i hk
      refine ⟨h, fun q => ?_⟩
      have e : j = k := by omega
      subst e
      match w, h with
      | .inl _, _ => rfl
      | .inr (.inr _), _ => rfl
      | .inr (.inl a), h => exact absurd h (hk a)
theorem xr_l_put1 {L : xv_L V} {nL i : Nat} {v : xv_V V} {x : Value} {lv : List (Nat × Value)} {ls' : Array Slot} (hL : L.length = nL) (h2 : ∀ (i : Nat) (v : xv_V V), L[i]? = some (some v) → ∃ x : Value, (i, x) ∈ lv ∧ xr_v g φ v x) (hv : xr_v g φ v x)
    (h' : lv_has ls' nL ((i, x) :: lv.filter (fun q => !(q.1 == i) && !(q.1 + 1 == i && q.2.category == 2)))) : xr_l g φ (xv_put1 L i v) ls' nL := by
  refine ⟨by rw [xv_put1, List.length_set, xv_kill_len, hL], _, h', fun j w hw => ?_⟩
  rw [xv_put1, List.getElem?_set] at hw
  split at hw
  · rename_i e
    subst e
    split at hw
    · have e2 : v = w := by simpa using hw
      subst e2
      exact ⟨x, List.mem_cons_self, hv⟩
    · simp at hw
  · rename_i hne
    obtain ⟨hw, hc⟩ := xv_kill_at hw
    obtain ⟨y, hy, hr⟩ := h2 j w hw
    refine ⟨y, List.mem_cons_of_mem _ (List.mem_filter.mpr ⟨hy, ?_⟩), hr⟩
    have hcat := xr_v_cat hr
    by_cases hj : j + 1 = i
    · have h1 := hc hj
      have : ¬ j = i := fun q => hne q.symm
      simp [this, hcat, h1]
    · have : ¬ j = i := fun q => hne q.symm
      simp [this, hj]
theorem xr_l_put2 {L : xv_L V} {nL i : Nat} {v : xv_V V} {x : Value} {lv : List (Nat × Value)} {ls' : Array Slot} (hL : L.length = nL) (h2 : ∀ (i : Nat) (v : xv_V V), L[i]? = some (some v) → ∃ x : Value, (i, x) ∈ lv ∧ xr_v g φ v x) (hv : xr_v g φ v x)
    (h' : lv_has ls' nL ((i, x) :: lv.filter (fun q => !(q.1 == i) && (!(q.1 == i + 1) && !(q.1 + 1 == i && q.2.category == 2))))) : xr_l g φ (xv_put2 L i v) ls' nL := by
  refine ⟨by rw [xv_put2, List.length_set, List.length_set, xv_kill_len, hL], _, h', fun j w hw => ?_⟩
  rw [xv_put2, List.getElem?_set] at hw
  split at hw
  · rename_i e
    subst e
    split at hw
    · have e2 : v = w := by simpa using hw
      subst e2
      exact ⟨x, List.mem_cons_self, hv⟩
    · simp at hw
  · rename_i hne
    rw [List.getElem?_set] at hw
    split at hw
    · split at hw <;> simp at hw
    · rename_i hne2
      obtain ⟨hw, hc⟩ := xv_kill_at hw
      obtain ⟨y, hy, hr⟩ := h2 j w hw
      refine ⟨y, List.mem_cons_of_mem _ (List.mem_filter.mpr ⟨hy, ?_⟩), hr⟩
      have hcat := xr_v_cat hr
      have n1 : ¬ j = i := fun q => hne q.symm
      have n2 : ¬ j = i + 1 := fun q => hne2 q.symm
      by_cases hj : j + 1 = i
      · have h1 := hc hj
        simp [n1, n2, hcat, h1]
      · simp [n1, n2, hj]
end XRM
end
section
section XSP
variable {p : Program} {l : Launch} {e : Env} {R : Room} {s : State} {m : MethodId} {args : Array Value} {below : List Frame} {meth : Method} {c : Code} {H : Heap} {locs : List Loc} {cells slots : Nat} {Q : State → Prop}
variable {cc : ByteArray} {pc : Nat} {V : Type} {D : xv_D V} {g : V → Value → Prop} {φ : List Nat} {nL : Nat} {L L' : xv_L V} {S S' : List (xv_V V)} {ls : Array Slot} {st : List Value}
theorem xs_ld {t i : Nat} (h : xv_ld L S t i = some (L', S')) (hl : xr_l g φ L ls nL) : L' = L ∧ ∃ (v : xv_V V) (x : Value), S' = v :: S ∧ ls[i]? = some (.val x) ∧ xr_v g φ v x ∧ ((t = 0 → ∃ a, v = .inl a) ∧ (t = 1 → ∃ a, v = .inr (.inl a)) ∧ (t = 2 → ∃ k, v = .inr (.inr (some k)))) := by
  unfold xv_ld at h
  split at h
  · rename_i a ha
    obtain ⟨x, h1, h2⟩ := xr_l_at hl ha
    cases ht : Nat.beq t 0 <;> simp [ht] at h
    obtain ⟨rfl, rfl⟩ := h
    have e := Nat.eq_of_beq_eq_true ht
    exact ⟨rfl, _, x, rfl, h1, h2, fun _ => ⟨a, rfl⟩, fun q => by omega, fun q => by omega⟩
  · rename_i a ha
    obtain ⟨x, h1, h2⟩ := xr_l_at hl ha
    cases ht : Nat.beq t 1 <;> simp [ht] at h
    obtain ⟨rfl, rfl⟩ := h
    have e := Nat.eq_of_beq_eq_true ht
    exact ⟨rfl, _, x, rfl, h1, h2, fun q => by omega, fun _ => ⟨a, rfl⟩, fun q => by omega⟩
  · rename_i a ha
    obtain ⟨x, h1, h2⟩ := xr_l_at hl ha
    cases ht : Nat.beq t 2 <;> simp [ht] at h
    obtain ⟨rfl, rfl⟩ := h
    have e := Nat.eq_of_beq_eq_true ht
    exact ⟨rfl, _, x, rfl, h1, h2, fun q => by omega, fun q => by omega, fun _ => ⟨a, rfl⟩⟩
  · cases h
theorem xs_sto0 {i : Nat} (h : xv_sto L S 0 i = some (L', S')) : ∃ a, S = .inl a :: S' ∧ i < L.length ∧ L' = xv_put1 L i (.inl a) := by
  unfold xv_sto at h
  split at h
  · rename_i a S1
    cases ht : Nat.blt i L.length <;> simp [ht, show Nat.beq 0 0 = true from rfl] at h
    obtain ⟨rfl, rfl⟩ := h
    exact ⟨a, rfl, Nat.le_of_ble_eq_true ht, rfl⟩
  · simp [show Nat.beq 0 1 = false from rfl] at h
  · simp [show Nat.beq 0 2 = false from rfl] at h
  · cases h
theorem xs_sto1 {i : Nat} (h : xv_sto L S 1 i = some (L', S')) : ∃ a, S = .inr (.inl a) :: S' ∧ i + 1 < L.length ∧ L' = xv_put2 L i (.inr (.inl a)) := by
  unfold xv_sto at h
  split at h
  · simp [show Nat.beq 1 0 = false from rfl] at h
  · rename_i a S1
    cases ht : Nat.blt (i + 1) L.length <;> simp [ht, show Nat.beq 1 1 = true from rfl] at h
    obtain ⟨rfl, rfl⟩ := h
    exact ⟨a, rfl, Nat.le_of_ble_eq_true ht, rfl⟩
  · simp [show Nat.beq 1 2 = false from rfl] at h
  · cases h
theorem xs_sto2 {i : Nat} (h : xv_sto L S 2 i = some (L', S')) : ∃ a, S = .inr (.inr (some a)) :: S' ∧ i < L.length ∧ L' = xv_put1 L i (.inr (.inr (some a))) := by
  unfold xv_sto at h
  split at h
  · simp [show Nat.beq 2 0 = false from rfl] at h
  · simp [show Nat.beq 2 1 = false from rfl] at h
  · rename_i a S1
    cases ht : Nat.blt i L.length <;> simp [ht, show Nat.beq 2 2 = true from rfl] at h
    obtain ⟨rfl, rfl⟩ := h
    exact ⟨a, rfl, Nat.le_of_ble_eq_true ht, rfl⟩
  · cases h
theorem xs_i2 (hD : xv_ok D g) {o : Nat} (ho : o < 20) (h : xv_i2 D o L S = some (L', S')) (hs : xr_s g φ S st) : L' = L ∧ ∃ (r : V) (S1 : List (xv_V V)) (x y z : Int32) (rest : List Value), S' = .inl r :: S1 ∧ st = .int y :: .int x :: rest ∧ xr_s g φ S1 rest ∧ xv_semI o x y = some z ∧ g r (.int z) := by
  unfold xv_i2 at h
  split at h
  · rename_i b a S1
    obtain ⟨_, r1, rfl, ⟨y, rfl, hy⟩, _, r2, rfl, ⟨x, rfl, hx⟩, hr⟩ := hs
    split at h
    · rename_i r hr2
      obtain ⟨rfl, rfl⟩ := by simpa using h
      obtain ⟨z, hz, hg⟩ := hD.2.2.1 o a b r x y ho hr2 hx hy
      exact ⟨rfl, r, S1, x, y, z, r2, rfl, rfl, hr, hz, hg⟩
    · cases h
  · cases h
theorem xs_l2 (hD : xv_ok D g) {o : Nat} (ho : o < 10) (h : xv_l2 D (o + 20) L S = some (L', S')) (hs : xr_s g φ S st) : L' = L ∧ ∃ (r : V) (S1 : List (xv_V V)) (x y z : Int64) (rest : List Value), S' = .inr (.inl r) :: S1 ∧ st = .long y :: .long x :: rest ∧ xr_s g φ S1 rest ∧ xv_semL o x y = some z ∧ g r (.long z) := by
  unfold xv_l2 at h
  split at h
  · rename_i b a S1
    obtain ⟨_, r1, rfl, ⟨y, rfl, hy⟩, _, r2, rfl, ⟨x, rfl, hx⟩, hr⟩ := hs
    split at h
    · rename_i r hr2
      obtain ⟨rfl, rfl⟩ := by simpa using h
      obtain ⟨z, hz, hg⟩ := hD.2.2.2.1 o a b r x y ho hr2 hx hy
      exact ⟨rfl, r, S1, x, y, z, r2, rfl, rfl, hr, hz, hg⟩
    · cases h
  · cases h
theorem xs_s2 {o : Nat} (h : xv_s2 D o L S = some (L', S')) (hs : xr_s g φ S st) : L' = L ∧ ∃ (a b r : V) (S1 : List (xv_V V)) (x : Int64) (y : Int32) (rest : List Value), S' = .inr (.inl r) :: S1 ∧ st = .int y :: .long x :: rest ∧ xr_s g φ S1 rest ∧ D.2.2.1 o a b = some r ∧ g a (.long x) ∧ g b (.int y) := by
  unfold xv_s2 at h
  split at h
  · rename_i b a S1
    obtain ⟨_, r1, rfl, ⟨y, rfl, hy⟩, _, r2, rfl, ⟨x, rfl, hx⟩, hr⟩ := hs
    split at h
    · rename_i r hr2
      obtain ⟨rfl, rfl⟩ := by simpa using h
      exact ⟨rfl, a, b, r, S1, x, y, r2, rfl, rfl, hr, hr2, hx, hy⟩
    · cases h
  · cases h
end XSP
end
section
section XSQ
variable {p : Program} {l : Launch} {e : Env} {R : Room} {s : State} {m : MethodId} {args : Array Value} {below : List Frame} {meth : Method} {c : Code} {H : Heap} {locs : List Loc} {cells slots : Nat} {Q : State → Prop}
variable {cc : ByteArray} {pc : Nat} {V : Type} {D : xv_D V} {g : V → Value → Prop} {φ : List Nat} {nL : Nat} {L L' : xv_L V} {S S' : List (xv_V V)} {ls : Array Slot} {st : List Value}
set_option maxHeartbeats 4000000 in
/-- THE INSTRUCTIONS OF LOCALS AND STACK -/
theorem xs_pure (hx : p.tables.exec = Jvm.exec) (hb : c.code = cc) {own : String} (hown : s.vm.findClass own = some m.cls) (hD : xv_ok D g) {K : xv_K}
    (hKi : ∀ (i : Nat) (v : Int32), xv_find K.2.2.2.1 i = some v → (Jvm.Cond.constant own i v).before args s = true) (hKl : ∀ (i : Nat) (v : Int64), xv_find K.2.2.2.2 i = some v → (Jvm.Cond.constantLong own i v).before args s = true)
    (hKs : ∀ (i n : Nat), xv_find K.2.2.1 i = some n → 2000 ≤ n → ∃ (tx : String) (q : Nat), vk_R own i tx q s ∧ φ[n - 2000]? = some q)
    {i : Instr} (h : xv_pure D K L S i = some (L', S')) (hdg : decode cc pc = .ok (i, xv_len i)) (hl : xr_l g φ L ls nL) (hs : xr_s g φ S st)
    (kk : ∀ (ls' : Array Slot) (st' : List Value), xr_l g φ L' ls' nL → xr_s g φ S' st' → W p l e R s m args below meth c H locs cells slots Q (F0 m (pc + xv_len i) ls' st')) :
    W p l e R s m args below meth c H locs cells slots Q (F0 m pc ls st) := by
  cases i
  all_goals (first | (simp only [xv_pure, reduceCtorEq] at h; done) | skip)

  case bipush n =>
    obtain ⟨rfl, rfl⟩ := by simpa [xv_pure] using h
    exact lv_bipush hx hb hdg rfl (kk _ _ hl ⟨_, _, rfl, ⟨_, rfl, hD.1 _⟩, hs⟩)
  case iconst n =>
    obtain ⟨rfl, rfl⟩ := by simpa [xv_pure] using h
    exact lv_iconst hx hb hdg rfl (kk _ _ hl ⟨_, _, rfl, ⟨_, rfl, hD.1 _⟩, hs⟩)
  case sipush n =>
    obtain ⟨rfl, rfl⟩ := by simpa [xv_pure] using h
    exact lv_sipush hx hb hdg rfl (kk _ _ hl ⟨_, _, rfl, ⟨_, rfl, hD.1 _⟩, hs⟩)
  case lconst n =>
    obtain ⟨rfl, rfl⟩ := by simpa [xv_pure] using h
    exact lv_lconst hx hb hdg rfl (kk _ _ hl ⟨_, _, rfl, ⟨_, rfl, hD.2.1 _⟩, hs⟩)
  case ldc n =>
    simp only [xv_pure] at h
    split at h
    · rename_i v hv
      obtain ⟨rfl, rfl⟩ := by simpa using h
      exact lv_ldc hx hb hown (hKi _ _ hv) hdg (kk _ _ hl ⟨_, _, rfl, ⟨_, rfl, hD.1 _⟩, hs⟩)
    · split at h
      · rename_i k hk
        cases h2 : Nat.ble 2000 k <;> simp only [h2, cond_true, cond_false] at h
        · cases h
        obtain ⟨rfl, rfl⟩ := by simpa using h
        obtain ⟨tx, q, hR, hq⟩ := hKs _ _ hk (Nat.le_of_ble_eq_true h2)
        exact va_ldcS hx hb hown hR hdg (kk _ _ hl ⟨_, _, rfl, ⟨q, hq, rfl⟩, hs⟩)
      · cases h
  case ldc2_w n =>
    simp only [xv_pure] at h
    split at h
    · rename_i v hv
      obtain ⟨rfl, rfl⟩ := by simpa using h
      exact lv_ldc2 hx hb hown (hKl _ _ hv) hdg (kk _ _ hl ⟨_, _, rfl, ⟨_, rfl, hD.2.1 _⟩, hs⟩)
    · cases h
  case iload_n k =>
    simp only [xv_pure] at h
    obtain ⟨rfl, v, x, rfl, h1, h2, hv⟩ := xs_ld h hl
    obtain ⟨a, rfl⟩ := hv.1 rfl
    obtain ⟨n, rfl, hn⟩ := h2
    exact lv_iload_n hx hb hdg rfl h1 (kk _ _ hl ⟨_, _, rfl, ⟨n, rfl, hn⟩, hs⟩)
  case iload k =>
    simp only [xv_pure] at h
    obtain ⟨rfl, v, x, rfl, h1, h2, hv⟩ := xs_ld h hl
    obtain ⟨a, rfl⟩ := hv.1 rfl
    obtain ⟨n, rfl, hn⟩ := h2
    exact lv_iload hx hb hdg h1 (kk _ _ hl ⟨_, _, rfl, ⟨n, rfl, hn⟩, hs⟩)
  case lload_n k =>
    simp only [xv_pure] at h
    obtain ⟨rfl, v, x, rfl, h1, h2, hv⟩ := xs_ld h hl
    obtain ⟨a, rfl⟩ := hv.2.1 rfl
    obtain ⟨n, rfl, hn⟩ := h2
    exact lv_lload_n hx hb hdg rfl h1 (kk _ _ hl ⟨_, _, rfl, ⟨n, rfl, hn⟩, hs⟩)
  case lload k =>
    simp only [xv_pure] at h
    obtain ⟨rfl, v, x, rfl, h1, h2, hv⟩ := xs_ld h hl
    obtain ⟨a, rfl⟩ := hv.2.1 rfl
    obtain ⟨n, rfl, hn⟩ := h2
    exact lv_lload hx hb hdg h1 (kk _ _ hl ⟨_, _, rfl, ⟨n, rfl, hn⟩, hs⟩)
  case aload_n k =>
    simp only [xv_pure] at h
    obtain ⟨rfl, v, x, rfl, h1, h2, hv⟩ := xs_ld h hl
    obtain ⟨a, rfl⟩ := hv.2.2 rfl
    obtain ⟨q, hq, rfl⟩ := h2
    exact lv_aload_n hx hb hdg rfl h1 (kk _ _ hl ⟨_, _, rfl, ⟨q, hq, rfl⟩, hs⟩)
  case aload k =>
    simp only [xv_pure] at h
    obtain ⟨rfl, v, x, rfl, h1, h2, hv⟩ := xs_ld h hl
    obtain ⟨a, rfl⟩ := hv.2.2 rfl
    obtain ⟨q, hq, rfl⟩ := h2
    exact lv_aload hx hb hdg h1 (kk _ _ hl ⟨_, _, rfl, ⟨q, hq, rfl⟩, hs⟩)
  case istore_n k =>
    simp only [xv_pure] at h
    obtain ⟨a, rfl, hi, rfl⟩ := xs_sto0 h
    obtain ⟨_, r, rfl, ⟨n, rfl, hn⟩, hr⟩ := hs
    obtain ⟨hL, lv, h1, h2⟩ := hl
    exact lv_istore_n hx hb hdg rfl h1 (by rw [← hL]; exact hi) rfl (fun ls' h3 => kk _ _ (xr_l_put1 hL h2 ⟨n, rfl, hn⟩ h3) hr)
  case istore k =>
    simp only [xv_pure] at h
    obtain ⟨a, rfl, hi, rfl⟩ := xs_sto0 h
    obtain ⟨_, r, rfl, ⟨n, rfl, hn⟩, hr⟩ := hs
    obtain ⟨hL, lv, h1, h2⟩ := hl
    exact lv_istore hx hb hdg h1 (by rw [← hL]; exact hi) rfl (fun ls' h3 => kk _ _ (xr_l_put1 hL h2 ⟨n, rfl, hn⟩ h3) hr)
  case lstore_n k =>
    simp only [xv_pure] at h
    obtain ⟨a, rfl, hi, rfl⟩ := xs_sto1 h
    obtain ⟨_, r, rfl, ⟨n, rfl, hn⟩, hr⟩ := hs
    obtain ⟨hL, lv, h1, h2⟩ := hl
    exact lv_lstore_n hx hb hdg rfl h1 (by rw [← hL]; exact hi) rfl (fun ls' h3 => kk _ _ (xr_l_put2 hL h2 ⟨n, rfl, hn⟩ h3) hr)
  case lstore k =>
    simp only [xv_pure] at h
    obtain ⟨a, rfl, hi, rfl⟩ := xs_sto1 h
    obtain ⟨_, r, rfl, ⟨n, rfl, hn⟩, hr⟩ := hs
    obtain ⟨hL, lv, h1, h2⟩ := hl
    exact lv_lstore hx hb hdg h1 (by rw [← hL]; exact hi) rfl (fun ls' h3 => kk _ _ (xr_l_put2 hL h2 ⟨n, rfl, hn⟩ h3) hr)
  case astore_n k =>
    simp only [xv_pure] at h
    obtain ⟨a, rfl, hi, rfl⟩ := xs_sto2 h
    obtain ⟨_, r, rfl, ⟨q, hq, rfl⟩, hr⟩ := hs
    obtain ⟨hL, lv, h1, h2⟩ := hl
    exact lv_astore_n hx hb hdg rfl h1 (by rw [← hL]; exact hi) rfl (fun ls' h3 => kk _ _ (xr_l_put1 hL h2 ⟨q, hq, rfl⟩ h3) hr)
  case astore k =>
    simp only [xv_pure] at h
    obtain ⟨a, rfl, hi, rfl⟩ := xs_sto2 h
    obtain ⟨_, r, rfl, ⟨q, hq, rfl⟩, hr⟩ := hs
    obtain ⟨hL, lv, h1, h2⟩ := hl
    exact lv_astore hx hb hdg h1 (by rw [← hL]; exact hi) rfl (fun ls' h3 => kk _ _ (xr_l_put1 hL h2 ⟨q, hq, rfl⟩ h3) hr)
  case iinc k n =>
    simp only [xv_pure] at h
    unfold xv_iinc at h
    split at h
    · rename_i a ha
      split at h
      · rename_i r hr
        obtain ⟨rfl, rfl⟩ := by simpa using h
        obtain ⟨hL, lv, h1, h2⟩ := hl
        obtain ⟨_, hm, n0, rfl, hn⟩ := h2 k _ ha
        obtain ⟨z, hz, hg⟩ := hD.2.2.1 0 _ _ _ n0 (Int32.ofInt n) (by decide) hr hn (hD.1 _)
        obtain rfl : n0 + Int32.ofInt n = z := by simpa [xv_semI] using hz
        obtain ⟨j, hj⟩ := List.getElem?_of_mem hm
        have hk : k < nL := by rw [← hL]; exact (List.getElem?_eq_some_iff.mp ha).1
        exact lv_iinc hx hb hdg h1 hj rfl hk rfl (fun ls' h3 => kk _ _ (xr_l_put1 hL h2 ⟨_, rfl, hg⟩ h3) hs)
      · cases h
    · cases h
  case iadd =>
    simp only [xv_pure] at h
    obtain ⟨rfl, r, S1, x, y, z, rest, rfl, rfl, hr, hz, hg⟩ := xs_i2 hD (by decide) h hs
    cases Option.some.inj hz
    exact lv_iadd hx hb hdg (kk _ _ hl ⟨_, _, rfl, ⟨_, rfl, hg⟩, hr⟩)
  case isub =>
    simp only [xv_pure] at h
    obtain ⟨rfl, r, S1, x, y, z, rest, rfl, rfl, hr, hz, hg⟩ := xs_i2 hD (by decide) h hs
    cases Option.some.inj hz
    exact lv_isub hx hb hdg (kk _ _ hl ⟨_, _, rfl, ⟨_, rfl, hg⟩, hr⟩)
  case imul =>
    simp only [xv_pure] at h
    obtain ⟨rfl, r, S1, x, y, z, rest, rfl, rfl, hr, hz, hg⟩ := xs_i2 hD (by decide) h hs
    cases Option.some.inj hz
    exact lv_imul hx hb hdg (kk _ _ hl ⟨_, _, rfl, ⟨_, rfl, hg⟩, hr⟩)
  case iand =>
    simp only [xv_pure] at h
    obtain ⟨rfl, r, S1, x, y, z, rest, rfl, rfl, hr, hz, hg⟩ := xs_i2 hD (by decide) h hs
    cases Option.some.inj hz
    exact lv_iand hx hb hdg (kk _ _ hl ⟨_, _, rfl, ⟨_, rfl, hg⟩, hr⟩)
  case ior =>
    simp only [xv_pure] at h
    obtain ⟨rfl, r, S1, x, y, z, rest, rfl, rfl, hr, hz, hg⟩ := xs_i2 hD (by decide) h hs
    cases Option.some.inj hz
    exact lv_ior hx hb hdg (kk _ _ hl ⟨_, _, rfl, ⟨_, rfl, hg⟩, hr⟩)
  case ishl =>
    simp only [xv_pure] at h
    obtain ⟨rfl, r, S1, x, y, z, rest, rfl, rfl, hr, hz, hg⟩ := xs_i2 hD (by decide) h hs
    cases Option.some.inj hz
    exact lv_ishl hx hb hdg (kk _ _ hl ⟨_, _, rfl, ⟨_, rfl, hg⟩, hr⟩)
  case ishr =>
    simp only [xv_pure] at h
    obtain ⟨rfl, r, S1, x, y, z, rest, rfl, rfl, hr, hz, hg⟩ := xs_i2 hD (by decide) h hs
    cases Option.some.inj hz
    exact lv_ishr hx hb hdg (kk _ _ hl ⟨_, _, rfl, ⟨_, rfl, hg⟩, hr⟩)
  case iushr =>
    simp only [xv_pure] at h
    obtain ⟨rfl, r, S1, x, y, z, rest, rfl, rfl, hr, hz, hg⟩ := xs_i2 hD (by decide) h hs
    cases Option.some.inj hz
    exact lv_iushr hx hb hdg rfl (kk _ _ hl ⟨_, _, rfl, ⟨_, rfl, hg⟩, hr⟩)
  case idiv =>
    simp only [xv_pure] at h
    obtain ⟨rfl, r, S1, x, y, z, rest, rfl, rfl, hr, hz, hg⟩ := xs_i2 hD (by decide) h hs
    by_cases hy : y = 0
    · simp [xv_semI, hy] at hz
    · simp [xv_semI, hy] at hz
      subst hz
      exact lv_idiv hx hb hdg hy (kk _ _ hl ⟨_, _, rfl, ⟨_, rfl, hg⟩, hr⟩)
  case irem =>
    simp only [xv_pure] at h
    obtain ⟨rfl, r, S1, x, y, z, rest, rfl, rfl, hr, hz, hg⟩ := xs_i2 hD (by decide) h hs
    by_cases hy : y = 0
    · simp [xv_semI, hy] at hz
    · simp [xv_semI, hy] at hz
      subst hz
      exact lv_irem hx hb hdg hy (kk _ _ hl ⟨_, _, rfl, ⟨_, rfl, hg⟩, hr⟩)
  case ladd =>
    simp only [xv_pure] at h
    obtain ⟨rfl, r, S1, x, y, z, rest, rfl, rfl, hr, hz, hg⟩ := xs_l2 (o := 0) hD (by decide) h hs
    cases Option.some.inj hz
    exact lv_ladd hx hb hdg (kk _ _ hl ⟨_, _, rfl, ⟨_, rfl, hg⟩, hr⟩)
  case lsub =>
    simp only [xv_pure] at h
    obtain ⟨rfl, r, S1, x, y, z, rest, rfl, rfl, hr, hz, hg⟩ := xs_l2 (o := 1) hD (by decide) h hs
    cases Option.some.inj hz
    exact lv_lsub hx hb hdg (kk _ _ hl ⟨_, _, rfl, ⟨_, rfl, hg⟩, hr⟩)
  case lmul =>
    simp only [xv_pure] at h
    obtain ⟨rfl, r, S1, x, y, z, rest, rfl, rfl, hr, hz, hg⟩ := xs_l2 (o := 2) hD (by decide) h hs
    cases Option.some.inj hz
    exact lv_lmul hx hb hdg (kk _ _ hl ⟨_, _, rfl, ⟨_, rfl, hg⟩, hr⟩)
  case land =>
    simp only [xv_pure] at h
    obtain ⟨rfl, r, S1, x, y, z, rest, rfl, rfl, hr, hz, hg⟩ := xs_l2 (o := 3) hD (by decide) h hs
    cases Option.some.inj hz
    exact lv_land hx hb hdg (kk _ _ hl ⟨_, _, rfl, ⟨_, rfl, hg⟩, hr⟩)
  case lor =>
    simp only [xv_pure] at h
    obtain ⟨rfl, r, S1, x, y, z, rest, rfl, rfl, hr, hz, hg⟩ := xs_l2 (o := 4) hD (by decide) h hs
    cases Option.some.inj hz
    exact lv_lor hx hb hdg (kk _ _ hl ⟨_, _, rfl, ⟨_, rfl, hg⟩, hr⟩)
  case ldiv =>
    simp only [xv_pure] at h
    obtain ⟨rfl, r, S1, x, y, z, rest, rfl, rfl, hr, hz, hg⟩ := xs_l2 (o := 5) hD (by decide) h hs
    by_cases hy : y = 0
    · simp [xv_semL, hy] at hz
    · simp [xv_semL, hy] at hz
      subst hz
      exact lv_ldiv hx hb hdg hy (kk _ _ hl ⟨_, _, rfl, ⟨_, rfl, hg⟩, hr⟩)
  case lrem =>
    simp only [xv_pure] at h
    obtain ⟨rfl, r, S1, x, y, z, rest, rfl, rfl, hr, hz, hg⟩ := xs_l2 (o := 6) hD (by decide) h hs
    by_cases hy : y = 0
    · simp [xv_semL, hy] at hz
    · simp [xv_semL, hy] at hz
      subst hz
      exact lv_lrem hx hb hdg hy (kk _ _ hl ⟨_, _, rfl, ⟨_, rfl, hg⟩, hr⟩)
  case ineg =>
    simp only [xv_pure] at h
    split at h
    · rename_i a S1
      obtain ⟨_, r1, rfl, ⟨x, rfl, hx1⟩, hr⟩ := hs
      split at h
      · rename_i r hr2
        obtain ⟨rfl, rfl⟩ := by simpa using h
        obtain ⟨z, hz, hg⟩ := hD.2.2.1 10 a a r x x (by decide) hr2 hx1 hx1
        cases Option.some.inj hz
        exact lv_ineg hx hb hdg (kk _ _ hl ⟨_, _, rfl, ⟨_, rfl, hg⟩, hr⟩)
      · cases h
    · cases h
  case lneg =>
    simp only [xv_pure] at h
    split at h
    · rename_i a S1
      obtain ⟨_, r1, rfl, ⟨x, rfl, hx1⟩, hr⟩ := hs
      split at h
      · rename_i r hr2
        obtain ⟨rfl, rfl⟩ := by simpa using h
        obtain ⟨z, hz, hg⟩ := hD.2.2.2.1 7 a a r x x (by decide) hr2 hx1 hx1
        cases Option.some.inj hz
        exact lv_lneg hx hb hdg (kk _ _ hl ⟨_, _, rfl, ⟨_, rfl, hg⟩, hr⟩)
      · cases h
    · cases h
  case lshl =>
    simp only [xv_pure] at h
    obtain ⟨rfl, a, b, r, S1, x, y, rest, rfl, rfl, hr, hz, hga, hgb⟩ := xs_s2 h hs
    exact lv_lshl hx hb hdg rfl (kk _ _ hl ⟨_, _, rfl, ⟨_, rfl, hD.2.2.2.2.1 _ _ _ _ _ hz hga hgb⟩, hr⟩)
  case lshr =>
    simp only [xv_pure] at h
    obtain ⟨rfl, a, b, r, S1, x, y, rest, rfl, rfl, hr, hz, hga, hgb⟩ := xs_s2 h hs
    exact lv_lshr hx hb hdg rfl (kk _ _ hl ⟨_, _, rfl, ⟨_, rfl, hD.2.2.2.2.2.1 _ _ _ _ _ hz hga hgb⟩, hr⟩)
  case i2l =>
    simp only [xv_pure] at h
    split at h
    · rename_i a S1
      obtain ⟨_, r1, rfl, ⟨x, rfl, hx1⟩, hr⟩ := hs
      split at h
      · rename_i r hr2
        obtain ⟨rfl, rfl⟩ := by simpa using h
        exact lv_i2l hx hb hdg rfl (kk _ _ hl ⟨_, _, rfl, ⟨_, rfl, hD.2.2.2.2.2.2.1 _ _ _ _ hr2 hx1⟩, hr⟩)
      · cases h
    · cases h
  case l2i =>
    simp only [xv_pure] at h
    split at h
    · rename_i a S1
      obtain ⟨_, r1, rfl, ⟨x, rfl, hx1⟩, hr⟩ := hs
      split at h
      · rename_i r hr2
        obtain ⟨rfl, rfl⟩ := by simpa using h
        exact lv_l2i hx hb hdg rfl (kk _ _ hl ⟨_, _, rfl, ⟨_, rfl, hD.2.2.2.2.2.2.2.1 _ _ _ _ hr2 hx1⟩, hr⟩)
      · cases h
    · cases h
  case lcmp =>
    simp only [xv_pure] at h
    split at h
    · rename_i b a S1
      obtain ⟨_, r1, rfl, ⟨y, rfl, hy1⟩, _, r2, rfl, ⟨x, rfl, hx1⟩, hr⟩ := hs
      split at h
      · rename_i r hr2
        obtain ⟨rfl, rfl⟩ := by simpa using h
        exact W.lcmp hx hb hdg (kk _ _ hl ⟨_, _, rfl, ⟨_, rfl, hD.2.2.2.2.2.2.2.2.1 _ _ _ _ _ hr2 hx1 hy1⟩, hr⟩)
      · cases h
    · cases h
  case dup =>
    simp only [xv_pure] at h
    split at h
    · rename_i v S1
      obtain ⟨x, r1, rfl, hv, hr⟩ := hs
      cases hc : Nat.beq (xv_cat v) 1 <;> simp [hc] at h
      obtain ⟨rfl, rfl⟩ := h
      exact lv_dup hx hb hdg ((xr_v_cat hv).trans (Nat.eq_of_beq_eq_true hc)) (kk _ _ hl ⟨_, _, rfl, hv, _, _, rfl, hv, hr⟩)
    · cases h
  case pop =>
    simp only [xv_pure] at h
    split at h
    · rename_i v S1
      obtain ⟨x, r1, rfl, hv, hr⟩ := hs
      cases hc : Nat.beq (xv_cat v) 1 <;> simp [hc] at h
      obtain ⟨rfl, rfl⟩ := h
      exact lv_pop hx hb hdg ((xr_v_cat hv).trans (Nat.eq_of_beq_eq_true hc)) (kk _ _ hl hr)
    · cases h
  case dup2 =>
    simp only [xv_pure] at h
    split at h
    · rename_i v w S1
      obtain ⟨x, r1, rfl, hv, y, r2, rfl, hw, hr⟩ := hs
      cases hc : Nat.beq (xv_cat v) 1 <;> simp [hc] at h
      cases hd : Nat.beq (xv_cat w) 1 <;> simp [hd] at h
      obtain ⟨rfl, rfl⟩ := h
      exact lv_dup2_11 hx hb hdg ((xr_v_cat hv).trans (Nat.eq_of_beq_eq_true hc)) ((xr_v_cat hw).trans (Nat.eq_of_beq_eq_true hd)) (kk _ _ hl ⟨_, _, rfl, hv, _, _, rfl, hw, _, _, rfl, hv, _, _, rfl, hw, hr⟩)
    · cases h
end XSQ
end
section
/-- a switch: its length is its own -/
def xv_sw : Instr → Bool
  | .tableswitch _ _ _ _ => true
  | .lookupswitch _ _ => true
  | _ => false
theorem xs_tgt {pc t : Nat} {off : Int} (h : xv_tgt pc off = some t) : (pc : Int) + off = (t : Int) := by
  unfold xv_tgt at h
  split at h
  · rename_i k hk
    rw [hk]
    cases h
    rfl
  · cases h
section XSB
variable {p : Program} {l : Launch} {e : Env} {R : Room} {s : State} {m : MethodId} {args : Array Value} {below : List Frame} {meth : Method} {c : Code} {H : Heap} {locs : List Loc} {cells slots : Nat} {Q : State → Prop}
variable {cc : ByteArray} {pc : Nat} {V : Type} {D : xv_D V} {g : V → Value → Prop} {φ : List Nat} {S S' : List (xv_V V)} {ls : Array Slot} {st : List Value}
theorem xs_cmp2 (hD : xv_ok D g) {o t : Nat} {off : Int} (h : xv_cmp2 D o pc off S = some (t, S')) (hs : xr_s g φ S st) : ∃ (x y : Int32) (rest : List Value) (tgt : Nat), st = .int y :: .int x :: rest ∧ xr_s g φ S' rest ∧ (pc : Int) + off = (tgt : Int) ∧ ((xv_cmp o x y = true ∧ t = tgt) ∨ (xv_cmp o x y = false ∧ t = pc + 3)) := by
  unfold xv_cmp2 at h
  split at h
  · rename_i b a S1
    obtain ⟨_, r1, rfl, ⟨y, rfl, hy⟩, _, r2, rfl, ⟨x, rfl, hx⟩, hr⟩ := hs
    split at h
    · rename_i r t' hc ht
      have h1 := hD.2.2.2.2.2.2.2.2.2.1 _ _ _ _ _ _ hc hx hy
      cases r
      · obtain ⟨rfl, rfl⟩ := by simpa using h
        exact ⟨x, y, r2, t', rfl, hr, xs_tgt ht, Or.inr ⟨h1, rfl⟩⟩
      · obtain ⟨rfl, rfl⟩ := by simpa using h
        exact ⟨x, y, r2, _, rfl, hr, xs_tgt ht, Or.inl ⟨h1, rfl⟩⟩
    · cases h
  · cases h
theorem xs_cmp1 (hD : xv_ok D g) {o t : Nat} {off : Int} (h : xv_cmp1 D o pc off S = some (t, S')) (hs : xr_s g φ S st) : ∃ (x : Int32) (rest : List Value) (tgt : Nat), st = .int x :: rest ∧ xr_s g φ S' rest ∧ (pc : Int) + off = (tgt : Int) ∧ ((xv_cmp o x 0 = true ∧ t = tgt) ∨ (xv_cmp o x 0 = false ∧ t = pc + 3)) := by
  unfold xv_cmp1 at h
  split at h
  · rename_i a S1
    obtain ⟨_, r2, rfl, ⟨x, rfl, hx⟩, hr⟩ := hs
    split at h
    · rename_i r t' hc ht
      have h1 := hD.2.2.2.2.2.2.2.2.2.1 _ _ _ _ _ _ hc hx (hD.1 0)
      cases r
      · obtain ⟨rfl, rfl⟩ := by simpa using h
        exact ⟨x, r2, t', rfl, hr, xs_tgt ht, Or.inr ⟨h1, rfl⟩⟩
      · obtain ⟨rfl, rfl⟩ := by simpa using h
        exact ⟨x, r2, _, rfl, hr, xs_tgt ht, Or.inl ⟨h1, rfl⟩⟩
    · cases h
  · cases h

theorem xs_out (hD : xv_ok D g) {a : V} {lo hi : Int} {x : Int32} (h : xv_out D a lo hi = true) (hx : g a (.int x)) : x.toInt < lo ∨ hi < x.toInt := by
  unfold xv_out at h
  split at h
  · rename_i h1
    have e := of_decide_eq_true h
    have h2 := hD.2.2.2.2.2.2.2.2.2.1 _ _ _ _ _ _ h1 hx (hD.1 _)
    have h3 : x < Int32.ofInt lo := of_decide_eq_true h2
    rw [Int32.lt_iff_toInt_lt, e] at h3
    exact Or.inl h3
  · rename_i h1 hno
    have e := of_decide_eq_true h
    have h2 := hD.2.2.2.2.2.2.2.2.2.1 _ _ _ _ _ _ h1 hx (hD.1 _)
    have h3 : Int32.ofInt hi < x := of_decide_eq_true h2
    rw [Int32.lt_iff_toInt_lt, e] at h3
    exact Or.inr h3
  · cases h
set_option maxHeartbeats 4000000 in
/-- JUMPS -/
theorem xs_br (hx : p.tables.exec = Jvm.exec) (hb : c.code = cc) (hD : xv_ok D g) {i : Instr} {t len : Nat} (h : xv_br D pc S i = some (t, S')) (hdg : decode cc pc = .ok (i, len)) (hlen : xv_sw i = true ∨ len = xv_len i) (hs : xr_s g φ S st)
    (kk : ∀ st' : List Value, xr_s g φ S' st' → W p l e R s m args below meth c H locs cells slots Q (F0 m t ls st')) :
    W p l e R s m args below meth c H locs cells slots Q (F0 m pc ls st) := by
  cases i
  all_goals (first | (simp only [xv_br, reduceCtorEq] at h; done) | skip)
  case goto off =>
    obtain rfl : len = 3 := by simpa [xv_sw, xv_len] using hlen
    simp only [xv_br] at h
    split at h
    · rename_i t' ht
      obtain ⟨rfl, rfl⟩ := by simpa using h
      exact lv_goto hx hb hdg (xs_tgt ht) (kk _ hs)
    · cases h
  case if_icmp cd off =>
    obtain rfl : len = 3 := by simpa [xv_sw, xv_len] using hlen
    cases cd
    case eq =>
      simp only [xv_br] at h
      obtain ⟨x, y, rest, tgt, rfl, hr, ht, hc⟩ := xs_cmp2 hD h hs
      refine lv_icmp_eq hx hb hdg ht (fun q => ?_) (fun q => ?_)
      · rcases hc with ⟨hc, rfl⟩ | ⟨hc, rfl⟩
        · exact kk _ hr
        · exact absurd hc (by simp [xv_cmp, q])
      · rcases hc with ⟨hc, rfl⟩ | ⟨hc, rfl⟩
        · exact absurd hc (by simp [xv_cmp, q])
        · exact kk _ hr
    case ne =>
      simp only [xv_br] at h
      obtain ⟨x, y, rest, tgt, rfl, hr, ht, hc⟩ := xs_cmp2 hD h hs
      refine lv_icmp_ne hx hb hdg ht (fun q => ?_) (fun q => ?_)
      · rcases hc with ⟨hc, rfl⟩ | ⟨hc, rfl⟩
        · exact kk _ hr
        · exact absurd hc (by simp [xv_cmp, q])
      · rcases hc with ⟨hc, rfl⟩ | ⟨hc, rfl⟩
        · exact absurd hc (by simp [xv_cmp, q])
        · exact kk _ hr
    case lt =>
      simp only [xv_br] at h
      obtain ⟨x, y, rest, tgt, rfl, hr, ht, hc⟩ := xs_cmp2 hD h hs
      refine lv_icmp_lt hx hb hdg ht (fun q => ?_) (fun q => ?_)
      · rcases hc with ⟨hc, rfl⟩ | ⟨hc, rfl⟩
        · exact kk _ hr
        · exact absurd hc (by simp [xv_cmp, q])
      · rcases hc with ⟨hc, rfl⟩ | ⟨hc, rfl⟩
        · exact absurd hc (by simp [xv_cmp, q])
        · exact kk _ hr
    case ge =>
      simp only [xv_br] at h
      obtain ⟨x, y, rest, tgt, rfl, hr, ht, hc⟩ := xs_cmp2 hD h hs
      refine lv_icmp_ge hx hb hdg ht (fun q => ?_) (fun q => ?_)
      · rcases hc with ⟨hc, rfl⟩ | ⟨hc, rfl⟩
        · exact kk _ hr
        · exact absurd hc (by simp [xv_cmp, q])
      · rcases hc with ⟨hc, rfl⟩ | ⟨hc, rfl⟩
        · exact absurd hc (by simp [xv_cmp, q])
        · exact kk _ hr
    case gt =>
      simp only [xv_br] at h
      obtain ⟨x, y, rest, tgt, rfl, hr, ht, hc⟩ := xs_cmp2 hD h hs
      refine lv_icmp_gt hx hb hdg ht (fun q => ?_) (fun q => ?_)
      · rcases hc with ⟨hc, rfl⟩ | ⟨hc, rfl⟩
        · exact kk _ hr
        · exact absurd hc (by simp [xv_cmp, q])
      · rcases hc with ⟨hc, rfl⟩ | ⟨hc, rfl⟩
        · exact absurd hc (by simp [xv_cmp, q])
        · exact kk _ hr
    case le =>
      simp only [xv_br] at h
      obtain ⟨x, y, rest, tgt, rfl, hr, ht, hc⟩ := xs_cmp2 hD h hs
      refine lv_icmp_le hx hb hdg ht (fun q => ?_) (fun q => ?_)
      · rcases hc with ⟨hc, rfl⟩ | ⟨hc, rfl⟩
        · exact kk _ hr
        · exact absurd hc (by simp [xv_cmp, q])
      · rcases hc with ⟨hc, rfl⟩ | ⟨hc, rfl⟩
        · exact absurd hc (by simp [xv_cmp, q])
        · exact kk _ hr
  case ifCond cd off =>
    obtain rfl : len = 3 := by simpa [xv_sw, xv_len] using hlen
    cases cd
    case eq =>
      simp only [xv_br] at h
      obtain ⟨x, rest, tgt, rfl, hr, ht, hc⟩ := xs_cmp1 hD h hs
      refine lv_if_eq hx hb hdg ht (fun q => ?_) (fun q => ?_)
      · rcases hc with ⟨hc, rfl⟩ | ⟨hc, rfl⟩
        · exact kk _ hr
        · exact absurd hc (by simp [xv_cmp, q])
      · rcases hc with ⟨hc, rfl⟩ | ⟨hc, rfl⟩
        · exact absurd hc (by simp [xv_cmp, q])
        · exact kk _ hr
    case ne =>
      simp only [xv_br] at h
      obtain ⟨x, rest, tgt, rfl, hr, ht, hc⟩ := xs_cmp1 hD h hs
      refine lv_if_ne hx hb hdg ht (fun q => ?_) (fun q => ?_)
      · rcases hc with ⟨hc, rfl⟩ | ⟨hc, rfl⟩
        · exact kk _ hr
        · exact absurd hc (by simp [xv_cmp, q])
      · rcases hc with ⟨hc, rfl⟩ | ⟨hc, rfl⟩
        · exact absurd hc (by simp [xv_cmp, q])
        · exact kk _ hr
    case lt =>
      simp only [xv_br] at h
      obtain ⟨x, rest, tgt, rfl, hr, ht, hc⟩ := xs_cmp1 hD h hs
      refine lv_if_lt hx hb hdg ht (fun q => ?_) (fun q => ?_)
      · rcases hc with ⟨hc, rfl⟩ | ⟨hc, rfl⟩
        · exact kk _ hr
        · exact absurd hc (by simp [xv_cmp, q])
      · rcases hc with ⟨hc, rfl⟩ | ⟨hc, rfl⟩
        · exact absurd hc (by simp [xv_cmp, q])
        · exact kk _ hr
    case ge =>
      simp only [xv_br] at h
      obtain ⟨x, rest, tgt, rfl, hr, ht, hc⟩ := xs_cmp1 hD h hs
      refine lv_if_ge hx hb hdg ht (fun q => ?_) (fun q => ?_)
      · rcases hc with ⟨hc, rfl⟩ | ⟨hc, rfl⟩
        · exact kk _ hr
        · exact absurd hc (by simp [xv_cmp, q])
      · rcases hc with ⟨hc, rfl⟩ | ⟨hc, rfl⟩
        · exact absurd hc (by simp [xv_cmp, q])
        · exact kk _ hr
    case gt =>
      simp only [xv_br] at h
      obtain ⟨x, rest, tgt, rfl, hr, ht, hc⟩ := xs_cmp1 hD h hs
      refine lv_if_gt hx hb hdg ht (fun q => ?_) (fun q => ?_)
      · rcases hc with ⟨hc, rfl⟩ | ⟨hc, rfl⟩
        · exact kk _ hr
        · exact absurd hc (by simp [xv_cmp, q])
      · rcases hc with ⟨hc, rfl⟩ | ⟨hc, rfl⟩
        · exact absurd hc (by simp [xv_cmp, q])
        · exact kk _ hr
    case le =>
      simp only [xv_br] at h
      obtain ⟨x, rest, tgt, rfl, hr, ht, hc⟩ := xs_cmp1 hD h hs
      refine lv_if_le hx hb hdg ht (fun q => ?_) (fun q => ?_)
      · rcases hc with ⟨hc, rfl⟩ | ⟨hc, rfl⟩
        · exact kk _ hr
        · exact absurd hc (by simp [xv_cmp, q])
      · rcases hc with ⟨hc, rfl⟩ | ⟨hc, rfl⟩
        · exact absurd hc (by simp [xv_cmp, q])
        · exact kk _ hr
  case tableswitch dflt lo hi offs =>
    simp only [xv_br] at h
    split at h
    · rename_i a S1
      obtain ⟨_, r2, rfl, ⟨x, rfl, hx1⟩, hr⟩ := hs
      split at h
      · rename_i n hn
        have hxn := hD.2.2.2.2.2.2.2.2.2.2.1 _ _ _ hn hx1
        unfold xv_tab at h
        split at h
        · rename_i hout
          split at h
          · rename_i t' ht
            obtain ⟨rfl, rfl⟩ := by simpa using h
            exact lv_tableOut hx hb hdg (by rw [hxn]; exact hout) (xs_tgt ht) (kk _ hr)
          · cases h
        · rename_i hin
          split at h
          · rename_i off ho
            split at h
            · rename_i t' ht
              obtain ⟨rfl, rfl⟩ := by simpa using h
              exact lv_tableIn hx hb hdg (by rw [hxn]; exact fun q => hin (Or.inl q)) (by rw [hxn]; exact fun q => hin (Or.inr q)) (by rw [hxn]; exact ho) (xs_tgt ht) (kk _ hr)
            · cases h
          · cases h
      · cases hout : xv_out D a lo hi <;> simp only [hout, cond_true, cond_false] at h
        · cases h
        split at h
        · rename_i t' ht
          obtain ⟨rfl, rfl⟩ := by simpa using h
          exact lv_tableOut hx hb hdg (xs_out hD hout hx1) (xs_tgt ht) (kk _ hr)
        · cases h
    · cases h
  case lookupswitch dflt ps =>
    simp only [xv_br] at h
    split at h
    · rename_i a S1
      obtain ⟨_, r2, rfl, ⟨x, rfl, hx1⟩, hr⟩ := hs
      split at h
      · rename_i n hn
        have hxn := hD.2.2.2.2.2.2.2.2.2.2.1 _ _ _ hn hx1
        cases hp : (ps.toList.zip (ps.toList.drop 1)).all (fun q => decide (q.1.1 < q.2.1)) <;> simp only [hp, cond_true, cond_false] at h
        · cases h
        · split at h
          · rename_i t' ht
            obtain ⟨rfl, rfl⟩ := by simpa using h
            exact lv_lookup hx hb hdg hp (by rw [hxn]) (xs_tgt ht) (kk _ hr)
          · cases h
      · cases h
    · cases h
end XSB
end
section
/-- a type that a field here may have -/
def xv_tyok : FieldType → Bool
  | .int => true
  | .boolean => true
  | .long => true
  | .object _ => true
  | .array _ => true
  | _ => false
def xc_cls (tb : List Jvm.Cond) (cl : List vw_C) (ct : List (List (FieldType × Bool))) : Prop := ∀ (ci : Nat) (fs : List (FieldType × Bool)), ct[ci]? = some fs → ∃ (C : String) (T : u_T), cl[ci]? = some (C, T, fs.length) ∧ (∀ w ∈ u_ws C T fs.length, w ∈ tb) ∧
  (∀ (k : Nat) (f : FieldType × Bool), fs[k]? = some f → parseFieldDescriptor (T k).2.2.1 = some f.1 ∧ (T k).2.2.2 = f.2 ∧ (T k).1 = C ∧ xv_tyok f.1 = true) ∧ (∀ a, a < fs.length → ∀ b, b < fs.length → a ≠ b → (T a).2.1 ≠ (T b).2.1) ∧ Jvm.Cond.instantiable C fs.length ∈ tb ∧ Jvm.Cond.initialized C ∈ tb
def xc_fld (tb : List Jvm.Cond) (cl : List vw_C) (ct : List (List (FieldType × Bool))) (own : String) (K : xv_K) : Prop := ∀ (i : Nat) (ck : Nat × Nat), xv_find K.1 i = some ck → ∃ (fs : List (FieldType × Bool)) (f : FieldType × Bool) (C : String) (T : u_T), ct[ck.1]? = some fs ∧ fs[ck.2]? = some f ∧ cl[ck.1]? = some (C, T, fs.length) ∧ Jvm.Cond.fieldLink own i (T ck.2).1 (T ck.2).2.1 (T ck.2).2.2.1 ∈ tb
def xc_new (tb : List Jvm.Cond) (cl : List vw_C) (at_ : List Nat) (own : String) (K : xv_K) : Prop := ∀ (i ci : Nat), xv_find K.2.2.1 i = some ci →
  (ci < 1000 → ∃ (C : String) (T : u_T) (N : Nat), cl[ci]? = some (C, T, N) ∧ Jvm.Cond.classLink own i C ∈ tb) ∧ (1000 ≤ ci → ci < 1003 → ∃ (cj : Nat) (C : String) (T : u_T) (N : Nat), at_[ci - 1000]? = some cj ∧ cl[cj]? = some (C, T, N) ∧ Jvm.Cond.classLink own (i - 70000) C ∈ tb)
def xc_tys (cl : List vw_C) (at_ : List Nat) (tys : List (ClassId × FieldType)) : Prop := (∃ c0, tys[0]? = some (c0, .int)) ∧ (∃ c0, tys[1]? = some (c0, .long)) ∧ (∃ c0, tys[2]? = some (c0, .boolean)) ∧
  (∀ (n cj : Nat) (C : String) (T : u_T) (N : Nat), at_[n]? = some cj → cl[cj]? = some (C, T, N) → ∃ cA, tys[4 + n]? = some (cA, .object C)) ∧ ∀ (k : Nat) (q : ClassId × FieldType), 4 ≤ k → tys[k]? = some q → ∃ C, q.2 = .object C
def xc_ao (cl : List vw_C) (at_ : List Nat) (U : State) : Prop := ∀ (n cj : Nat) (C : String) (T : u_T) (N : Nat), at_[n]? = some cj → cl[cj]? = some (C, T, N) → va_AO C U
def xc_arr (tb : List Jvm.Cond) : Prop := Jvm.Cond.arrayClass .int ∈ tb ∧ Jvm.Cond.arrayClass .long ∈ tb ∧ Jvm.Cond.arrayClass .boolean ∈ tb
/-- a class by its number: all that is known of it -/
theorem xc_at {tb : List Jvm.Cond} {cl : List vw_C} {ct : List (List (FieldType × Bool))} (hC : xc_cls tb cl ct) {ci : Nat} {fs : List (FieldType × Bool)} {C : String} {T : u_T} {N : Nat} (h1 : ct[ci]? = some fs) (h2 : cl[ci]? = some (C, T, N)) : N = fs.length ∧ (∀ w ∈ u_ws C T N, w ∈ tb) ∧
    (∀ (k : Nat) (f : FieldType × Bool), fs[k]? = some f → parseFieldDescriptor (T k).2.2.1 = some f.1 ∧ (T k).2.2.2 = f.2 ∧ (T k).1 = C ∧ xv_tyok f.1 = true) ∧ (∀ a, a < N → ∀ b, b < N → a ≠ b → (T a).2.1 ≠ (T b).2.1) ∧ Jvm.Cond.instantiable C N ∈ tb ∧ Jvm.Cond.initialized C ∈ tb := by
  obtain ⟨C2, T2, hcl2, hu, hf, hn, hi, hj⟩ := hC ci fs h1
  have e2 : (C2, T2, fs.length) = (C, T, N) := Option.some.inj (hcl2.symm.trans h2)
  obtain ⟨rfl, e3⟩ := Prod.mk.inj e2
  obtain ⟨rfl, rfl⟩ := Prod.mk.inj e3
  exact ⟨rfl, hu, hf, hn, hi, hj⟩
section XSM
variable {V : Type} {C : Nat → xv_O V → Prop} {D : xv_D V} {g : V → Value → Prop} {φ : List Nat} {tys : List (ClassId × FieldType)} {M : xv_M V} {ws : va_W}
theorem xr_e_mono {t : List Nat} {o : xv_O V} {E : va_E} (h : xr_e g φ tys o E) : xr_e g (φ ++ t) tys o E := by
  rcases h with ⟨h8, fs, e, hl, h⟩ | ⟨cA, ty, ht, h | h | h⟩
  · exact Or.inl ⟨h8, fs, e, hl, fun j v hv => (h j v hv).imp fun x hx => ⟨hx.1, xr_v_mono hx.2⟩⟩
  · obtain ⟨h0, f, e, h⟩ := h
    exact Or.inr ⟨cA, ty, ht, Or.inl ⟨h0, f, e, fun j v hv => xr_v_mono (h j v hv)⟩⟩
  · obtain ⟨h0, f, e, h⟩ := h
    exact Or.inr ⟨cA, ty, ht, Or.inr (Or.inl ⟨h0, f, e, fun j v hv => xr_v_mono (h j v hv)⟩)⟩
  · obtain ⟨h0, f, e, h⟩ := h
    exact Or.inr ⟨cA, ty, ht, Or.inr (Or.inr ⟨h0, f, e, fun j v hv => xr_v_mono (h j v hv)⟩)⟩
/-- a place of a list is set -/
theorem xr_set {α : Type} {xs : List α} {k j : Nat} {v w : α} (h : (xs.set k v)[j]? = some w) : (j = k ∧ w = v) ∨ (j ≠ k ∧ xs[j]? = some w) := by
  rw [List.getElem?_set] at h
  split at h
  · rename_i e
    split at h
    · exact Or.inl ⟨e.symm, (Option.some.inj h).symm⟩
    · cases h
  · rename_i hne
    exact Or.inr ⟨fun q => hne q.symm, h⟩
theorem xr_e_tag {o : xv_O V} {E : va_E} (h : xr_e g φ tys o E) : o.1 ≠ 3 := by
  rcases h with ⟨h8, -⟩ | ⟨cA, ty, ht, h | h | h⟩
  · omega
  · obtain ⟨h0, -⟩ := h
    omega
  · obtain ⟨h0, -⟩ := h
    omega
  · obtain ⟨h0, -⟩ := h
    omega
theorem xr_m_len (h : xr_m C g φ tys M ws) : M.length = φ.length := by
  obtain ⟨pre, -, h2, -⟩ := h
  exact h2
theorem xr_m_cst (h : xr_m C g φ tys M ws) {k : Nat} {o : xv_O V} (hk : M[k]? = some o) (h3 : o.1 = 3) : C k o := by
  obtain ⟨pre, -, -, -, h4⟩ := h
  exact h4 k o hk h3
theorem xr_m_at (h : xr_m C g φ tys M ws) {k q : Nat} {o : xv_O V} (hk : M[k]? = some o) (hq : φ[k]? = some q) (h7 : o.1 ≠ 7) (h3 : o.1 ≠ 3) : ∃ (a : Nat) (E : va_E), ws[a]? = some (q, E) ∧ xr_e g φ tys o E ∧ ∀ (o' : xv_O V) (E' : va_E), xr_e g φ tys o' E' → xr_m C g φ tys (M.set k o') (ws.set a (q, E')) := by
  obtain ⟨pre, h1, h2, h4, h5⟩ := h
  obtain ⟨hle, q', E, e1, e2⟩ := h4 k o hk h7 h3
  have hqq : φ[k]? = some q' := by rw [← h1, List.getElem?_append_right hle, List.getElem?_map, e1]; rfl
  rw [hq] at hqq
  cases Option.some.inj hqq
  refine ⟨k - pre.length, E, e1, e2, fun o' E' he => ⟨pre, ?_, by rw [List.length_set]; exact h2, fun j o2 hj h72 h32 => ?_, fun j o2 hj h32 => ?_⟩⟩
  · rw [← h1]
    congr 1
    apply List.ext_getElem?
    intro j
    rw [List.getElem?_map, List.getElem?_map, List.getElem?_set]
    split
    · rename_i e
      subst e
      rw [if_pos (List.getElem?_eq_some_iff.mp e1).1, e1]
      rfl
    · rfl
  · rw [List.getElem?_set] at hj
    split at hj
    · rename_i e
      subst e
      rw [if_pos (List.getElem?_eq_some_iff.mp hk).1] at hj
      cases Option.some.inj hj
      exact ⟨hle, q, E', by rw [List.getElem?_set, if_pos rfl, if_pos (List.getElem?_eq_some_iff.mp e1).1], he⟩
    · rename_i hne
      obtain ⟨l1, q1, E1, f1, f2⟩ := h4 j o2 hj h72 h32
      exact ⟨l1, q1, E1, by rw [List.getElem?_set, if_neg (by omega)]; exact f1, f2⟩
  · rcases xr_set hj with ⟨rfl, rfl⟩ | ⟨hne, hj⟩
    · exact absurd h32 (xr_e_tag he)
    · exact h5 j o2 hj h32
theorem xr_m_push (h : xr_m C g φ tys M ws) {q : Nat} {o' : xv_O V} {E' : va_E} (he : xr_e g (φ ++ [q]) tys o' E') : xr_m C g (φ ++ [q]) tys (M ++ [o']) (ws ++ [(q, E')]) := by
  obtain ⟨pre, h1, h2, h4, h5⟩ := h
  have hl0 : φ.length = pre.length + ws.length := by rw [← h1, List.length_append, List.length_map]
  refine ⟨pre, by rw [List.map_append, ← List.append_assoc, h1]; rfl, by simp [h2], fun j o hj h7 h3 => ?_, fun j o hj h3 => ?_⟩
  · by_cases hl : j < M.length
    · rw [List.getElem?_append_left hl] at hj
      obtain ⟨l1, q', E1, e1, e2⟩ := h4 j o hj h7 h3
      exact ⟨l1, q', E1, by rw [List.getElem?_append_left (List.getElem?_eq_some_iff.mp e1).1]; exact e1, xr_e_mono e2⟩
    · rw [List.getElem?_append_right (by omega)] at hj
      have hz : j - M.length < 1 := (List.getElem?_eq_some_iff.mp hj).1
      have hj0 : j - M.length = 0 := by omega
      rw [hj0] at hj
      cases Option.some.inj hj
      have hj2 : j - pre.length - ws.length = 0 := by omega
      exact ⟨by omega, q, E', by rw [List.getElem?_append_right (by omega), hj2]; rfl, he⟩
  · by_cases hl : j < M.length
    · rw [List.getElem?_append_left hl] at hj
      exact h5 j o hj h3
    · rw [List.getElem?_append_right (by omega)] at hj
      have hz : j - M.length < 1 := (List.getElem?_eq_some_iff.mp hj).1
      have hj0 : j - M.length = 0 := by omega
      rw [hj0] at hj
      cases Option.some.inj hj
      exact absurd h3 (xr_e_tag he)
theorem xs_ix (hD : xv_ok D g) {a : V} {n k : Nat} {x : Int32} (h : xv_ix D a n = some k) (hg : g a (.int x)) : k < n ∧ vp_in x n ∧ x.toNatClampNeg = k ∧ ¬ x < 0 := by
  unfold xv_ix at h
  split at h
  · rename_i k' hk
    cases hb : Nat.blt k' n <;> simp [hb] at h
    subst h
    have hlt : k' < n := Nat.le_of_ble_eq_true hb
    have hx := hD.2.2.2.2.2.2.2.2.2.2.1 _ _ _ hk hg
    have hin : vp_in x n := vp_in_iff.mpr ⟨by rw [hx]; exact Int.natCast_nonneg k', by rw [hx]; exact Int.ofNat_lt.mpr hlt⟩
    exact ⟨hlt, hin, by show x.toInt.toNat = k'; rw [hx]; rfl, fun q => hin (Or.inl q)⟩
  · cases h
theorem xs_fit (hD : xv_ok D g) {ty : FieldType} : ∀ {v : xv_V V} {x : Value}, xv_fit D ty v = true → xr_v g φ v x → narrow ty x = x ∧ fits ty x = true := by
  intro v x h hv
  rcases v with a | a | (_ | k)
  · obtain ⟨n, rfl, hn⟩ := hv
    cases ty <;> first | (simp only [xv_fit, Bool.false_eq_true] at h; done) | exact ⟨rfl, rfl⟩ | skip
    rcases hD.2.2.2.2.2.2.2.2.2.2.2 a n h hn with rfl | rfl
    · exact ⟨rfl, rfl⟩
    · exact ⟨rfl, rfl⟩
  · obtain ⟨n, rfl, hn⟩ := hv
    cases ty <;> first | (simp only [xv_fit, Bool.false_eq_true] at h; done) | exact ⟨rfl, rfl⟩
  · obtain rfl : x = .null := hv
    cases ty <;> first | (simp only [xv_fit, Bool.false_eq_true] at h; done) | exact ⟨rfl, rfl⟩
  · obtain ⟨q, _, rfl⟩ := hv
    cases ty <;> first | (simp only [xv_fit, Bool.false_eq_true] at h; done) | exact ⟨rfl, rfl⟩
theorem xs_dflt (hD : xv_ok D g) (ty : FieldType) (h : xv_tyok ty = true) : xr_v g φ (xv_dflt D ty) (defaultValue ty) := by
  cases ty <;> first | (simp only [xv_tyok, Bool.false_eq_true] at h; done) | exact ⟨0, rfl, hD.1 0⟩ | exact ⟨0, rfl, hD.2.1 0⟩ | rfl
/-- the cell of an object -/
theorem xr_e_obj {o : xv_O V} {E : va_E} {ci : Nat} (h : xr_e g φ tys o E) (ho : o.1 = 8 + ci) : ∃ fs : List Value, E = .inr (ci, fs) ∧ fs.length = o.2.length ∧ ∀ (j : Nat) (v : xv_V V), o.2[j]? = some v → ∃ x : Value, fs[j]? = some x ∧ xr_v g φ v x := by
  rcases h with ⟨h8, fs, e, hl, h⟩ | ⟨cA, ty, ht, h | h | h⟩
  · exact ⟨fs, by rw [e, show o.1 - 8 = ci by omega], hl, h⟩
  · obtain ⟨h0, -⟩ := h
    omega
  · obtain ⟨h0, -⟩ := h
    omega
  · obtain ⟨h0, -⟩ := h
    omega
theorem xr_e_int {o : xv_O V} {E : va_E} (h : xr_e g φ tys o E) (ho : o.1 = 0 ∨ o.1 = 2) : ∃ (cA : ClassId) (ty : FieldType) (f : Nat → Int32), tys[o.1]? = some (cA, ty) ∧ E = .inl (cA, o.2.length, .inl f) ∧ ∀ (j : Nat) (v : xv_V V), o.2[j]? = some v → xr_v g φ v (.int (f j)) := by
  rcases h with ⟨h8, fs, e, hl, h⟩ | ⟨cA, ty, ht, h | h | h⟩
  · omega
  · obtain ⟨h0, f, e, h⟩ := h
    exact ⟨cA, ty, f, ht, e, h⟩
  · obtain ⟨h0, -⟩ := h
    omega
  · obtain ⟨h0, -⟩ := h
    omega
theorem xr_e_long {o : xv_O V} {E : va_E} (h : xr_e g φ tys o E) (ho : o.1 = 1) : ∃ (cA : ClassId) (ty : FieldType) (f : Nat → Int64), tys[o.1]? = some (cA, ty) ∧ E = .inl (cA, o.2.length, .inr (.inl f)) ∧ ∀ (j : Nat) (v : xv_V V), o.2[j]? = some v → xr_v g φ v (.long (f j)) := by
  rcases h with ⟨h8, fs, e, hl, h⟩ | ⟨cA, ty, ht, h | h | h⟩
  · omega
  · obtain ⟨h0, -⟩ := h
    omega
  · obtain ⟨h0, f, e, h⟩ := h
    exact ⟨cA, ty, f, ht, e, h⟩
  · obtain ⟨h0, -⟩ := h
    omega
theorem xr_e_ref {o : xv_O V} {E : va_E} (h : xr_e g φ tys o E) (ho : 4 ≤ o.1 ∧ o.1 < 7) : ∃ (cA : ClassId) (ty : FieldType) (f : Nat → Option Nat), tys[o.1]? = some (cA, ty) ∧ E = .inl (cA, o.2.length, .inr (.inr (.inr (.inr f)))) ∧ ∀ (j : Nat) (v : xv_V V), o.2[j]? = some v → xr_v g φ v (va_rf (f j)) := by
  rcases h with ⟨h8, fs, e, hl, h⟩ | ⟨cA, ty, ht, h | h | h⟩
  · omega
  · obtain ⟨h0, -⟩ := h
    omega
  · obtain ⟨h0, -⟩ := h
    omega
  · obtain ⟨h0, f, e, h⟩ := h
    exact ⟨cA, ty, f, ht, e, h⟩
theorem xs_rep {α : Type} {n j : Nat} {v w : α} (h : (List.replicate n v)[j]? = some w) : w = v := by
  have h2 := List.mem_of_getElem? h
  exact List.eq_of_mem_replicate h2
end XSM
end
section
section XSN
variable {p : Program} {l : Launch} {e : Env} {R : Room} {s : State} {m : MethodId} {args : Array Value} {below : List Frame} {meth : Method} {c : Code} {H : Heap} {locs : List Loc} {cells slots : Nat} {Q : State → Prop}
variable {cc : ByteArray} {pc : Nat} {V : Type} {C : Nat → xv_O V → Prop} {D : xv_D V} {g : V → Value → Prop} {φ : List Nat} {M M' : xv_M V} {S S' : List (xv_V V)} {ls : Array Slot} {st : List Value}
variable {Dg : va_G} {cl : List vw_C} {tys : List (ClassId × FieldType)} {A : Nat → Prop} {H0 : Heap} {ws : va_W} {dc ds : Nat}
theorem va_RA_one {U : State} {c1 c2 : ClassId} {ty : FieldType} (h1 : va_RA U c1 ty) (h2 : va_RA U c2 ty) : c1 = c2 := by
  cases ty with
  | object C =>
    obtain ⟨_, _, _, _, _, a⟩ := h1
    obtain ⟨_, _, _, _, _, b⟩ := h2
    exact Option.some.inj (a.symm.trans b)
  | _ => exact Option.some.inj (Eq.trans (Eq.symm h1) h2)
theorem xs_last {α : Type} (xs : List α) (x : α) : (xs ++ [x])[xs.length]? = some x := by simp
/-- loads out of arrays -/
theorem xs_ald (hD : xv_ok D g) {t0 t1 : Nat} (h6 : t1 < 3 ∨ (3 < t0 ∧ t1 < 7)) (h : xv_ald D M S t0 t1 = some (S', M', dc, ds)) (hs : xr_s g φ S st) (hm : xr_m C g φ tys M ws) : ∃ (a q k : Nat) (o : xv_O V) (E : va_E) (v : xv_V V) (S1 : List (xv_V V)) (x : Int32) (rest : List Value), S' = v :: S1 ∧ M' = M ∧ dc = 0 ∧ ds = 0 ∧ st = .int x :: .ref q :: rest ∧ xr_s g φ S1 rest ∧ (t0 ≤ o.1 ∧ o.1 ≤ t1) ∧ ws[a]? = some (q, E) ∧ xr_e g φ tys o E ∧ o.2[k]? = some v ∧ vp_in x o.2.length ∧ x.toNatClampNeg = k := by
  unfold xv_ald at h
  split at h
  · rename_i i a S1
    obtain ⟨_, r1, rfl, ⟨x, rfl, hx⟩, _, r2, rfl, ⟨q, hq, rfl⟩, hr⟩ := hs
    split at h
    · rename_i o ho
      cases hc : Nat.ble t0 o.1 <;> simp only [hc, Bool.true_and, Bool.false_and, cond_true, cond_false] at h
      · cases h
      cases hd : Nat.ble o.1 t1 <;> simp only [hd, cond_true, cond_false] at h
      · cases h
      split at h
      · rename_i k hk
        split at h
        · rename_i v hv
          obtain ⟨rfl, rfl, rfl, rfl⟩ := by simpa using h
          obtain ⟨b, E, hE, he, -⟩ := xr_m_at hm ho hq (by have := Nat.le_of_ble_eq_true hd; have := Nat.le_of_ble_eq_true hc; omega) (by have := Nat.le_of_ble_eq_true hd; have := Nat.le_of_ble_eq_true hc; omega)
          obtain ⟨-, hin, hcl, -⟩ := xs_ix hD hk hx
          exact ⟨b, q, k, o, E, v, S1, x, r2, rfl, rfl, rfl, rfl, rfl, hr, ⟨Nat.le_of_ble_eq_true hc, Nat.le_of_ble_eq_true hd⟩, hE, he, hv, hin, hcl⟩
        · cases h
      · cases h
    · cases h
  · cases h
/-- stores into arrays of numbers -/
theorem xs_ast (hD : xv_ok D g) {t : Nat} {ty : FieldType} (h6 : t < 3) (h : xv_ast D M S t ty = some (S', M', dc, ds)) (hs : xr_s g φ S st) (hm : xr_m C g φ tys M ws) : ∃ (a q k : Nat) (o : xv_O V) (E : va_E) (v : xv_V V) (y : Value) (x : Int32) (rest : List Value), (∀ E', xr_e g φ tys (o.1, o.2.set k v) E' → xr_m C g φ tys M' (ws.set a (q, E'))) ∧ dc = 0 ∧ ds = 0 ∧ st = y :: .int x :: .ref q :: rest ∧ xr_s g φ S' rest ∧ o.1 = t ∧ ws[a]? = some (q, E) ∧ xr_e g φ tys o E ∧ xv_fit D ty v = true ∧ xr_v g φ v y ∧ vp_in x o.2.length ∧ x.toNatClampNeg = k := by
  unfold xv_ast at h
  split at h
  · rename_i v i a S1
    obtain ⟨y, r0, rfl, hy, _, r1, rfl, ⟨x, rfl, hx⟩, _, r2, rfl, ⟨q, hq, rfl⟩, hr⟩ := hs
    split at h
    · rename_i o ho
      cases hc : Nat.beq o.1 t <;> simp only [hc, Bool.true_and, Bool.false_and, cond_true, cond_false] at h
      · cases h
      cases hd : xv_fit D ty v <;> simp only [hd, cond_true, cond_false] at h
      · cases h
      split at h
      · rename_i k hk
        obtain ⟨rfl, rfl, rfl, rfl⟩ := by simpa using h
        obtain ⟨b, E, hE, he, hset⟩ := xr_m_at hm ho hq (by have := Nat.eq_of_beq_eq_true hc; omega) (by have := Nat.eq_of_beq_eq_true hc; omega)
        obtain ⟨-, hin, hcl, -⟩ := xs_ix hD hk hx
        exact ⟨b, q, k, o, E, v, y, x, r2, fun E' => hset _ E', rfl, rfl, rfl, hr, Nat.eq_of_beq_eq_true hc, hE, he, hd, hy, hin, hcl⟩
      · cases h
    · cases h
  · cases h
theorem xs_newa (hD : xv_ok D g) {t : Nat} {v : xv_V V} (h : xv_newa D M S t v = some (S', M', dc, ds)) (hs : xr_s g φ S st) : ∃ (S1 : List (xv_V V)) (n : Int32) (rest : List Value), S' = .inr (.inr (some M.length)) :: S1 ∧ M' = M ++ [(t, List.replicate ds v)] ∧ dc = 1 ∧ ds < 4096 ∧ st = .int n :: rest ∧ xr_s g φ S1 rest ∧ ¬ n < 0 ∧ n.toNatClampNeg = ds := by
  unfold xv_newa at h
  split at h
  · rename_i a S1
    obtain ⟨_, r1, rfl, ⟨x, rfl, hx⟩, hr⟩ := hs
    split at h
    · rename_i k hk
      obtain ⟨rfl, rfl, rfl, rfl⟩ := by simpa using h
      obtain ⟨h1, -, h3, h4⟩ := xs_ix hD hk hx
      exact ⟨S1, x, r1, rfl, rfl, rfl, h1, rfl, hr, h4, h3⟩
    · cases h
  · cases h
end XSN
end
section
section XSO
variable {p : Program} {l : Launch} {e : Env} {R : Room} {s : State} {m : MethodId} {args : Array Value} {below : List Frame} {meth : Method} {c : Code} {H : Heap} {locs : List Loc} {cells slots : Nat} {Q : State → Prop}
variable {cc : ByteArray} {pc : Nat} {V : Type} {C : Nat → xv_O V → Prop} {D : xv_D V} {g : V → Value → Prop} {φ : List Nat} {M M' : xv_M V} {S S' : List (xv_V V)} {ls : Array Slot} {st : List Value}
variable {Dg : va_G} {cl : List vw_C} {tys : List (ClassId × FieldType)} {A : Nat → Prop} {H0 : Heap} {ws : va_W} {dc ds : Nat}
set_option maxHeartbeats 4000000 in
/-- THE INSTRUCTIONS OF THE MEMORY -/
theorem xs_mem (hx : p.tables.exec = Jvm.exec) (hb : c.code = cc) {own : String} (hown : s.vm.findClass own = some m.cls) {Ts tb : List Jvm.Cond} (hts : ∀ w ∈ Ts, w.before args s = true) (htb : ∀ w ∈ tb, w ∈ Ts) (hD : xv_ok D g) {K : xv_K} {ct : List (List (FieldType × Bool))} {at_ : List Nat} {wn ini : Nat}
    (hC : xc_cls tb cl ct) (hF : xc_fld tb cl ct own K) (hN : xc_new tb cl at_ own K) (hY : xc_tys cl at_ tys) (hO : xc_ao cl at_ s) (hR : xc_arr tb) (hin : ini = 1 → meth.name = "<init>") (hwn : ∀ (C : String) (T : u_T) (N : Nat), cl[wn]? = some (C, T, N) → C = own)
    (hK : va_K Dg cl tys s) (hA : ∀ q, H0.size ≤ q → A q)
    (hcst : ∀ (k q : Nat) (o : xv_O V), C k o → φ[k]? = some q → ∃ (L : Nat) (xs : Nat → Int32), va_X q L xs s H0 ∧ q < H0.size ∧ ¬ A q ∧ o.2.length = L ∧ ∀ (j : Nat) (v : xv_V V), o.2[j]? = some v → xr_v g φ v (.int (xs j))) {i : Instr} (h : xv_mem D ct at_ K wn ini M S i = some (S', M', dc, ds)) (hdg : decode cc pc = .ok (i, xv_len i))
    (hm : xr_m C g φ tys M ws) (hP : va_P Dg cl ws H) (hD0 : va_D A ws) (hS : va_S A H0 H locs) (hs : xr_s g φ S st) (hc1 : cells + dc ≤ R.cells) (hc2 : slots + ds ≤ R.slots)
    (kk : ∀ (t : List Nat) (ws' : va_W) (H' : Heap) (locs' : List Loc) (st' : List Value), xr_m C g (φ ++ t) tys M' ws' → va_P Dg cl ws' H' → va_D A ws' → va_S A H0 H' locs' → xr_s g (φ ++ t) S' st' → W p l e R s m args below meth c H' locs' (cells + dc) (slots + ds) Q (F0 m (pc + xv_len i) ls st')) :
    W p l e R s m args below meth c H locs cells slots Q (F0 m pc ls st) := by
  have hmlen : M.length = φ.length := xr_m_len hm
  have k0 : ∀ (ws' : va_W) (H' : Heap) (locs' : List Loc) (st' : List Value), xr_m C g φ tys M' ws' → va_P Dg cl ws' H' → va_D A ws' → va_S A H0 H' locs' → xr_s g φ S' st' → W p l e R s m args below meth c H' locs' (cells + dc) (slots + ds) Q (F0 m (pc + xv_len i) ls st') := fun ws' H' locs' st' a b c d f => by
    have q := kk [] ws' H' locs' st'
    rw [List.append_nil] at q
    exact q a b c d f
  cases i
  all_goals (first | (simp only [xv_mem, reduceCtorEq] at h; done) | skip)
  case getfield i =>
    simp only [xv_mem] at h
    split at h
    · rename_i ck hck
      split at h
      · rename_i a S1
        obtain ⟨_, r1, rfl, ⟨q, hq, rfl⟩, hr⟩ := hs
        split at h
        · rename_i o ho
          cases hc : Nat.beq o.1 (8 + ck.1) <;> simp only [hc, cond_true, cond_false] at h
          · cases h
          split at h
          · rename_i v hv
            obtain ⟨rfl, rfl, rfl, rfl⟩ := by simpa using h
            obtain ⟨b, E, hE, he, -⟩ := xr_m_at hm ho hq (by have := Nat.eq_of_beq_eq_true hc; omega) (by have := Nat.eq_of_beq_eq_true hc; omega)
            obtain ⟨fs, rfl, hl, hfs⟩ := xr_e_obj he (Nat.eq_of_beq_eq_true hc)
            obtain ⟨x, hx1, hx2⟩ := hfs _ _ hv
            obtain ⟨fd, f, C, T, hct, hf, hcl, hlink⟩ := hF i ck hck
            obtain ⟨-, hu, -⟩ := xc_at hC hct hcl
            exact va_get hx hb (ref := (T ck.2).1) hts (fun w hw => htb _ (hu w hw)) hown hK hP b hE hcl ck.2 (List.getElem?_eq_some_iff.mp hf).1 (hts _ (htb _ hlink)) (fun _ z => z) hx1 hdg (k0 _ _ _ _ hm hP hD0 hS ⟨_, _, rfl, hx2, hr⟩)
          · cases h
        · cases h
      · cases h
    · cases h
  case putfield i =>
    simp only [xv_mem] at h
    split at h
    · rename_i ck hck
      split at h
      · rename_i v a S1
        obtain ⟨y, r0, rfl, hy, _, r1, rfl, ⟨q, hq, rfl⟩, hr⟩ := hs
        split at h
        · rename_i o ho
          cases hc : Nat.beq o.1 (8 + ck.1) <;> simp only [hc, Bool.true_and, Bool.false_and, cond_true, cond_false] at h
          · cases h
          cases hlt : Nat.blt ck.2 o.2.length <;> simp only [hlt, cond_true, cond_false] at h
          · cases h
          split at h
          · rename_i fd hct
            split at h
            · rename_i f hf
              cases hfit : xv_fit D f.1 v <;> simp only [hfit, Bool.true_and, Bool.false_and, cond_true, cond_false] at h
              · cases h
              have ho8 := Nat.eq_of_beq_eq_true hc
              obtain ⟨b, E, hE, he, hset⟩ := xr_m_at hm ho hq (by omega) (by omega)
              obtain ⟨fs, rfl, hl, hfs⟩ := xr_e_obj he ho8
              obtain ⟨fd2, f2, C, T, hct2, hf2, hcl, hlink⟩ := hF i ck hck
              cases Option.some.inj (hct2.symm.trans hct)
              obtain ⟨-, hu, hfl, hnm, -, -⟩ := xc_at hC hct hcl
              obtain ⟨g1, g2, g3, g4⟩ := hfl _ _ hf
              obtain ⟨n1, n2⟩ := xs_fit hD hfit hy
              have hkN := (List.getElem?_eq_some_iff.mp hf).1
              have hklt : ck.2 < fs.length := by rw [hl]; exact Nat.le_of_ble_eq_true hlt
              have hty : ∀ k, k < fd.length → parseFieldDescriptor (T k).2.2.1 = some ((fun k => (fd.getD k (.int, false)).1) k) := fun k hk => by
                have e1 : fd[k]? = some (fd.getD k (.int, false)) := by simp [List.getD, hk]
                exact (hfl k _ e1).1
              have hnew : xr_e g φ tys (o.1, o.2.set ck.2 v) (.inr (ck.1, fs.set ck.2 y)) := by
                refine Or.inl ⟨by show 8 ≤ o.1; omega, _, by show _ = Sum.inr (o.1 - 8, _); rw [show o.1 - 8 = ck.1 by omega], by rw [List.length_set, List.length_set]; exact hl, fun j w hw => ?_⟩
                rcases xr_set hw with ⟨rfl, rfl⟩ | ⟨hne, hw⟩
                · exact ⟨y, by rw [List.getElem?_set, if_pos rfl, if_pos hklt], hy⟩
                · obtain ⟨x1, hx1, hx2⟩ := hfs _ _ hw
                  exact ⟨x1, by rw [List.getElem?_set, if_neg (fun z => hne z.symm)]; exact hx1, hx2⟩
              cases hfin : f.2
              · rw [hfin] at h
                obtain ⟨rfl, rfl, rfl, rfl⟩ := by simpa using h
                exact va_put hx hb (ref := (T ck.2).1) hts (fun w hw => htb _ (hu w hw)) _ hty hnm hown hK hP hD0 hS b hE hcl ck.2 hkN (hts _ (htb _ hlink)) (fun _ z => z) (g2.trans hfin) g1 n1 n2 hklt hdg (fun H1 locs1 hP1 hD1 hS1 => k0 _ _ _ _ (hset _ _ hnew) hP1 hD1 hS1 hr)
              · rw [hfin] at h
                cases hini : Nat.beq ini 1 <;> simp only [hini, Bool.not_true, Bool.false_or, Bool.true_and, Bool.false_and, cond_true, cond_false] at h
                · cases h
                cases hw1 : Nat.beq wn ck.1 <;> simp only [hw1, cond_true, cond_false] at h
                · cases h
                obtain ⟨rfl, rfl, rfl, rfl⟩ := by simpa using h
                have hdecl : (T ck.2).1 = own := g3.trans (hwn _ _ _ (by rw [Nat.eq_of_beq_eq_true hw1]; exact hcl))
                exact va_putF hx hb (ref := (T ck.2).1) hts (fun w hw => htb _ (hu w hw)) _ hty hnm hown hK hP hD0 hS b hE hcl ck.2 hkN (hts _ (htb _ hlink)) (fun _ z => z) (g2.trans hfin) (hin (Nat.eq_of_beq_eq_true hini)) hdecl g1 n1 n2 hklt hdg (fun H1 locs1 hP1 hD1 hS1 => k0 _ _ _ _ (hset _ _ hnew) hP1 hD1 hS1 hr)
            · cases h
          · cases h
        · cases h
      · cases h
    · cases h
  case new i =>
    simp only [xv_mem] at h
    split at h
    · rename_i ci hci
      split at h
      · rename_i fd hct
        cases hlt : Nat.blt ci 1000 <;> simp only [hlt, cond_true, cond_false] at h
        · cases h
        obtain ⟨rfl, rfl, rfl, rfl⟩ := by simpa using h
        obtain ⟨C, T, N, hcl, hlink⟩ := (hN i ci hci).1 (Nat.le_of_ble_eq_true hlt)
        obtain ⟨rfl, hu, hfl, -, hi1, hi2⟩ := xc_at hC hct hcl
        have hty : ∀ k, k < fd.length → parseFieldDescriptor (T k).2.2.1 = some ((fun k => (fd.getD k (.int, false)).1) k) := fun k hk => by
          have e1 : fd[k]? = some (fd.getD k (.int, false)) := by simp [List.getD, hk]
          exact (hfl k _ e1).1
        refine va_new (fs := fd.map (fun f => defaultValue f.1)) hx hb hts (fun w hw => htb _ (hu w hw)) _ hty hown (hts _ (htb _ hlink)) (hts _ (htb _ hi1)) (hts _ (htb _ hi2)) hK hP hD0 hS hA hcl (fun j hj => ?_) hc1 hc2 hdg (fun q H1 hP1 hD1 hS1 => ?_)
        · simp [vp_V, List.getD, hj]
        · refine kk [q] _ _ _ _ (xr_m_push hm ?_) hP1 hD1 hS1 ⟨_, _, rfl, ⟨q, by rw [hmlen]; exact xs_last φ q, rfl⟩, xr_s_mono hs⟩
          refine Or.inl ⟨by show 8 ≤ 8 + ci; omega, _, by show _ = Sum.inr (8 + ci - 8, _); rw [Nat.add_sub_cancel_left], by simp, fun j w hw => ?_⟩
          rw [List.getElem?_map] at hw
          cases hfj : fd[j]? with
          | none => rw [hfj] at hw; cases hw
          | some f =>
            rw [hfj] at hw
            cases Option.some.inj hw
            exact ⟨defaultValue f.1, by rw [List.getElem?_map, hfj]; rfl, xs_dflt hD _ (hfl _ _ hfj).2.2.2⟩
      · cases h
    · cases h
  case newarray at1 =>
    cases at1
    all_goals (first | (simp only [xv_mem, reduceCtorEq] at h; done) | skip)
    case int =>
      simp only [xv_mem] at h
      obtain ⟨S1, n, rest, rfl, rfl, rfl, hlt, rfl, hr, hn0, hn⟩ := xs_newa hD h hs
      obtain ⟨c0, ht0⟩ := hY.1
      refine va_newa (atype := .int) (a0 := (ds, .inl (fun _ => 0))) hx hb (hts _ (htb _ hR.1)) rfl hK hP hD0 hS hA (fun cA => rfl) hn0 hn (by show ds * 4 ≤ _; omega) hc1 hc2 hdg (fun q cA H1 hK1 hP1 hD1 hS1 => ?_)
      have e0 : cA = c0 := va_RA_one (hK1.2 tys.length _ (xs_last tys _)).2 (hK.2 0 _ ht0).2
      subst e0
      refine kk [q] _ _ _ _ (xr_m_push hm ?_) hP1 hD1 hS1 ⟨_, _, rfl, ⟨q, by rw [hmlen]; exact xs_last φ q, rfl⟩, xr_s_mono hr⟩
      refine Or.inr ⟨_, _, ht0, Or.inl ⟨Or.inl rfl, fun _ => 0, by show _ = Sum.inl (_, (List.replicate _ _).length, _); rw [List.length_replicate], fun j w hw => ?_⟩⟩
      cases xs_rep hw
      exact ⟨0, rfl, hD.1 0⟩
    case long =>
      simp only [xv_mem] at h
      obtain ⟨S1, n, rest, rfl, rfl, rfl, hlt, rfl, hr, hn0, hn⟩ := xs_newa hD h hs
      obtain ⟨c0, ht0⟩ := hY.2.1
      refine va_newa (atype := .long) (a0 := (ds, .inr (.inl (fun _ => 0)))) hx hb (hts _ (htb _ hR.2.1)) rfl hK hP hD0 hS hA (fun cA => rfl) hn0 hn (by show ds * 8 ≤ _; omega) hc1 hc2 hdg (fun q cA H1 hK1 hP1 hD1 hS1 => ?_)
      have e0 : cA = c0 := va_RA_one (hK1.2 tys.length _ (xs_last tys _)).2 (hK.2 1 _ ht0).2
      subst e0
      refine kk [q] _ _ _ _ (xr_m_push hm ?_) hP1 hD1 hS1 ⟨_, _, rfl, ⟨q, by rw [hmlen]; exact xs_last φ q, rfl⟩, xr_s_mono hr⟩
      refine Or.inr ⟨_, _, ht0, Or.inr (Or.inl ⟨rfl, fun _ => 0, by show _ = Sum.inl (_, (List.replicate _ _).length, _); rw [List.length_replicate], fun j w hw => ?_⟩)⟩
      cases xs_rep hw
      exact ⟨0, rfl, hD.2.1 0⟩
    case boolean =>
      simp only [xv_mem] at h
      obtain ⟨S1, n, rest, rfl, rfl, rfl, hlt, rfl, hr, hn0, hn⟩ := xs_newa hD h hs
      obtain ⟨c0, ht0⟩ := hY.2.2.1
      refine va_newa (atype := .boolean) (a0 := (ds, .inl (fun _ => 0))) hx hb (hts _ (htb _ hR.2.2)) rfl hK hP hD0 hS hA (fun cA => rfl) hn0 hn (by show ds * 1 ≤ _; omega) hc1 hc2 hdg (fun q cA H1 hK1 hP1 hD1 hS1 => ?_)
      have e0 : cA = c0 := va_RA_one (hK1.2 tys.length _ (xs_last tys _)).2 (hK.2 2 _ ht0).2
      subst e0
      refine kk [q] _ _ _ _ (xr_m_push hm ?_) hP1 hD1 hS1 ⟨_, _, rfl, ⟨q, by rw [hmlen]; exact xs_last φ q, rfl⟩, xr_s_mono hr⟩
      refine Or.inr ⟨_, _, ht0, Or.inl ⟨Or.inr rfl, fun _ => 0, by show _ = Sum.inl (_, (List.replicate _ _).length, _); rw [List.length_replicate], fun j w hw => ?_⟩⟩
      cases xs_rep hw
      exact ⟨0, rfl, hD.1 0⟩
  case anewarray i =>
    simp only [xv_mem] at h
    split at h
    · rename_i ci hci
      cases h1 : Nat.ble 1000 ci <;> simp only [h1, Bool.true_and, Bool.false_and, cond_true, cond_false] at h
      · cases h
      cases h2 : Nat.blt ci 1003 <;> simp only [h2, cond_true, cond_false] at h
      · cases h
      have g1 := Nat.le_of_ble_eq_true h1
      have g2 : ci < 1003 := Nat.le_of_ble_eq_true h2
      obtain ⟨S1, n, rest, rfl, rfl, rfl, hlt, rfl, hr, hn0, hn⟩ := xs_newa hD h hs
      obtain ⟨cj, C, T, N, hat, hcl, hlink⟩ := (hN _ ci hci).2 g1 g2
      rw [Nat.add_sub_cancel_left] at hlink
      obtain ⟨c0, ht0⟩ := hY.2.2.2.1 _ _ _ _ _ hat hcl
      rw [show 4 + (ci - 1000) = ci - 996 by omega] at ht0
      refine va_newq hx hb hown (hts _ (htb _ hlink)) (hO _ _ _ _ _ hat hcl) hK hP hD0 hS hA hn0 hn (by omega) hc1 hc2 hdg (fun q cA H1 hK1 hP1 hD1 hS1 => ?_)
      have e0 : cA = c0 := va_RA_one (hK1.2 tys.length _ (xs_last tys _)).2 (hK.2 _ _ ht0).2
      subst e0
      refine kk [q] _ _ _ _ (xr_m_push hm ?_) hP1 hD1 hS1 ⟨_, _, rfl, ⟨q, by rw [hmlen]; exact xs_last φ q, rfl⟩, xr_s_mono hr⟩
      refine Or.inr ⟨_, _, ht0, Or.inr (Or.inr ⟨⟨by show 4 ≤ ci - 996; omega, by show ci - 996 < 7; omega⟩, fun _ => none, by show _ = Sum.inl (_, (List.replicate _ _).length, _); rw [List.length_replicate], fun j w hw => ?_⟩)⟩
      cases xs_rep hw
      exact rfl
    · cases h
  case arraylength =>
    simp only [xv_mem] at h
    split at h
    · rename_i a S1
      obtain ⟨_, r1, rfl, ⟨q, hq, rfl⟩, hr⟩ := hs
      split at h
      · rename_i o ho
        cases h1 : Nat.blt o.1 7 <;> simp only [h1, Bool.true_and, Bool.false_and, cond_true, cond_false] at h
        · cases h
        cases h2 : Nat.ble o.2.length 4096 <;> simp only [h2, cond_true, cond_false] at h
        · cases h
        obtain ⟨rfl, rfl, rfl, rfl⟩ := by simpa using h
        have g1 : o.1 < 7 := Nat.le_of_ble_eq_true h1
        have hx0 : xr_v g φ (Sum.inl (D.1 (Int32.ofNat o.2.length))) (.int (Int32.ofNat o.2.length)) := ⟨_, rfl, hD.1 _⟩
        by_cases h33 : o.1 = 3
        · obtain ⟨L, xs, g1, g2, g3, g4, -⟩ := hcst _ _ _ (xr_m_cst hm ho h33) hq
          rw [g4] at hx0 k0
          exact va_slen hx hb g1 g2 g3 hS hdg (k0 _ _ _ _ hm hP hD0 hS ⟨_, _, rfl, hx0, hr⟩)
        obtain ⟨b, E, hE, he, -⟩ := xr_m_at hm ho hq (by omega) h33
        rcases he with ⟨h8, -⟩ | ⟨cA, ty, ht, he | he | he⟩
        · omega
        · obtain ⟨-, f, rfl, -⟩ := he
          exact va_alen hx hb hK hP b o.1 hE ht rfl hdg (k0 _ _ _ _ hm hP hD0 hS ⟨_, _, rfl, hx0, hr⟩)
        · obtain ⟨-, f, rfl, -⟩ := he
          exact va_alen hx hb hK hP b o.1 hE ht rfl hdg (k0 _ _ _ _ hm hP hD0 hS ⟨_, _, rfl, hx0, hr⟩)
        · obtain ⟨-, f, rfl, -⟩ := he
          exact va_alen hx hb hK hP b o.1 hE ht rfl hdg (k0 _ _ _ _ hm hP hD0 hS ⟨_, _, rfl, hx0, hr⟩)
      · cases h
    · cases h
  case iaload =>
    simp only [xv_mem] at h
    split at h
    rotate_left
    · unfold xv_ald at h
      split at h
      · rename_i i a S1
        obtain ⟨_, r1, rfl, ⟨x, rfl, hx1⟩, _, r2, rfl, ⟨q, hq, rfl⟩, hr⟩ := hs
        split at h
        · rename_i o ho
          cases hc : Nat.ble 3 o.1 <;> simp only [hc, Bool.true_and, Bool.false_and, cond_true, cond_false] at h
          · cases h
          cases hd : Nat.ble o.1 3 <;> simp only [hd, cond_true, cond_false] at h
          · cases h
          split at h
          · rename_i k hk
            split at h
            · rename_i v hv
              obtain ⟨rfl, rfl, rfl, rfl⟩ := by simpa using h
              have l1 := Nat.le_of_ble_eq_true hc
              have l2 := Nat.le_of_ble_eq_true hd
              obtain ⟨L, xs, g1, g2, g3, g4, g5⟩ := hcst _ _ _ (xr_m_cst hm ho (by omega)) hq
              obtain ⟨-, hin1, rfl, -⟩ := xs_ix hD hk hx1
              rw [g4] at hin1
              exact va_sld hx hb g1 g2 g3 hS hin1 hdg (k0 _ _ _ _ hm hP hD0 hS ⟨_, _, rfl, g5 _ _ hv, hr⟩)
            · cases h
          · cases h
        · cases h
      · cases h
    rename_i r0 h0
    cases Option.some.inj h
    have h := h0
    obtain ⟨a, q, k, o, E, v, S1, x, rest, rfl, rfl, rfl, rfl, rfl, hr, ho, hE, he, hv, hin1, rfl⟩ := xs_ald hD (by decide) h hs hm
    have ho0 : o.1 = 0 := by omega
    obtain ⟨cA, ty, f, ht, rfl, hf⟩ := xr_e_int he (Or.inl ho0)
    obtain ⟨c0, ht0⟩ := hY.1
    rw [ho0] at ht
    cases Option.some.inj (ht.symm.trans ht0)
    exact va_iald hx hb hK hP a 0 hE ht0 hin1 hdg (k0 _ _ _ _ hm hP hD0 hS ⟨_, _, rfl, hf _ _ hv, hr⟩)
  case baload =>
    simp only [xv_mem] at h
    obtain ⟨a, q, k, o, E, v, S1, x, rest, rfl, rfl, rfl, rfl, rfl, hr, ho, hE, he, hv, hin1, rfl⟩ := xs_ald hD (by decide) h hs hm
    have ho0 : o.1 = 2 := by omega
    obtain ⟨cA, ty, f, ht, rfl, hf⟩ := xr_e_int he (Or.inr ho0)
    obtain ⟨c0, ht0⟩ := hY.2.2.1
    rw [ho0] at ht
    cases Option.some.inj (ht.symm.trans ht0)
    exact va_zald hx hb hK hP a 2 hE ht0 hin1 hdg (k0 _ _ _ _ hm hP hD0 hS ⟨_, _, rfl, hf _ _ hv, hr⟩)
  case laload =>
    simp only [xv_mem] at h
    obtain ⟨a, q, k, o, E, v, S1, x, rest, rfl, rfl, rfl, rfl, rfl, hr, ho, hE, he, hv, hin1, rfl⟩ := xs_ald hD (by decide) h hs hm
    have ho0 : o.1 = 1 := by omega
    obtain ⟨cA, ty, f, ht, rfl, hf⟩ := xr_e_long he ho0
    obtain ⟨c0, ht0⟩ := hY.2.1
    rw [ho0] at ht
    cases Option.some.inj (ht.symm.trans ht0)
    exact va_lald hx hb hK hP a 1 hE ht0 hin1 hdg (k0 _ _ _ _ hm hP hD0 hS ⟨_, _, rfl, hf _ _ hv, hr⟩)
  case aaload =>
    simp only [xv_mem] at h
    obtain ⟨a, q, k, o, E, v, S1, x, rest, rfl, rfl, rfl, rfl, rfl, hr, ho, hE, he, hv, hin1, rfl⟩ := xs_ald hD (by decide) h hs hm
    obtain ⟨cA, ty, f, ht, rfl, hf⟩ := xr_e_ref he ⟨ho.1, by omega⟩
    obtain ⟨C, rfl⟩ : ∃ C, ty = .object C := hY.2.2.2.2 _ _ ho.1 ht
    exact va_aldq hx hb hK hP a _ hE ht hin1 hdg (k0 _ _ _ _ hm hP hD0 hS ⟨_, _, rfl, hf _ _ hv, hr⟩)
  case iastore =>
    simp only [xv_mem] at h
    obtain ⟨a, q, k, o, E, v, y, x, rest, hset, rfl, rfl, rfl, hr, ho0, hE, he, hfit, hy, hin1, rfl⟩ := xs_ast hD (by decide) h hs hm
    obtain ⟨cA, ty, f, ht, rfl, hf⟩ := xr_e_int he (Or.inl ho0)
    obtain ⟨c0, ht0⟩ := hY.1
    rw [ho0] at ht
    cases Option.some.inj (ht.symm.trans ht0)
    rcases v with va | va | (_ | va) <;> first | (simp only [xv_fit, Bool.false_eq_true] at hfit; done) | skip
    obtain ⟨n, rfl, hn⟩ := hy
    refine va_iast hx hb hK hP hD0 hS a 0 hE ht0 hin1 hdg (fun H1 locs1 hP1 hD1 hS1 => k0 _ _ _ _ (hset _ ?_) hP1 hD1 hS1 hr)
    refine Or.inr ⟨_, _, by show tys[o.1]? = _; rw [ho0]; exact ht0, Or.inl ⟨Or.inl ho0, _, by show _ = Sum.inl (_, (List.set _ _ _).length, _); rw [List.length_set], fun j w hw => ?_⟩⟩
    rcases xr_set hw with ⟨rfl, rfl⟩ | ⟨hne, hw⟩
    · exact ⟨n, by rw [pk_us], hn⟩
    · rw [pk_un hne]
      exact hf _ _ hw
  case bastore =>
    simp only [xv_mem] at h
    obtain ⟨a, q, k, o, E, v, y, x, rest, hset, rfl, rfl, rfl, hr, ho0, hE, he, hfit, hy, hin1, rfl⟩ := xs_ast hD (by decide) h hs hm
    obtain ⟨cA, ty, f, ht, rfl, hf⟩ := xr_e_int he (Or.inr ho0)
    obtain ⟨c0, ht0⟩ := hY.2.2.1
    rw [ho0] at ht
    cases Option.some.inj (ht.symm.trans ht0)
    rcases v with va | va | (_ | va) <;> first | (simp only [xv_fit, Bool.false_eq_true] at hfit; done) | skip
    obtain ⟨n, rfl, hn⟩ := hy
    have hnar : vp_nar .boolean n = n := by
      rcases hD.2.2.2.2.2.2.2.2.2.2.2 va n hfit hn with rfl | rfl
      · rfl
      · rfl
    refine va_zast hx hb hK hP hD0 hS a 2 hE ht0 hin1 hdg (fun H1 locs1 hP1 hD1 hS1 => k0 _ _ _ _ (hset _ ?_) hP1 hD1 hS1 hr)
    refine Or.inr ⟨_, _, by show tys[o.1]? = _; rw [ho0]; exact ht0, Or.inl ⟨Or.inr ho0, _, by show _ = Sum.inl (_, (List.set _ _ _).length, _); rw [List.length_set], fun j w hw => ?_⟩⟩
    rcases xr_set hw with ⟨rfl, rfl⟩ | ⟨hne, hw⟩
    · exact ⟨n, by rw [pk_us, hnar], hn⟩
    · rw [pk_un hne]
      exact hf _ _ hw
  case lastore =>
    simp only [xv_mem] at h
    obtain ⟨a, q, k, o, E, v, y, x, rest, hset, rfl, rfl, rfl, hr, ho0, hE, he, hfit, hy, hin1, rfl⟩ := xs_ast hD (by decide) h hs hm
    obtain ⟨cA, ty, f, ht, rfl, hf⟩ := xr_e_long he ho0
    obtain ⟨c0, ht0⟩ := hY.2.1
    rw [ho0] at ht
    cases Option.some.inj (ht.symm.trans ht0)
    rcases v with va | va | (_ | va) <;> first | (simp only [xv_fit, Bool.false_eq_true] at hfit; done) | skip
    obtain ⟨n, rfl, hn⟩ := hy
    refine va_last hx hb hK hP hD0 hS a 1 hE ht0 hin1 hdg (fun H1 locs1 hP1 hD1 hS1 => k0 _ _ _ _ (hset _ ?_) hP1 hD1 hS1 hr)
    refine Or.inr ⟨_, _, by show tys[o.1]? = _; rw [ho0]; exact ht0, Or.inr (Or.inl ⟨ho0, _, by show _ = Sum.inl (_, (List.set _ _ _).length, _); rw [List.length_set], fun j w hw => ?_⟩)⟩
    rcases xr_set hw with ⟨rfl, rfl⟩ | ⟨hne, hw⟩
    · exact ⟨n, by rw [pk_uLs], hn⟩
    · rw [pk_uLn hne]
      exact hf _ _ hw
  case aastore =>
    simp only [xv_mem] at h
    split at h
    · rename_i v i a S1
      obtain ⟨_, r0, rfl, ⟨qv, hqv, rfl⟩, _, r1, rfl, ⟨x, rfl, hx1⟩, _, r2, rfl, ⟨q, hq, rfl⟩, hr⟩ := hs
      split at h
      · rename_i o ov ho hov
        split at h
        · rename_i ci hat
          cases h1 : Nat.ble 4 o.1 <;> simp only [h1, Bool.true_and, Bool.false_and, cond_true, cond_false] at h
          · cases h
          cases h2 : Nat.blt o.1 7 <;> simp only [h2, Bool.true_and, Bool.false_and, cond_true, cond_false] at h
          · cases h
          cases h3 : Nat.beq ov.1 (8 + ci) <;> simp only [h3, cond_true, cond_false] at h
          · cases h
          split at h
          · rename_i k hk
            obtain ⟨rfl, rfl, rfl, rfl⟩ := by simpa using h
            have g1 := Nat.le_of_ble_eq_true h1
            have g2 : o.1 < 7 := Nat.le_of_ble_eq_true h2
            obtain ⟨b, E, hE, he, hset⟩ := xr_m_at hm ho hq (by omega) (by omega)
            obtain ⟨bv, Ev, hEv, hev, -⟩ := xr_m_at hm hov hqv (by have := Nat.eq_of_beq_eq_true h3; omega) (by have := Nat.eq_of_beq_eq_true h3; omega)
            obtain ⟨fs, rfl, -⟩ := xr_e_obj hev (Nat.eq_of_beq_eq_true h3)
            obtain ⟨cA, ty, f, ht, rfl, hf⟩ := xr_e_ref he ⟨g1, g2⟩
            obtain ⟨-, hin1, rfl, -⟩ := xs_ix hD hk hx1
            obtain ⟨r, hr1, -⟩ := hP bv _ hEv
            obtain ⟨C, T, N⟩ := r
            obtain ⟨c0, ht0⟩ := hY.2.2.2.1 _ _ _ _ _ hat hr1
            rw [show 4 + (o.1 - 4) = o.1 by omega] at ht0
            cases Option.some.inj (ht.symm.trans ht0)
            refine va_astq hx hb hK hP hD0 hS b o.1 bv ci hE ht0 hEv hr1 hin1 hdg (fun H1 locs1 hP1 hD1 hS1 => k0 _ _ _ _ (hset _ _ ?_) hP1 hD1 hS1 hr)
            refine Or.inr ⟨_, _, ht0, Or.inr (Or.inr ⟨⟨g1, g2⟩, _, by show _ = Sum.inl (_, (List.set _ _ _).length, _); rw [List.length_set], fun j w hw => ?_⟩)⟩
            rcases xr_set hw with ⟨rfl, rfl⟩ | ⟨hne, hw⟩
            · exact ⟨qv, hqv, by simp [va_up, va_rf]⟩
            · have := hf _ _ hw
              simpa [va_up, hne] using this
          · cases h
        · cases h
      · cases h
    · cases h
end XSO
end
section
section XSR
variable {V : Type} {D : xv_D V} {g : V → Value → Prop} {φ : List Nat} {tys : List (ClassId × FieldType)}
theorem xr_s_len : ∀ {S : List (xv_V V)} {st : List Value}, xr_s g φ S st → st.length = S.length
  | [], _, h => by rw [show _ = ([] : List Value) from h]; rfl
  | _ :: _, _, ⟨_, _, e, _, k⟩ => by rw [e, List.length_cons, List.length_cons, xr_s_len k]
theorem xr_s_app : ∀ {S S2 : List (xv_V V)} {st st2 : List Value}, xr_s g φ S st → xr_s g φ S2 st2 → xr_s g φ (S ++ S2) (st ++ st2)
  | [], _, _, _, h, h2 => by rw [show _ = ([] : List Value) from h]; exact h2
  | _ :: _, _, _, _, ⟨x, r, e, hv, k⟩, h2 => by rw [e]; exact ⟨x, r ++ _, rfl, hv, xr_s_app k h2⟩
theorem xr_s_take : ∀ {S : List (xv_V V)} {st : List Value} (n : Nat), xr_s g φ S st → xr_s g φ (S.take n) (st.take n)
  | _, _, 0, _ => by rw [List.take_zero, List.take_zero]; exact rfl
  | [], _, n + 1, h => by rw [show _ = ([] : List Value) from h]; exact rfl
  | _ :: _, _, n + 1, ⟨x, r, e, hv, k⟩ => by rw [e, List.take_succ_cons, List.take_succ_cons]; exact ⟨x, _, rfl, hv, xr_s_take n k⟩
theorem xr_s_drop : ∀ {S : List (xv_V V)} {st : List Value} (n : Nat), xr_s g φ S st → xr_s g φ (S.drop n) (st.drop n)
  | _, _, 0, h => by rw [List.drop_zero, List.drop_zero]; exact h
  | [], _, n + 1, h => by rw [show _ = ([] : List Value) from h]; exact rfl
  | _ :: _, _, n + 1, ⟨x, r, e, hv, k⟩ => by rw [e, List.drop_succ_cons, List.drop_succ_cons]; exact xr_s_drop n k
theorem xr_s_rev : ∀ {S : List (xv_V V)} {st : List Value}, xr_s g φ S st → xr_s g φ S.reverse st.reverse
  | [], _, h => by rw [show _ = ([] : List Value) from h]; exact rfl
  | _ :: _, _, ⟨x, r, e, hv, k⟩ => by
    rw [e, List.reverse_cons, List.reverse_cons]
    exact xr_s_app (xr_s_rev k) ⟨x, [], rfl, hv, rfl⟩
theorem xr_s_sl : ∀ {S : List (xv_V V)} {st : List Value}, xr_s g φ S st → (lg_sl st).length = xv_cats S
  | [], _, h => by rw [show _ = ([] : List Value) from h]; rfl
  | v :: _, _, ⟨x, r, e, hv, k⟩ => by
    have hc := xr_v_cat hv
    have ih := xr_s_sl k
    rw [e]
    have h2 : lg_sl (x :: r) = (if x.category = 2 then [.val x, .second] else [.val x]) ++ lg_sl r := by simp [lg_sl]
    rw [h2, List.length_append, ih]
    show _ = xv_cat v + _
    rcases lv_cat x with q | q
    · rw [if_neg (by rw [q]; decide), ← hc, q]; rfl
    · rw [if_pos q, ← hc, q]; rfl
theorem xv_in_len : ∀ (as : List (xv_V V)) (n : Nat), xv_cats as ≤ n → (xv_in as n).length = n
  | [], n, _ => by simp [xv_in]
  | .inr (.inl a) :: r, n, h => by
    have h1 : 2 + xv_cats r ≤ n := h
    simp only [xv_in, List.length_cons]
    rw [xv_in_len r (n - 2) (by omega)]
    omega
  | .inl a :: r, n, h => by
    have h1 : 1 + xv_cats r ≤ n := h
    simp only [xv_in, List.length_cons]
    rw [xv_in_len r (n - 1) (by omega)]
    omega
  | .inr (.inr a) :: r, n, h => by
    have h1 : 1 + xv_cats r ≤ n := h
    simp only [xv_in, List.length_cons]
    rw [xv_in_len r (n - 1) (by omega)]
    omega
theorem xv_in_at : ∀ {as : List (xv_V V)} {vs : List Value} (k n i : Nat) {v : xv_V V}, xr_s g φ as vs → (xv_in as n)[i]? = some (some v) → ∃ x : Value, (k + i, x) ∈ lv_args k vs ∧ xr_v g φ v x
  | [], _, k, n, i, v, _, h => by
    simp only [xv_in] at h
    have := List.eq_of_mem_replicate (List.mem_of_getElem? h)
    cases this
  | .inr (.inl a) :: r, _, k, n, i, v, ⟨x, vr, e, hv, hr⟩, h => by
    have hc : x.category = 2 := xr_v_cat hv
    rw [e]
    simp only [lv_args, hc, if_true]
    simp only [xv_in] at h
    match i, h with
    | 0, h =>
      cases Option.some.inj (Option.some.inj h)
      exact ⟨x, List.mem_cons_self, hv⟩
    | 1, h => simp at h
    | j + 2, h =>
      obtain ⟨y, hy, hyv⟩ := xv_in_at (k + 2) (n - 2) j hr (by simpa using h)
      exact ⟨y, List.mem_cons_of_mem _ (by rw [show k + (j + 2) = k + 2 + j by omega]; exact hy), hyv⟩
  | .inl a :: r, _, k, n, i, v, ⟨x, vr, e, hv, hr⟩, h => by
    have hc : x.category = 1 := xr_v_cat hv
    rw [e]
    simp only [lv_args, hc]
    simp only [xv_in] at h
    match i, h with
    | 0, h =>
      cases Option.some.inj (Option.some.inj h)
      exact ⟨x, List.mem_cons_self, hv⟩
    | j + 1, h =>
      obtain ⟨y, hy, hyv⟩ := xv_in_at (k + 1) (n - 1) j hr (by simpa using h)
      exact ⟨y, List.mem_cons_of_mem _ (by rw [show k + (j + 1) = k + 1 + j by omega]; exact hy), hyv⟩
  | .inr (.inr a) :: r, _, k, n, i, v, ⟨x, vr, e, hv, hr⟩, h => by
    have hc : x.category = 1 := xr_v_cat hv
    rw [e]
    simp only [lv_args, hc]
    simp only [xv_in] at h
    match i, h with
    | 0, h =>
      cases Option.some.inj (Option.some.inj h)
      exact ⟨x, List.mem_cons_self, hv⟩
    | j + 1, h =>
      obtain ⟨y, hy, hyv⟩ := xv_in_at (k + 1) (n - 1) j hr (by simpa using h)
      exact ⟨y, List.mem_cons_of_mem _ (by rw [show k + (j + 1) = k + 1 + j by omega]; exact hy), hyv⟩
/-- what a copy lays -/
theorem xs_cpy {f h : Nat → Int32} {xa xb : List (xv_V V)} {sp dp n j : Nat} {v : xv_V V} (ha : ∀ (j : Nat) (v : xv_V V), xa[j]? = some v → xr_v g φ v (.int (f j))) (hb : ∀ (j : Nat) (v : xv_V V), xb[j]? = some v → xr_v g φ v (.int (h j))) (h1 : sp + n ≤ xa.length) (h2 : dp + n ≤ xb.length)
    (hv : (xb.take dp ++ ((xa.drop sp).take n ++ xb.drop (dp + n)))[j]? = some v) : xr_v g φ v (.int (va_cpy f h sp dp n j)) := by
  unfold va_cpy
  have l1 : (xb.take dp).length = dp := by rw [List.length_take]; omega
  have l2 : ((xa.drop sp).take n).length = n := by rw [List.length_take, List.length_drop]; omega
  by_cases q1 : j < dp
  · rw [List.getElem?_append_left (by omega), List.getElem?_take, if_pos q1] at hv
    rw [if_neg (by omega)]
    exact hb _ _ hv
  · rw [List.getElem?_append_right (by omega), l1] at hv
    by_cases q2 : j < dp + n
    · rw [List.getElem?_append_left (by omega), List.getElem?_take, if_pos (by omega), List.getElem?_drop] at hv
      rw [if_pos ⟨by omega, q2⟩]
      exact ha _ _ hv
    · rw [List.getElem?_append_right (by omega), l2, List.getElem?_drop] at hv
      rw [if_neg (by omega)]
      rw [show dp + n + (j - dp - n) = j by omega] at hv
      exact hb _ _ hv
end XSR
section XST
variable {p : Program} {l : Launch} {e : Env} {R : Room} {s : State} {m : MethodId} {args : Array Value} {below : List Frame} {meth : Method} {c : Code} {H : Heap} {locs : List Loc} {cells slots : Nat} {Q : State → Prop}
variable {cc : ByteArray} {pc : Nat} {V : Type} {C : Nat → xv_O V → Prop} {D : xv_D V} {g : V → Value → Prop} {φ : List Nat} {M M' : xv_M V} {S S' : List (xv_V V)} {ls : Array Slot} {st : List Value}
variable {Dg : va_G} {cl : List vw_C} {tys : List (ClassId × FieldType)} {A : Nat → Prop} {H0 : Heap} {ws : va_W}
set_option maxHeartbeats 4000000 in
/-- CALLS THAT ARE NO WALK -/
theorem xs_nat (hx : p.tables.exec = Jvm.exec) (hb : c.code = cc) (hml : c.maxLocals = ls.size) {own : String} (hown : s.vm.findClass own = some m.cls) (hD : xv_ok D g) {K : xv_K} {at_ : List Nat} (hY : xc_tys cl at_ tys)
    (h5 : ∀ i j : Nat, xv_find K.2.1 i = some (5, j) → (Jvm.Cond.methodLink own i Lib.objectInit).before args s = true) (h5i : (Jvm.Cond.instanceMethod Lib.objectInit).before args s = true) (h5c : (Jvm.Cond.code Lib.objectInit ⟨#[0xb1]⟩ 1 none).before args s = true)
    (h6 : ∀ i j : Nat, xv_find K.2.1 i = some (6, j) → (Jvm.Cond.methodLink own i arraycopyName).before args s = true) (h6n : (Jvm.Cond.native arraycopyName).before args s = true) (h6s : (Jvm.Cond.static arraycopyName).before args s = true) (h6i : (Jvm.Cond.initialized "java/lang/System").before args s = true)
    {sct : List (List Int32)}
    (hch : ∀ (i j n k : Nat) (cs : List Int32) (b x : Int32) (q : Nat) (rest : List Value), xv_find K.2.1 i = some (4, j) → sct[n]? = some cs → cs[k]? = some b → x.toNatClampNeg = k → ¬ x < 0 → φ[n]? = some q → (rest.map fun v => v.category).sum ≤ 8 → decode cc pc = .ok (.invokevirtual i, 3) → W p l e R s m args below meth c H locs cells slots Q (F0 m (pc + 3) ls (.int (b &&& 255) :: rest)) → W p l e R s m args below meth c H locs cells slots Q (F0 m pc ls (.int x :: .ref q :: rest)))
    (hRf : 1 ≤ R.frames) (hRl : 44 ≤ R.locals) (hK : va_K Dg cl tys s) {i : Instr} (h : xv_nat D sct K M S i = some (S', M')) (hdg : decode cc pc = .ok (i, xv_len i))
    (hm : xr_m C g φ tys M ws) (hP : va_P Dg cl ws H) (hD0 : va_D A ws) (hS : va_S A H0 H locs) (hs : xr_s g φ S st)
    (kk : ∀ (ws' : va_W) (H' : Heap) (locs' : List Loc) (st' : List Value), xr_m C g φ tys M' ws' → va_P Dg cl ws' H' → va_D A ws' → va_S A H0 H' locs' → xr_s g φ S' st' → W p l e R s m args below meth c H' locs' cells slots Q (F0 m (pc + 3) ls st')) :
    W p l e R s m args below meth c H locs cells slots Q (F0 m pc ls st) := by
  cases i
  all_goals (first | (simp only [xv_nat, reduceCtorEq] at h; done) | skip)
  case invokespecial i =>
    simp only [xv_nat] at h
    split at h
    · rename_i j hj
      split at h
      · rename_i a S1
        obtain ⟨_, r1, rfl, ⟨q, hq, rfl⟩, hr⟩ := hs
        cases hc : Nat.ble (xv_cats S1) 8 <;> simp only [hc, cond_true, cond_false] at h
        · cases h
        obtain ⟨rfl, rfl⟩ := by simpa using h
        have hcat := xr_s_cats hr
        have h8 := Nat.le_of_ble_eq_true hc
        refine W.objInit hx hb hown (h5 _ _ hj) h5i h5c rfl hml.symm rfl hdg hRf ?_ (kk _ _ _ _ hm hP hD0 hS hr)
        show 2 * 0 + _ + 12 ≤ R.locals
        rw [hcat]
        omega
      · cases h
    · cases h
  case invokestatic i =>
    simp only [xv_nat] at h
    split at h
    · rename_i j hj
      unfold xv_copy at h
      split at h
      · rename_i n dp b sp a S1
        obtain ⟨_, r0, rfl, ⟨xn, rfl, hn⟩, _, r1, rfl, ⟨xd, rfl, hd⟩, _, r2, rfl, ⟨qb, hqb, rfl⟩, _, r3, rfl, ⟨xsp, rfl, hsp⟩, _, r4, rfl, ⟨qa, hqa, rfl⟩, hr⟩ := hs
        split at h
        · rename_i oa ob hoa hob
          cases h1 : Nat.beq oa.1 0 <;> simp only [h1, Bool.true_and, Bool.false_and, cond_true, cond_false] at h
          · cases h
          cases h2 : Nat.beq ob.1 0 <;> simp only [h2, Bool.true_and, Bool.false_and, cond_true, cond_false] at h
          · cases h
          cases h3 : Nat.ble (xv_cats S1) 8 <;> simp only [h3, cond_true, cond_false] at h
          · cases h
          split at h
          · rename_i n' dp' sp' en ed es
            cases h4 : Nat.ble (sp' + n') oa.2.length <;> simp only [h4, Bool.true_and, Bool.false_and, cond_true, cond_false] at h
            · cases h
            cases h55 : Nat.ble (dp' + n') ob.2.length <;> simp only [h55, cond_true, cond_false] at h
            · cases h
            obtain ⟨rfl, rfl⟩ := by simpa using h
            obtain ⟨-, -, cn, nn⟩ := xs_ix hD en hn
            obtain ⟨-, -, cd, nd⟩ := xs_ix hD ed hd
            obtain ⟨-, -, csp, nsp⟩ := xs_ix hD es hsp
            have l4 := Nat.le_of_ble_eq_true h4
            have l5 := Nat.le_of_ble_eq_true h55
            have z1 := Nat.eq_of_beq_eq_true h1
            have z2 := Nat.eq_of_beq_eq_true h2
            obtain ⟨ia, Ea, hEa, hea, -⟩ := xr_m_at hm hoa hqa (by omega) (by omega)
            obtain ⟨ib, Eb, hEb, heb, hset⟩ := xr_m_at hm hob hqb (by omega) (by omega)
            obtain ⟨cA, ty, f, ht, rfl, hf⟩ := xr_e_int hea (Or.inl z1)
            obtain ⟨cB, tyb, f2, ht2, rfl, hf2⟩ := xr_e_int heb (Or.inl z2)
            obtain ⟨c0, ht0⟩ := hY.1
            rw [z1] at ht
            rw [z2] at ht2
            cases Option.some.inj (ht.symm.trans ht0)
            cases Option.some.inj (ht2.symm.trans ht0)
            have hcat := xr_s_cats hr
            have h8 := Nat.le_of_ble_eq_true h3
            refine va_copyi hx hb hml hown (h6 _ _ hj) h6n h6s h6i hK hP hD0 hS ia ib 0 0 hEa hEb ht0 ht0 rfl nsp nd nn (by rw [csp, cn]; exact l4) (by rw [cd, cn]; exact l5) (fun _ _ => rfl) hRf ?_ hdg (fun H1 locs1 hP1 hD1 hS1 => kk _ _ _ _ (hset _ _ ?_) hP1 hD1 hS1 hr)
            · rw [hcat, show nativeFrameWords "java/lang/System" "arraycopy" 5 = 7 by decide]
              omega
            · rw [cn, cd, csp]
              have hlen : (ob.2.take dp' ++ ((oa.2.drop sp').take n' ++ ob.2.drop (dp' + n'))).length = ob.2.length := by
                rw [List.length_append, List.length_append, List.length_take, List.length_take, List.length_drop, List.length_drop]
                omega
              refine Or.inr ⟨_, _, ht0, Or.inl ⟨Or.inl rfl, _, by rw [hlen], fun j w hw => ?_⟩⟩
              exact xs_cpy hf hf2 l4 l5 hw
          · cases h
        · cases h
      · cases h
    · cases h
  case invokevirtual i =>
    simp only [xv_nat] at h
    split at h
    · rename_i j hj
      split at h
      · rename_i a n S1
        obtain ⟨_, r0, rfl, ⟨x, rfl, hx1⟩, _, r1, rfl, ⟨q, hq, rfl⟩, hr⟩ := hs
        split at h
        · rename_i cs hcs
          split at h
          · rename_i k hk
            split at h
            · rename_i b hb1
              cases h3 : Nat.ble (xv_cats S1) 8 <;> simp only [h3, cond_true, cond_false] at h
              · cases h
              obtain ⟨rfl, rfl⟩ := by simpa using h
              obtain ⟨-, -, c1, c2⟩ := xs_ix hD hk hx1
              have hcat := xr_s_cats hr
              have h8 := Nat.le_of_ble_eq_true h3
              exact hch i j n k cs b x q r1 hj hcs hb1 c1 c2 hq (by rw [hcat]; exact h8) hdg (kk _ _ _ _ hm hP hD0 hS ⟨_, _, rfl, ⟨_, rfl, hD.1 _⟩, hr⟩)
            · cases h
          · cases h
        · cases h
      · cases h
    · cases h
end XST
end
section
abbrev xm_Z : Type := MethodName × ByteArray × Option FieldType
def xv_ret : Nat → Option FieldType
  | 0 => none
  | 1 => some .int
  | 2 => some .long
  | _ => some .boolean
/-- the constant texts: their bytes, their addresses, the addresses of their bytes, where they are named (class, entry, text, number); and then the constant arrays of ints: their numbers, lengths, contents -/
abbrev xk_C : Type := List (List Int32) × (Nat → Nat) × (Nat → Nat) × List (String × Nat × String × Nat) × List Nat × (Nat → Nat) × (Nat → Nat → Int32)
/-- the statics that charAt reads -/
def xk_St (A : Nat → Prop) (U : State) (H : Heap) : Prop := va_Z "java/lang/String" "COMPACT_STRINGS" "Z" (.int 1) A U H ∧ va_Zq "jdk/internal/util/Preconditions" "SIOOBE_FORMATTER" "Ljava/util/function/BiFunction;" A U H ∧ vx_Zq Bundle.tN "UNASSIGNED_STACK" Bundle.steD A U H ∧ vx_Zq Bundle.tN "SUPPRESSED_SENTINEL" Bundle.listD A U H
/-- the texts and the statics -/
def xk_T (kx : xk_C) (A : Nat → Prop) (U : State) (H : Heap) : Prop := vk_S kx.1.length (kx.1.map List.length) kx.1 kx.2.1 kx.2.2.1 A U H ∧ xk_St A U H
theorem xk_T.moved {kx : xk_C} {A : Nat → Prop} {u U : State} {H : Heap} (hvm : u.vm.Alike U.vm) (h : xk_T kx A u H) : xk_T kx A U H := ⟨vk_S.moved hvm h.1, va_Z.moved hvm h.2.1, va_Zq.moved hvm h.2.2.1, vx_Zq.moved hvm h.2.2.2.1, vx_Zq.moved hvm h.2.2.2.2⟩
theorem xk_T.kept {kx : xk_C} {A : Nat → Prop} {U : State} {H H1 : Heap} (h : xk_T kx A U H) (hq : ∀ a : Nat, a < H.size → ¬ A a → H1[a]? = H[a]?) : xk_T kx A U H1 := ⟨vk_S.kept h.1 hq, va_Z.kept h.2.1 hq, va_Zq.kept h.2.2.1 hq, vx_Zq.kept h.2.2.2.1 hq, vx_Zq.kept h.2.2.2.2 hq⟩
theorem xk_T.narrow {kx : xk_C} {A B : Nat → Prop} {U : State} {H : Heap} (h : xk_T kx A U H) (hAB : ∀ q, B q → A q) : xk_T kx B U H := ⟨vk_S.narrow h.1 hAB, va_Z.narrow h.2.1 hAB, va_Zq.narrow h.2.2.1 hAB, vx_Zq.narrow h.2.2.2.1 hAB, vx_Zq.narrow h.2.2.2.2 hAB⟩
def xk_W (kx : xk_C) (A : Nat → Prop) (U : State) (H : Heap) : Prop := xk_T kx A U H ∧ ∀ k ∈ kx.2.2.2.2.1, va_X (kx.2.1 k) (kx.2.2.2.2.2.1 k) (kx.2.2.2.2.2.2 k) U H ∧ kx.2.1 k < H.size ∧ ¬ A (kx.2.1 k)
/-- a constant array's cell -/
def xk_c {V : Type} (g : V → Value → Prop) (kx : xk_C) (k : Nat) (o : xv_O V) : Prop := k ∈ kx.2.2.2.2.1 ∧ o.2.length = kx.2.2.2.2.2.1 k ∧ ∀ (j : Nat) (v : xv_V V), o.2[j]? = some v → ∃ a, v = .inl a ∧ g a (.int (kx.2.2.2.2.2.2 k j))
def xk_R (kx : xk_C) (U : State) : Prop := ∀ q ∈ kx.2.2.2.1, vk_R q.1 q.2.1 q.2.2.1 (kx.2.1 q.2.2.2) U
def xk_F (kx : xk_C) (φ : List Nat) : Prop := (∀ n, n < kx.1.length → φ[n]? = some (kx.2.1 n)) ∧ ∀ k ∈ kx.2.2.2.2.1, φ[k]? = some (kx.2.1 k)
def xk_y : MethodName := ⟨"java/lang/String", "charAt", "(I)C"⟩
def xk_rm : Room := { frames := 4, cells := 0, slots := 0, locals := 160 }
/-- charAt of a constant text -/
def xk_Ch (l : Launch) (tb : List Jvm.Cond) (kcc : ByteArray) (kx : xk_C) : Prop := ∀ (A : Nat → Prop) (n k : Nat) (cs : List Int32) (b x : Int32), kx.1[n]? = some cs → cs[k]? = some b → x.toNatClampNeg = k → ¬ x < 0 →
  Met l xk_y (.code xk_y kcc 2 (some .char) :: tb) xk_rm (va_Pc [.ref (kx.2.1 n), .int x] (fun U => xk_T kx A U U.heap)) (QcRead (b &&& 255)) 0 0 (fun _ => False)
theorem xk_F.mono {kx : xk_C} {φ t : List Nat} (h : xk_F kx φ) : xk_F kx (φ ++ t) := ⟨fun n hn => by
  have h1 := h.1 n hn
  rw [List.getElem?_append_left (List.getElem?_eq_some_iff.mp h1).1]
  exact h1, fun n hn => by
  have h1 := h.2 n hn
  rw [List.getElem?_append_left (List.getElem?_eq_some_iff.mp h1).1]
  exact h1⟩
theorem xk_W.moved {kx : xk_C} {A : Nat → Prop} {u U : State} {H : Heap} (hvm : u.vm.Alike U.vm) (h : xk_W kx A u H) : xk_W kx A U H := ⟨h.1.moved hvm, fun k hk => ⟨va_X.moved hvm (h.2 k hk).1, (h.2 k hk).2⟩⟩
theorem xk_W.kept {kx : xk_C} {A : Nat → Prop} {U : State} {H0 H : Heap} {locs : List Loc} (h : xk_W kx A U H0) (hS : va_S A H0 H locs) : xk_W kx A U H := ⟨h.1.kept hS.2.1, fun k hk => ⟨va_X.kept (h.2 k hk).1 (hS.2.1 _ (h.2 k hk).2.1 (h.2 k hk).2.2), Nat.lt_of_lt_of_le (h.2 k hk).2.1 hS.1, (h.2 k hk).2.2⟩⟩
theorem xk_W.narrow {kx : xk_C} {A B : Nat → Prop} {U : State} {H : Heap} (h : xk_W kx A U H) (hAB : ∀ q, B q → A q) : xk_W kx B U H := ⟨h.1.narrow hAB, fun k hk => ⟨(h.2 k hk).1, (h.2 k hk).2.1, fun z => (h.2 k hk).2.2 (hAB _ z)⟩⟩
def xk_x1 : String := "java/lang/IndexOutOfBoundsException"
def xk_x2 : String := "java/util/NoSuchElementException"
/-- what the throws of cell need of the tables -/
def xk_E (U : State) : Prop := (va_Nw (.castable xk_x1 xk_x1) U ∧ va_Nw (.castable xk_x2 xk_x2) U) ∧ (va_Nw (.declares (Bundle.initS "java/lang/RuntimeException")) U ∧ va_Nw (.declares (Bundle.initS "java/lang/Exception")) U ∧ va_Nw (.declares (Bundle.initS Bundle.tN)) U) ∧ va_Nc xk_x2 xk_x1 U
theorem xk_E.warm {s U : State} (hW : s.WarmedH U.vm) (h : xk_E s) : xk_E U := ⟨⟨va_Nw.warmC hW h.1.1, va_Nw.warmC hW h.1.2⟩, ⟨va_Nw.warmD hW h.2.1.1, va_Nw.warmD hW h.2.1.2.1, va_Nw.warmD hW h.2.1.2.2⟩, va_Nc.moved hW.alike h.2.2⟩
theorem xk_E.same {s U : State} (hv : s.vm = U.vm) (h : xk_E s) : xk_E U := ⟨⟨va_Nw.same rfl hv h.1.1, va_Nw.same rfl hv h.1.2⟩, ⟨va_Nw.same rfl hv h.2.1.1, va_Nw.same rfl hv h.2.1.2.1, va_Nw.same rfl hv h.2.1.2.2⟩, va_Nc.moved (by rw [hv]; exact Vm.Alike.refl U.vm) h.2.2⟩
def xm_K (Dg : va_G) (cl : List vw_C) (tys : List (ClassId × FieldType)) (at_ : List Nat) (nest : List (String × Nat × MethodName × String)) (kx : xk_C) (U : State) : Prop :=
  va_K Dg cl tys U ∧ xc_ao cl at_ U ∧ (∀ q ∈ nest, va_Nw (.methodLinkNest q.1 q.2.1 q.2.2.1 q.2.2.2) U) ∧ xk_R kx U ∧ xk_E U
theorem xm_K.warm {Dg : va_G} {cl : List vw_C} {tys : List (ClassId × FieldType)} {at_ : List Nat} {nest : List (String × Nat × MethodName × String)} {kx : xk_C} {s U : State} (hW : s.WarmedH U.vm) (h : xm_K Dg cl tys at_ nest kx s) : xm_K Dg cl tys at_ nest kx U :=
  ⟨va_K.moved hW.alike h.1, fun n cj C T N h1 h2 => va_AO.moved hW.alike (h.2.1 n cj C T N h1 h2), fun q hq => va_Nw.warmM hW (h.2.2.1 q hq), fun q hq => vk_R.warm hW (h.2.2.2.1 q hq), h.2.2.2.2.warm hW⟩
theorem xm_K.calling {Dg : va_G} {cl : List vw_C} {tys : List (ClassId × FieldType)} {at_ : List Nat} {nest : List (String × Nat × MethodName × String)} {kx : xk_C} {U : State} {g : JFrame} {mk : MethodId} {a : Array Value} (h : xm_K Dg cl tys at_ nest kx U) : xm_K Dg cl tys at_ nest kx (U.calling g mk a) :=
  ⟨va_K.moved (u := U) (U := U.calling g mk a) (Vm.Alike.refl U.vm) h.1, fun n cj C T N h1 h2 => va_AO.moved (u := U) (U := U.calling g mk a) (Vm.Alike.refl U.vm) (h.2.1 n cj C T N h1 h2), fun q hq => va_Nw.same rfl rfl (h.2.2.1 q hq), fun q hq => vk_R.same rfl (h.2.2.2.1 q hq), h.2.2.2.2.same rfl⟩
def xm_rm (d : Nat) (y : xv_N) : Room := { frames := d + 5, cells := y.2.2.1.1, slots := y.2.2.1.2, locals := 44 * (d + 5) }
def xm_A {V : Type} (g : V → Value → Prop) (φ : List Nat) : Option (xv_V V) → Option Value → Prop
  | none, v => v = none
  | some a, v => ∃ x : Value, v = some x ∧ xr_v g φ a x
def xm_Q {V : Type} (C : Nat → xv_O V → Prop) (g : V → Value → Prop) (tys : List (ClassId × FieldType)) (Dg : va_G) (cl : List vw_C) (r : xv_R V) (φ : List Nat) (A : Nat → Prop) : Array Value → State → Outcome → State → Prop := fun _ st oc t =>
  (∃ (v : Option Value) (ts : List Nat) (ws' : va_W), oc = .returned v ∧ xm_A g (φ ++ ts) r.1 v ∧ xr_m C g (φ ++ ts) tys r.2 ws' ∧ va_P Dg cl ws' t.heap ∧ va_D A ws') ∧ va_F A st t
def xm_P (Dg : va_G) (cl : List vw_C) (tys : List (ClassId × FieldType)) (at_ : List Nat) (nest : List (String × Nat × MethodName × String)) (kx : xk_C) (ws : va_W) (sz : Nat) (vals : List Value) : Array Value → State → Prop :=
  va_Pc vals (fun U => U.heap.size = sz ∧ va_P Dg cl ws U.heap ∧ xm_K Dg cl tys at_ nest kx U ∧ va_D (fun _ => True) ws ∧ xk_W kx (va_A ws sz) U U.heap)
/-- THE CONTRACT of the method j out of the pure machine's run: at most d frames -/
def xm_Con (l : Launch) {V : Type} (g : V → Value → Prop) (tys : List (ClassId × FieldType)) (Dg : va_G) (cl : List vw_C) (at_ : List Nat) (nest : List (String × Nat × MethodName × String)) (kx : xk_C) (tb : List Jvm.Cond) (ms : List xv_N) (ys : List xm_Z) (d j : Nat) (as : List (xv_V V)) (M : xv_M V) (r : xv_R V) : Prop :=
  ∀ (y : xv_N) (z : xm_Z), ms[j]? = some y → ys[j]? = some z → ∀ (φ : List Nat) (ws : va_W) (vals : List Value) (sz : Nat), xr_m (xk_c g kx) g φ tys M ws → xr_s g φ as vals → xk_F kx φ →
    Met l z.1 (.code z.1 z.2.1 y.2.1.2.1 z.2.2 :: tb) (xm_rm d y) (xm_P Dg cl tys at_ nest kx ws sz vals) (xm_Q (xk_c g kx) g tys Dg cl r φ (va_A ws sz)) y.2.2.1.1 y.2.2.1.2 (va_A ws sz)
def xc_dec (cc : ByteArray) (q : xv_I) : Prop := ∃ len, decode cc q.1 = .ok (q.2, len) ∧ (xv_sw q.2 = true ∨ len = xv_len q.2)
def xc_mth (tb : List Jvm.Cond) (nest : List (String × Nat × MethodName × String)) (ys : List xm_Z) (own : String) (K : xv_K) : Prop := ∀ i k j : Nat, xv_find K.2.1 i = some (k, j) →
  (k = 0 → ∃ z, ys[j]? = some z ∧ Jvm.Cond.methodLink own i z.1 ∈ tb ∧ Jvm.Cond.instanceMethod z.1 ∈ tb ∧ Jvm.Cond.selects z.1.cls z.1 z.1 ∈ tb) ∧
  (k = 1 → ∃ z, ys[j]? = some z ∧ Jvm.Cond.methodLink own i z.1 ∈ tb ∧ Jvm.Cond.instanceMethod z.1 ∈ tb ∧ z.1.name = "<init>" ∧ z.2.2 = none) ∧
  (k = 2 → ∃ z host, ys[j]? = some z ∧ (own, i, z.1, host) ∈ nest ∧ Jvm.Cond.instanceMethod z.1 ∈ tb ∧ z.1.name = "<init>" ∧ z.2.2 = none) ∧
  (k = 3 → ∃ z, ys[j]? = some z ∧ Jvm.Cond.methodLink own i z.1 ∈ tb ∧ Jvm.Cond.static z.1 ∈ tb) ∧
  (k = 4 → Jvm.Cond.methodLink own i xk_y ∈ tb) ∧ (k = 5 → Jvm.Cond.methodLink own i Lib.objectInit ∈ tb) ∧ (k = 6 → Jvm.Cond.methodLink own i arraycopyName ∈ tb)
def xc_str (sct : List (List Int32)) (strs : List (String × Nat × String × Nat)) (own : String) (K : xv_K) : Prop := ∀ i n : Nat, xv_find K.2.2.1 i = some n → 2000 ≤ n → n - 2000 < sct.length ∧ ∃ tx, (own, i, tx, n - 2000) ∈ strs
def xc_cst (tb : List Jvm.Cond) (own : String) (K : xv_K) : Prop := (∀ (i : Nat) (v : Int32), xv_find K.2.2.2.1 i = some v → Jvm.Cond.constant own i v ∈ tb) ∧ ∀ (i : Nat) (v : Int64), xv_find K.2.2.2.2 i = some v → Jvm.Cond.constantLong own i v ∈ tb
def xc_nat (tb : List Jvm.Cond) (kcc : ByteArray) : Prop := (Jvm.Cond.instanceMethod xk_y ∈ tb ∧ Jvm.Cond.selects "java/lang/String" xk_y xk_y ∈ tb ∧ Jvm.Cond.initialized "java/lang/String" ∈ tb ∧ Jvm.Cond.code xk_y kcc 2 (some .char) ∈ tb) ∧ Jvm.Cond.instanceMethod Lib.objectInit ∈ tb ∧ Jvm.Cond.code Lib.objectInit ⟨#[0xb1]⟩ 1 none ∈ tb ∧ Jvm.Cond.native arraycopyName ∈ tb ∧ Jvm.Cond.static arraycopyName ∈ tb ∧ Jvm.Cond.initialized "java/lang/System" ∈ tb
/-- the body of a method: its instructions and links -/
def xc_bod (tb : List Jvm.Cond) (nest : List (String × Nat × MethodName × String)) (cl : List vw_C) (ct : List (List (FieldType × Bool))) (at_ : List Nat) (sct : List (List Int32)) (strs : List (String × Nat × String × Nat)) (ys : List xm_Z) (y : xv_N) (z : xm_Z) : Prop :=
  xv_ret y.2.1.2.2.1 = z.2.2 ∧ (y.2.1.2.2.2 = 1 → z.1.name = "<init>") ∧ (∀ (C : String) (T : u_T) (N : Nat), cl[y.1.1]? = some (C, T, N) → C = z.1.cls) ∧
  (∀ q ∈ y.2.2.2, xc_dec z.2.1 q) ∧ xc_fld tb cl ct z.1.cls y.1.2 ∧ xc_new tb cl at_ z.1.cls y.1.2 ∧ xc_cst tb z.1.cls y.1.2 ∧ xc_str sct strs z.1.cls y.1.2 ∧ xc_mth tb nest ys z.1.cls y.1.2
/-- a method of the table is what its row says -/
def xc_one (tb : List Jvm.Cond) (nest : List (String × Nat × MethodName × String)) (cl : List vw_C) (ct : List (List (FieldType × Bool))) (at_ : List Nat) (sct : List (List Int32)) (strs : List (String × Nat × String × Nat)) (ys : List xm_Z) (y : xv_N) (z : xm_Z) : Prop :=
  plainName z.1.cls = true ∧ Jvm.Cond.code z.1 z.2.1 y.2.1.2.1 z.2.2 ∈ tb ∧ Jvm.Cond.initialized z.1.cls ∈ tb ∧
  (z.1.cls ≠ "java/lang/invoke/MethodHandle" ∧ z.1.cls ≠ "java/lang/invoke/VarHandle" ∧ (parseMethodDescriptor z.1.desc).map (fun d => d.parameters.length) = some y.2.1.1) ∧
  y.2.1.2.1 ≤ 25 ∧ xc_bod tb nest cl ct at_ sct strs ys y z
/-- all tables -/
def xc_all (tb : List Jvm.Cond) (nest : List (String × Nat × MethodName × String)) (cl : List vw_C) (ct : List (List (FieldType × Bool))) (at_ : List Nat) (sct : List (List Int32)) (strs : List (String × Nat × String × Nat)) (kcc : ByteArray) (ms : List xv_N) (ys : List xm_Z) : Prop :=
  (∀ w ∈ tb, goodWord w = true) ∧ xc_cls tb cl ct ∧ xc_arr tb ∧ xc_nat tb kcc ∧ ∀ (j : Nat) (y : xv_N), ms[j]? = some y → ∃ z, ys[j]? = some z ∧ xc_one tb nest cl ct at_ sct strs ys y z
theorem xc_good {tb : List Jvm.Cond} (h : ∀ w ∈ tb, goodWord w = true) {w0 w1 : Jvm.Cond} (h1 : w1 ∈ tb) : GoodIn (w0 :: tb) (w1 :: tb) := by
  intro w hw
  have hm : w ∈ tb := by
    rcases List.mem_cons.mp hw with q | q
    · rw [q]; exact h1
    · exact q
  exact ⟨List.mem_cons_of_mem _ hm, good_of_word (h w hm)⟩
section XSU
variable {p : Program} {l : Launch} {e : Env} {R : Room} {s : State} {m : MethodId} {args : Array Value} {below : List Frame} {meth : Method} {c : Code} {H : Heap} {locs : List Loc} {cells slots : Nat} {Q : State → Prop}
variable {cc : ByteArray} {pc : Nat} {V : Type} {C : Nat → xv_O V → Prop} {D : xv_D V} {g : V → Value → Prop} {φ : List Nat} {M : xv_M V} {S : List (xv_V V)} {ls : Array Slot} {st : List Value}
variable {Dg : va_G} {cl : List vw_C} {tys : List (ClassId × FieldType)} {A : Nat → Prop} {H0 : Heap} {ws : va_W} {at_ : List Nat} {nest : List (String × Nat × MethodName × String)} {kx : xk_C} {kcc : ByteArray}
/-- behind a call -/
theorem xs_after {r : xv_R V} {rest st0 : List Value} {a : Array Value} {mc ms : Nat} (hr : va_Run p l e R s m args below meth c H locs cells slots mc ms (F0 m pc ls st0) rest (xm_Q C g tys Dg cl r φ (va_A ws H.size) a) (va_A ws H.size)) (hD0 : va_D A ws) (hS : va_S A H0 H locs) (hA : ∀ q, H0.size ≤ q → A q)
    (kk : ∀ (v : Option Value) (ts : List Nat) (ws' : va_W) (H1 : Heap) (locs1 : List Loc), xm_A g (φ ++ ts) r.1 v → xr_m C g (φ ++ ts) tys r.2 ws' → va_P Dg cl ws' H1 → va_D A ws' → va_S A H0 H1 locs1 → W p l e R s m args below meth c H1 locs1 (cells + mc) (slots + ms) Q (F0 m (pc + 3) ls (v.toList ++ rest))) :
    W p l e R s m args below meth c H locs cells slots Q (F0 m pc ls st0) := by
  have hAA : ∀ q, va_A ws H.size q → A q := fun q hq => by
    rcases hq with ⟨k, E, hk⟩ | hq
    · exact hD0.2 k _ hk
    · exact hA q (Nat.le_trans hS.1 hq)
  intro T hT X
  obtain ⟨v, st₀, t, T', L, h0, X', hL, e1, e2, ⟨⟨v', ts, ws', hv, h1, h2, h3, h4⟩, hz, hk⟩, st⟩ := hr T hT X
  cases hv
  rw [h0] at hz hk
  obtain ⟨t2, a1, b1⟩ := kk v ts ws' T'.heap (locs ++ L) h1 h2 (by rw [e1]; exact h3) (h4.weaken (fun _ _ _ z => hAA _ z))
    ⟨Nat.le_trans hS.1 (by rw [e1]; exact hz), fun q g1 g2 => by rw [e1, hk q (Nat.lt_of_lt_of_le g1 hS.1) (fun z => g2 (hAA q z))]; exact hS.2.1 q g1 g2, fun q hq => by
      rcases List.mem_append.mp hq with h | h
      · exact hS.2.2 q h
      · exact hAA _ (hL q h)⟩ T' rfl X'
  exact ⟨t2, st t2 a1, b1⟩
theorem xm_blind {ws : va_W} {sz : Nat} {vals : List Value} : FrameBlind (xm_P Dg cl tys at_ nest kx ws sz vals) := fun a U g mk q => ⟨q.1, q.2.1, q.2.2.1, q.2.2.2.1.calling, q.2.2.2.2.1, xk_W.moved (u := U) (U := U.calling g mk a) (Vm.Alike.refl U.vm) q.2.2.2.2.2⟩
theorem xm_pre {ws : va_W} {vals : List Value} (hK : xm_K Dg cl tys at_ nest kx s) (hkw : xk_W kx A s s.heap) (hP : va_P Dg cl ws H) (hD0 : va_D A ws) (hS : va_S A s.heap H locs) (hA : ∀ q, s.heap.size ≤ q → A q) : ∀ U : State, U.heap = H → s.WarmedH U.vm → xm_P Dg cl tys at_ nest kx ws H.size vals vals.toArray U := fun U hU hW =>
  ⟨rfl, by rw [hU], by rw [hU]; exact hP, hK.warm hW, hD0.weaken (fun _ _ _ _ => trivial), by
    rw [hU]
    refine xk_W.moved hW.alike (xk_W.narrow (xk_W.kept hkw hS) (fun q hq => ?_))
    rcases hq with ⟨k, E, hk⟩ | hq
    · exact hD0.2 k _ hk
    · exact hA q (Nat.le_trans hS.1 hq)⟩
set_option maxHeartbeats 4000000 in
/-- CALLS -/
theorem xs_call {own : String} {ys : List xm_Z} {ms : List xv_N} {K : xv_K} {tb : List Jvm.Cond} {ct : List (List (FieldType × Bool))} {w0 : Jvm.Cond} {d nL : Nat} (hx : p.tables.exec = Jvm.exec) (hb : c.code = cc) (hml : c.maxLocals = nL) (hls : ls.size = nL) (hown : s.vm.findClass own = some m.cls) (hts : ∀ w ∈ (w0 :: tb), w.before args s = true)
    {sct : List (List Int32)} {strs : List (String × Nat × String × Nat)} (hall : xc_all tb nest cl ct at_ sct strs kcc ms ys) (hMt : xc_mth tb nest ys own K) (hK : xm_K Dg cl tys at_ nest kx s) (hkw : xk_W kx A s s.heap) (hkF : xk_F kx φ) (hRf : d + 6 ≤ R.frames) (hRl : 44 * (d + 6) ≤ R.locals) (hA : ∀ q, s.heap.size ≤ q → A q)
    {i : Instr} {j : Nat} {as Rs : List (xv_V V)} (h : xv_arg ms K M S i = some (j, as, Rs)) {z : xv_N} (hz : ms[j]? = some z) {r : xv_R V} (hcon : xm_Con l g tys Dg cl at_ nest kx tb ms ys d j as M r) (hdg : decode cc pc = .ok (i, xv_len i))
    (hm : xr_m (xk_c g kx) g φ tys M ws) (hP : va_P Dg cl ws H) (hD0 : va_D A ws) (hS : va_S A s.heap H locs) (hs : xr_s g φ S st) (hc1 : cells + z.2.2.1.1 ≤ R.cells) (hc2 : slots + z.2.2.1.2 ≤ R.slots)
    (kk : ∀ (t : List Nat) (ws' : va_W) (H' : Heap) (locs' : List Loc) (st' : List Value), xr_m (xk_c g kx) g (φ ++ t) tys r.2 ws' → va_P Dg cl ws' H' → va_D A ws' → va_S A s.heap H' locs' → xr_s g (φ ++ t) (r.1.toList ++ Rs) st' → W p l e R s m args below meth c H' locs' (cells + z.2.2.1.1) (slots + z.2.2.1.2) Q (F0 m (pc + 3) ls st')) :
    W p l e R s m args below meth c H locs cells slots Q (F0 m pc ls st) := by
  have htb : ∀ w ∈ tb, w ∈ (w0 :: tb) := fun w hw => List.mem_cons_of_mem _ hw
  obtain ⟨y, hy, hp1, hcode, hini, hd, hml2, hret, -, hcn, -⟩ := hall.2.2.2.2 j z hz
  have hG : GoodIn (w0 :: tb) (Jvm.Cond.code y.1 y.2.1 z.2.1.2.1 y.2.2 :: tb) := xc_good hall.1 hcode
  have hroom : (xm_rm d z).frames + 1 ≤ R.frames ∧ 8 + (z.2.1.2.1 + 11) + (xm_rm d z).locals ≤ R.locals := ⟨hRf, by show 8 + (z.2.1.2.1 + 11) + 44 * (d + 5) ≤ R.locals; omega⟩
  have fin : ∀ {rest : List Value} {a : Array Value}, xr_s g φ Rs rest → va_Run p l e R s m args below meth c H locs cells slots z.2.2.1.1 z.2.2.1.2 (F0 m pc ls st) rest (xm_Q (xk_c g kx) g tys Dg cl r φ (va_A ws H.size) a) (va_A ws H.size) → W p l e R s m args below meth c H locs cells slots Q (F0 m pc ls st) := fun hrs hrun =>
    xs_after hrun hD0 hS hA (fun v ts ws' H1 locs1 h1 h2 h3 h4 h5 => by
      refine kk ts ws' H1 locs1 _ h2 h3 h4 h5 ?_
      cases hr1 : r.1 with
      | none =>
        rw [hr1] at h1
        rw [show v = none from h1]
        exact xr_s_mono hrs
      | some av =>
        rw [hr1] at h1
        obtain ⟨x, rfl, hxv⟩ := h1
        exact ⟨x, _, rfl, hxv, xr_s_mono hrs⟩)
  cases i
  all_goals (first | (simp only [xv_arg, reduceCtorEq] at h; done) | skip)
  case invokevirtual i =>
    simp only [xv_arg] at h
    split at h
    · rename_i j' hj
      split at h
      · rename_i y' hy'
        split at h
        · rename_i a R1 hdrop
          split at h
          · rename_i o ho
            cases h1 : Nat.beq o.1 (8 + y'.1.1) <;> simp only [h1, Bool.true_and, Bool.false_and, cond_true, cond_false] at h
            · cases h
            cases h2 : Nat.ble (xv_cats R1) 8 <;> simp only [h2, cond_true, cond_false] at h
            · cases h
            obtain ⟨rfl, rfl, rfl⟩ := by simpa using h
            cases Option.some.inj (hy'.symm.trans hz)
            obtain ⟨z2, hz2, hl1, hl2, hl3⟩ := (hMt i 0 _ hj).1 rfl
            cases Option.some.inj (hz2.symm.trans hy)
            have hsd := xr_s_drop z.2.1.1 hs
            rw [hdrop] at hsd
            obtain ⟨_, rest, hst, ⟨q, hq, rfl⟩, hrs⟩ := hsd
            have hlen : (st.take z.2.1.1).reverse.length = z.2.1.1 := by
              rw [List.length_reverse, List.length_take]
              have hl : (st.drop z.2.1.1).length = rest.length + 1 := by rw [hst]; rfl
              rw [List.length_drop] at hl
              omega
            have hstk : st = ((st.take z.2.1.1).reverse).reverse ++ .ref q :: rest := by rw [List.reverse_reverse, ← hst, List.take_append_drop]
            obtain ⟨ia, E, hE, he, -⟩ := xr_m_at hm ho hq (by have := Nat.eq_of_beq_eq_true h1; omega) (by have := Nat.eq_of_beq_eq_true h1; omega)
            obtain ⟨fs, rfl, -⟩ := xr_e_obj he (Nat.eq_of_beq_eq_true h1)
            obtain ⟨⟨C, T, N⟩, hr1, -⟩ := hP ia _ hE
            have hC := hcn C T N hr1
            subst hC
            have hcat := xr_s_cats hrs
            have h8 := Nat.le_of_ble_eq_true h2
            refine fin (a := (Value.ref q :: (st.take z.2.1.1).reverse).toArray) hrs (va_runV (C := y.1.cls) (As := (st.take z.2.1.1).reverse) (rest := rest) ⟨hx, hb, hml, hown, hts⟩ (hcon z y hz hy φ ws (.ref q :: (st.take z.2.1.1).reverse) H.size hm ⟨_, _, rfl, ⟨q, hq, rfl⟩, xr_s_rev (xr_s_take _ hs)⟩ hkF) ⟨callB_of z.2.1.1 hts hG rfl rfl rfl (hts _ (htb _ hini)) (hts _ (htb _ hl1)) hd hroom, hts _ (htb _ hl2), hts _ (htb _ hl3)⟩ ⟨xm_blind, va_recv hK.1 hP hr1 hE, xm_pre hK hkw hP hD0 hS hA⟩ rfl hlen hls hstk ?_ hdg ⟨hc1, hc2⟩)
            show 2 * 0 + _ ≤ 8
            rw [hcat]
            omega
          · cases h
        · cases h
      · cases h
    · cases h
  case invokespecial i =>
    simp only [xv_arg] at h
    split at h
    · rename_i k j' hj
      cases hk : (Nat.beq k 1 || Nat.beq k 2) <;> simp only [hk, cond_true, cond_false] at h
      · cases h
      split at h
      · rename_i y' hy'
        split at h
        · rename_i a R1 hdrop
          cases h2 : Nat.ble (xv_cats R1) 8 <;> simp only [h2, cond_true, cond_false] at h
          · cases h
          obtain ⟨rfl, rfl, rfl⟩ := by simpa using h
          cases Option.some.inj (hy'.symm.trans hz)
          have hsd := xr_s_drop z.2.1.1 hs
          rw [hdrop] at hsd
          obtain ⟨_, rest, hst, ⟨q, hq, rfl⟩, hrs⟩ := hsd
          have hlen : (st.take z.2.1.1).reverse.length = z.2.1.1 := by
            rw [List.length_reverse, List.length_take]
            have hl : (st.drop z.2.1.1).length = rest.length + 1 := by rw [hst]; rfl
            rw [List.length_drop] at hl
            omega
          have hstk : st = ((st.take z.2.1.1).reverse).reverse ++ .ref q :: rest := by rw [List.reverse_reverse, ← hst, List.take_append_drop]
          have hcat := xr_s_cats hrs
          have h8 := Nat.le_of_ble_eq_true h2
          rcases Bool.or_eq_true_iff.mp hk with hk1 | hk1
          · obtain ⟨z2, hz2, hl1, hl2, hl3, hl4⟩ := (hMt i k _ hj).2.1 (Nat.eq_of_beq_eq_true hk1)
            cases Option.some.inj (hz2.symm.trans hy)
            obtain ⟨zn, zb, zr⟩ := y
            obtain rfl : zr = none := hl4
            refine fin (a := (Value.ref q :: (st.take z.2.1.1).reverse).toArray) hrs (va_runI (As := (st.take z.2.1.1).reverse) (rest := rest) ⟨hx, hb, hml, hown, hts⟩ (hcon z (zn, zb, none) hz hy φ ws (.ref q :: (st.take z.2.1.1).reverse) H.size hm ⟨_, _, rfl, ⟨q, hq, rfl⟩, xr_s_rev (xr_s_take _ hs)⟩ hkF) ⟨callB_of z.2.1.1 hts hG rfl rfl rfl (hts _ (htb _ hini)) (hts _ (htb _ hl1)) hd hroom, hl3, hts _ (htb _ hl2)⟩ ⟨xm_blind, xm_pre hK hkw hP hD0 hS hA⟩ rfl hlen hls hstk ?_ hdg ⟨hc1, hc2⟩)
            show 2 * 0 + _ ≤ 8
            rw [hcat]
            omega
          · obtain ⟨z2, host, hz2, hl1, hl2, hl3, hl4⟩ := (hMt i k _ hj).2.2.1 (Nat.eq_of_beq_eq_true hk1)
            cases Option.some.inj (hz2.symm.trans hy)
            obtain ⟨zn, zb, zr⟩ := y
            obtain rfl : zr = none := hl4
            refine fin (a := (Value.ref q :: (st.take z.2.1.1).reverse).toArray) hrs (va_runIN (host := host) (As := (st.take z.2.1.1).reverse) (rest := rest) ⟨hx, hb, hml, hown, hts⟩ (hcon z (zn, zb, none) hz hy φ ws (.ref q :: (st.take z.2.1.1).reverse) H.size hm ⟨_, _, rfl, ⟨q, hq, rfl⟩, xr_s_rev (xr_s_take _ hs)⟩ hkF) ⟨va_cnB z.2.1.1 hts hG rfl rfl rfl (hK.2.2.1 _ hl1) (hts _ (htb _ hini)) hd hroom, hl3, hts _ (htb _ hl2)⟩ ⟨xm_blind, xm_pre hK hkw hP hD0 hS hA⟩ rfl hlen hls hstk ?_ hdg ⟨hc1, hc2⟩)
            show 2 * 0 + _ ≤ 8
            rw [hcat]
            omega
        · cases h
      · cases h
    · cases h
  case invokestatic i =>
    simp only [xv_arg] at h
    split at h
    · rename_i j' hj
      split at h
      · rename_i y' hy'
        cases h1 : Nat.ble y'.2.1.1 S.length <;> simp only [h1, Bool.true_and, Bool.false_and, cond_true, cond_false] at h
        · cases h
        cases h2 : Nat.ble (xv_cats (S.drop y'.2.1.1)) 8 <;> simp only [h2, cond_true, cond_false] at h
        · cases h
        obtain ⟨rfl, rfl, rfl⟩ := by simpa using h
        cases Option.some.inj (hy'.symm.trans hz)
        obtain ⟨z2, hz2, hl1, hl2⟩ := (hMt i 3 _ hj).2.2.2.1 rfl
        cases Option.some.inj (hz2.symm.trans hy)
        have hrs := xr_s_drop z.2.1.1 hs
        have hsl := xr_s_len hs
        have hle := Nat.le_of_ble_eq_true h1
        have hlen : (st.take z.2.1.1).reverse.length = z.2.1.1 := by
          rw [List.length_reverse, List.length_take]
          omega
        have hstk : st = ((st.take z.2.1.1).reverse).reverse ++ st.drop z.2.1.1 := by rw [List.reverse_reverse, List.take_append_drop]
        have hcat := xr_s_cats hrs
        have h8 := Nat.le_of_ble_eq_true h2
        refine fin (a := ((st.take z.2.1.1).reverse).toArray) hrs (va_runS (As := (st.take z.2.1.1).reverse) (rest := st.drop z.2.1.1) ⟨hx, hb, hml, hown, hts⟩ (hcon z y hz hy φ ws ((st.take z.2.1.1).reverse) H.size hm (xr_s_rev (xr_s_take _ hs)) hkF) ⟨callB_of z.2.1.1 hts hG rfl rfl rfl (hts _ (htb _ hini)) (hts _ (htb _ hl1)) hd hroom, hts _ (htb _ hl2)⟩ ⟨xm_blind, xm_pre hK hkw hP hD0 hS hA⟩ rfl hlen hls hstk ?_ hdg ⟨hc1, hc2⟩)
        show 2 * 0 + _ ≤ 8
        rw [hcat]
        omega
      · cases h
    · cases h
end XSU
end
section
section XSW
variable {l : Launch} {V : Type} {C : Nat → xv_O V → Prop} {D : xv_D V} {g : V → Value → Prop} {Dg : va_G} {cl : List vw_C} {tys : List (ClassId × FieldType)} {at_ : List Nat} {nest : List (String × Nat × MethodName × String)} {tb : List Jvm.Cond} {ct : List (List (FieldType × Bool))} {ms : List xv_N} {ys : List xm_Z} {kx : xk_C} {kcc : ByteArray}
theorem xv_to_mem : ∀ {cs : List xv_I} {i : Nat} {q : xv_I}, q ∈ xv_to cs i → q ∈ cs
  | [], _, _, h => h
  | c :: cs, i, q, h => by
    unfold xv_to at h
    cases hc : Nat.beq c.1 i <;> simp only [hc, cond_true, cond_false] at h
    · exact List.mem_cons_of_mem _ (xv_to_mem h)
    · exact h
/-- what stands fast in the body of a method -/
def xw_fix (Dg : va_G) (cl : List vw_C) (tys : List (ClassId × FieldType)) (at_ : List Nat) (nest : List (String × Nat × MethodName × String)) (kx : xk_C) (tb : List Jvm.Cond) (ct : List (List (FieldType × Bool))) (ys : List xm_Z) (d : Nat) (y : xv_N) (z : xm_Z) (p : Program) (R : Room) (s : State) (m : MethodId) (args : Array Value) (meth : Method) (c : Code) (A : Nat → Prop) : Prop :=
  p.tables.exec = Jvm.exec ∧ c.code = z.2.1 ∧ c.maxLocals = y.2.1.2.1 ∧ s.vm.findClass z.1.cls = some m.cls ∧ (∃ w0, ∀ w ∈ (w0 :: tb), w.before args s = true) ∧ xm_K Dg cl tys at_ nest kx s ∧ xk_W kx A s s.heap ∧ (d + 6 ≤ R.frames ∧ 44 * (d + 6) ≤ R.locals ∧ R.cells = y.2.2.1.1 ∧ R.slots = y.2.2.1.2) ∧ (∀ q, s.heap.size ≤ q → A q) ∧ meth.name = z.1.name ∧ xc_bod tb nest cl ct at_ kx.1 kx.2.2.2.1 ys y z
/-- from every state that stands so the machine comes to Q -/
def xw_st (p : Program) (l : Launch) (e : Env) (R : Room) (s : State) (m : MethodId) (args : Array Value) (below : List Frame) (meth : Method) (c : Code) (Q : State → Prop) {V : Type} (g : V → Value → Prop) (Dg : va_G) (cl : List vw_C) (tys : List (ClassId × FieldType)) (kx : xk_C) (A : Nat → Prop) (φ0 : List Nat) (y : xv_N) (pc : Nat) (L : xv_L V) (S : List (xv_V V)) (M : xv_M V) (cells slots : Nat) : Prop :=
  cells ≤ y.2.2.1.1 → slots ≤ y.2.2.1.2 → ∀ (t : List Nat) (ws : va_W) (H : Heap) (locs : List Loc) (ls : Array Slot) (st : List Value), xr_m (xk_c g kx) g (φ0 ++ t) tys M ws → va_P Dg cl ws H → va_D A ws → va_S A s.heap H locs → xr_l g (φ0 ++ t) L ls y.2.1.2.1 → xr_s g (φ0 ++ t) S st →
    W p l e R s m args below meth c H locs cells slots Q (F0 m pc ls st)
set_option maxHeartbeats 4000000 in
theorem xs_end {p : Program} {e : Env} {R : Room} {s : State} {m : MethodId} {args : Array Value} {below : List Frame} {meth : Method} {c : Code} {H : Heap} {locs : List Loc} {cells slots : Nat} {cc : ByteArray} {pc rc mc ms2 : Nat} {φ0 : List Nat} {M : xv_M V} {S : List (xv_V V)} {ls : Array Slot} {st : List Value} {A : Nat → Prop} {ws : va_W} {t : List Nat} {r : Option (xv_V V)}
    (hD : xv_ok D g) (hx : p.tables.exec = Jvm.exec) (hb : c.code = cc) (hr : meth.sig.returnType = xv_ret rc) (hlocks : meth.locks = false) {i : Instr} (h : xv_end D rc S i = some r) (hdg : decode cc pc = .ok (i, xv_len i))
    (hm : xr_m C g (φ0 ++ t) tys M ws) (hP : va_P Dg cl ws H) (hD0 : va_D A ws) (hS : va_S A s.heap H locs) (hs : xr_s g (φ0 ++ t) S st) (h1 : cells ≤ mc) (h2 : slots ≤ ms2) :
    W p l e R s m args below meth c H locs cells slots (MQ below (xm_Q C g tys Dg cl (r, M) φ0 A) args s mc ms2 A) (F0 m pc ls st) := by
  refine W.widen h1 h2 ?_
  cases i
  all_goals (first | (simp only [xv_end, reduceCtorEq] at h; done) | skip)
  case return_ =>
    simp only [xv_end] at h
    split at h
    · cases hc : Nat.beq rc 0 <;> simp only [hc, cond_true, cond_false] at h
      · cases h
      cases Option.some.inj h
      obtain rfl : st = [] := hs
      rw [Nat.eq_of_beq_eq_true hc] at hr
      exact W.vret hx hb hr (fun T hT _ => ⟨⟨none, t, ws, rfl, rfl, hm, by rw [hT]; exact hP, hD0⟩, hS.F hT⟩) hS.2.2 hdg hlocks
    · cases h
  case ireturn =>
    simp only [xv_end] at h
    split at h
    · rename_i a
      obtain ⟨_, r1, rfl, ⟨n, rfl, hn⟩, rfl⟩ := hs
      cases hc : (Nat.beq rc 1 || (Nat.beq rc 3 && D.2.2.2.2.2 a)) <;> simp only [hc, cond_true, cond_false] at h
      · cases h
      cases Option.some.inj h
      rcases Bool.or_eq_true_iff.mp hc with hc | hc
      · rw [Nat.eq_of_beq_eq_true hc] at hr
        exact W.iret hx hb hr (fun T hT _ => ⟨⟨some (.int n), t, ws, rfl, ⟨_, rfl, n, rfl, hn⟩, hm, by rw [hT]; exact hP, hD0⟩, hS.F hT⟩) hS.2.2 hdg hlocks
      · obtain ⟨c1, c2⟩ := Bool.and_eq_true_iff.mp hc
        rw [Nat.eq_of_beq_eq_true c1] at hr
        have hnar : narrow .boolean (.int n) = .int n := by
          rcases hD.2.2.2.2.2.2.2.2.2.2.2 a n c2 hn with rfl | rfl
          · rfl
          · rfl
        exact W.zret hx hb hr hnar (fun T hT _ => ⟨⟨some (.int n), t, ws, rfl, ⟨_, rfl, n, rfl, hn⟩, hm, by rw [hT]; exact hP, hD0⟩, hS.F hT⟩) hS.2.2 hdg hlocks
    · cases h
  case lreturn =>
    simp only [xv_end] at h
    split at h
    · rename_i a
      obtain ⟨_, r1, rfl, ⟨n, rfl, hn⟩, rfl⟩ := hs
      cases hc : Nat.beq rc 2 <;> simp only [hc, cond_true, cond_false] at h
      · cases h
      cases Option.some.inj h
      rw [Nat.eq_of_beq_eq_true hc] at hr
      exact W.lret hx hb hr (fun T hT _ => ⟨⟨some (.long n), t, ws, rfl, ⟨_, rfl, n, rfl, hn⟩, hm, by rw [hT]; exact hP, hD0⟩, hS.F hT⟩) hS.2.2 hdg hlocks
    · cases h
theorem xs_pure_sw {K : xv_K} {L : xv_L V} {S : List (xv_V V)} {i : Instr} {r : xv_L V × List (xv_V V)} (h : xv_pure D K L S i = some r) : xv_sw i = false := by
  cases i <;> first | rfl | (simp only [xv_pure, reduceCtorEq] at h; done)
theorem xs_mem_sw {K : xv_K} {w ini : Nat} {M : xv_M V} {S : List (xv_V V)} {i : Instr} {r : List (xv_V V) × xv_M V × Nat × Nat} (h : xv_mem D ct at_ K w ini M S i = some r) : xv_sw i = false := by
  cases i <;> first | rfl | (simp only [xv_mem, reduceCtorEq] at h; done)
theorem xs_arg_sw {K : xv_K} {M : xv_M V} {S : List (xv_V V)} {i : Instr} {r : Nat × List (xv_V V) × List (xv_V V)} (h : xv_arg ms K M S i = some r) : xv_sw i = false := by
  cases i <;> first | rfl | (simp only [xv_arg, reduceCtorEq] at h; done)
theorem xs_nat_sw {K : xv_K} {M : xv_M V} {S : List (xv_V V)} {i : Instr} {r : List (xv_V V) × xv_M V} (h : xv_nat D kx.1 K M S i = some r) : xv_sw i = false := by
  cases i <;> first | rfl | (simp only [xv_nat, reduceCtorEq] at h; done)
theorem xs_end_sw {rc : Nat} {S : List (xv_V V)} {i : Instr} {r : Option (xv_V V)} (h : xv_end D rc S i = some r) : xv_sw i = false := by
  cases i <;> first | rfl | (simp only [xv_end, reduceCtorEq] at h; done)
theorem xs_dec {cc : ByteArray} {q : xv_I} (h : xc_dec cc q) (hs : xv_sw q.2 = false) : decode cc q.1 = .ok (q.2, xv_len q.2) := by
  obtain ⟨len, h1, h2⟩ := h
  rcases h2 with h2 | h2
  · rw [hs] at h2; cases h2
  · rw [← h2]; exact h1
set_option maxHeartbeats 4000000 in
/-- ONE STEP in the body of a method -/
theorem xs_step {ρ : Type} (hD : xv_ok D g) (hall : xc_all tb nest cl ct at_ kx.1 kx.2.2.2.1 kcc ms ys) (hchar : xk_Ch l tb kcc kx) (hY : xc_tys cl at_ tys) {d : Nat} {call : Nat → List (xv_V V) → xv_M V → Option (xv_R V)} (hcall : ∀ (j : Nat) (as : List (xv_V V)) (M : xv_M V) (r : xv_R V), call j as M = some r → xm_Con l g tys Dg cl at_ nest kx tb ms ys d j as M r)
    {y : xv_N} {z : xm_Z} {p : Program} {e : Env} {R : Room} {s : State} {m : MethodId} {args : Array Value} {below : List Frame} {meth : Method} {c : Code} {A : Nat → Prop} {Q : State → Prop} {φ0 : List Nat} (hfix : xw_fix Dg cl tys at_ nest kx tb ct ys d y z p R s m args meth c A) (hkF : xk_F kx φ0)
    {fin : Option (xv_V V) → xv_M V → Option ρ} {ih : Nat → List xv_I → xv_L V → List (xv_V V) → xv_M V → Nat → Nat → Option ρ} {r : ρ} {pc : Nat} {cs : List xv_I} {L : xv_L V} {S : List (xv_V V)} {M : xv_M V} {cells slots : Nat}
    (h : xv_step D ct at_ kx.1 ms call y fin ih pc cs L S M cells slots = some r) (hcs : ∀ q ∈ cs, q ∈ y.2.2.2)
    (hih : ∀ (pc : Nat) (cs : List xv_I) (L : xv_L V) (S : List (xv_V V)) (M : xv_M V) (cells slots : Nat), ih pc cs L S M cells slots = some r → (∀ q ∈ cs, q ∈ y.2.2.2) → xw_st p l e R s m args below meth c Q g Dg cl tys kx A φ0 y pc L S M cells slots)
    (hfin : ∀ (i : Instr) (pc : Nat) (L : xv_L V) (S : List (xv_V V)) (M : xv_M V) (cells slots : Nat) (rv : Option (xv_V V)), xv_end D y.2.1.2.2.1 S i = some rv → fin rv M = some r → decode z.2.1 pc = .ok (i, xv_len i) → xw_st p l e R s m args below meth c Q g Dg cl tys kx A φ0 y pc L S M cells slots) :
    xw_st p l e R s m args below meth c Q g Dg cl tys kx A φ0 y pc L S M cells slots := by
  obtain ⟨hx, hb, hml, hown, ⟨w0, hts⟩, hK, hkw, ⟨r1, r2, r3, r4⟩, hA, hname, h6, h7, h8, h9, hF, hN, hcst, hstr, hMt⟩ := hfix
  have htb : ∀ w ∈ tb, w ∈ (w0 :: tb) := fun w hw => List.mem_cons_of_mem _ hw
  obtain ⟨⟨m1, m2, m3, m4⟩, n1, n2, n3, n4, n5⟩ := hall.2.2.2.1
  intro hc1 hc2 t ws H locs ls st hm hP hD0 hS hl hs
  cases cs with
  | nil => cases h
  | cons q cs =>
    unfold xv_step at h
    dsimp only at h
    have hcs' : ∀ q ∈ cs, q ∈ y.2.2.2 := fun q hq => hcs q (List.mem_cons_of_mem _ hq)
    have hdec := h9 q (hcs q List.mem_cons_self)
    cases hpc : Nat.beq q.1 pc <;> simp only [hpc, cond_true, cond_false] at h
    · cases h
    obtain rfl : q.1 = pc := Nat.eq_of_beq_eq_true hpc
    have hlsz : ls.size = y.2.1.2.1 := by obtain ⟨-, lv, hlv, -⟩ := hl; exact hlv.1
    split at h
    · rename_i LS hLS
      refine xs_pure hx hb hown hD (fun i v hv => hts _ (htb _ (hcst.1 i v hv))) (fun i v hv => hts _ (htb _ (hcst.2 i v hv))) (fun i n hn h2000 => ?_) hLS (xs_dec hdec (xs_pure_sw hLS)) hl hs (fun ls' st' hl' hs' => ?_)
      · obtain ⟨g1, tx, g2⟩ := hstr i n hn h2000
        exact ⟨tx, _, hK.2.2.2.1 _ g2, hkF.mono.1 _ g1⟩
      exact hih _ _ _ _ _ _ _ h hcs' hc1 hc2 t ws H locs ls' st' hm hP hD0 hS hl' hs'
    · split at h
      · rename_i tS htS
        obtain ⟨len, d1, d2⟩ := hdec
        refine xs_br hx hb hD htS d1 d2 hs (fun st' hs' => ?_)
        exact hih _ _ _ _ _ _ _ h (fun q hq => xv_to_mem hq) hc1 hc2 t ws H locs ls st' hm hP hD0 hS hl hs'
      · split at h
        · rename_i T hT
          cases hr1 : Nat.ble (cells + T.2.2.1) y.2.2.1.1 <;> simp only [hr1, Bool.true_and, Bool.false_and, cond_true, cond_false] at h
          · cases h
          cases hr2 : Nat.ble (slots + T.2.2.2) y.2.2.1.2 <;> simp only [hr2, cond_true, cond_false] at h
          · cases h
          have q1 := Nat.le_of_ble_eq_true hr1
          have q2 := Nat.le_of_ble_eq_true hr2
          refine xs_mem hx hb hown hts htb hD hall.2.1 hF hN hY hK.2.1 hall.2.2.1 (fun z => hname.trans (h7 z)) h8 hK.1 hA (fun k q o hC hq => ?_) hT (xs_dec hdec (xs_mem_sw hT)) hm hP hD0 hS hs (by rw [r3]; exact q1) (by rw [r4]; exact q2) (fun t' ws' H' locs' st' hm' hP' hD' hS' hs' => ?_)
          · obtain ⟨c1, c2, c3⟩ := hC
            cases Option.some.inj (hq.symm.trans (hkF.mono.2 k c1))
            exact ⟨_, _, (hkw.2 k c1).1, (hkw.2 k c1).2.1, (hkw.2 k c1).2.2, c2, fun j v hv => by
              obtain ⟨a, rfl, ha⟩ := c3 j v hv
              exact ⟨_, rfl, ha⟩⟩
          rw [List.append_assoc] at hm' hs'
          exact hih _ _ _ _ _ _ _ h hcs' q1 q2 (t ++ t') ws' H' locs' ls st' hm' hP' hD' hS' (by rw [← List.append_assoc]; exact xr_l_mono hl) hs'
        · split at h
          · rename_i Ar hAr
            split at h
            · rename_i zz hzz
              cases hr1 : Nat.ble (cells + zz.2.2.1.1) y.2.2.1.1 <;> simp only [hr1, Bool.true_and, Bool.false_and, cond_true, cond_false] at h
              · cases h
              cases hr2 : Nat.ble (slots + zz.2.2.1.2) y.2.2.1.2 <;> simp only [hr2, cond_true, cond_false] at h
              · cases h
              have q1 := Nat.le_of_ble_eq_true hr1
              have q2 := Nat.le_of_ble_eq_true hr2
              split at h
              · rename_i rr hrr
                refine xs_call hx hb hml hlsz hown hts hall hMt hK hkw hkF.mono r1 r2 hA hAr hzz (hcall _ _ _ _ hrr) (xs_dec hdec (xs_arg_sw hAr)) hm hP hD0 hS hs (by rw [r3]; exact q1) (by rw [r4]; exact q2) (fun t' ws' H' locs' st' hm' hP' hD' hS' hs' => ?_)
                rw [List.append_assoc] at hm' hs'
                exact hih _ _ _ _ _ _ _ h hcs' q1 q2 (t ++ t') ws' H' locs' ls st' hm' hP' hD' hS' (by rw [← List.append_assoc]; exact xr_l_mono hl) hs'
              · cases h
            · cases h
          · split at h
            · rename_i T hT
              refine xs_nat hx hb (by rw [hml, hlsz]) hown hD hY (fun i j hj => hts _ (htb _ ((hMt i 5 j hj).2.2.2.2.2.1 rfl))) (hts _ (htb _ n1)) (hts _ (htb _ n2)) (fun i j hj => hts _ (htb _ ((hMt i 6 j hj).2.2.2.2.2.2 rfl))) (hts _ (htb _ n3)) (hts _ (htb _ n4)) (hts _ (htb _ n5)) (fun i j n k cs b x q rest g1 g2 g3 g4 g5 g6 g7 g8 kk => ?_) (by omega) (by omega) hK.1 hT (xs_dec hdec (xs_nat_sw hT)) hm hP hD0 hS hs (fun ws' H' locs' st' hm' hP' hD' hS' hs' => ?_)
              · have hn : n < kx.1.length := (List.getElem?_eq_some_iff.mp g2).1
                cases Option.some.inj (g6.symm.trans (hkF.mono.1 n hn))
                refine W.callR (W.runV (C := "java/lang/String") (As := [.int x]) (rest := rest) ⟨hx, hb, hml, hown, hts⟩ (hchar A n k cs b x g2 g3 g4 g5) ⟨callB_of 1 hts (xc_good hall.1 m4) rfl rfl rfl (hts _ (htb _ m3)) (hts _ (htb _ ((hMt i 4 j g1).2.2.2.2.1 rfl))) (by decide +kernel) ⟨by show 4 + 1 ≤ R.frames; omega, by show 8 + (2 + 11) + 160 ≤ R.locals; omega⟩, hts _ (htb _ m1), hts _ (htb _ m2)⟩ ⟨fun a U g mk q => ⟨q.1, xk_T.moved (u := U) (U := U.calling g mk a) (Vm.Alike.refl U.vm) q.2⟩, vk_recv hkw.1.1 hn hS, fun U hU hW => ⟨rfl, by show xk_T kx A U U.heap; rw [hU]; exact xk_T.moved hW.alike (xk_T.kept hkw.1 hS.2.1)⟩⟩ rfl rfl hlsz rfl ?_ g8 ⟨by rw [r3]; exact hc1, by rw [r4]; exact hc2⟩) kk
                show 2 * 0 + _ ≤ 8
                omega
              exact hih _ _ _ _ _ _ _ h hcs' hc1 hc2 t ws' H' locs' ls st' hm' hP' hD' hS' hl hs'
            · split at h
              · rename_i rv hrv
                exact hfin _ _ _ _ _ _ _ _ hrv h (xs_dec hdec (xs_end_sw hrv)) hc1 hc2 t ws H locs ls st hm hP hD0 hS hl hs
              · cases h
/-- UP TO AN INSTRUCTION of the body -/
theorem xs_seg (hD : xv_ok D g) (hall : xc_all tb nest cl ct at_ kx.1 kx.2.2.2.1 kcc ms ys) (hchar : xk_Ch l tb kcc kx) (hY : xc_tys cl at_ tys) {d : Nat} {call : Nat → List (xv_V V) → xv_M V → Option (xv_R V)} (hcall : ∀ (j : Nat) (as : List (xv_V V)) (M : xv_M V) (r : xv_R V), call j as M = some r → xm_Con l g tys Dg cl at_ nest kx tb ms ys d j as M r)
    {y : xv_N} {z : xm_Z} {p : Program} {e : Env} {R : Room} {s : State} {m : MethodId} {args : Array Value} {below : List Frame} {meth : Method} {c : Code} {A : Nat → Prop} {Q : State → Prop} {φ0 : List Nat} (hfix : xw_fix Dg cl tys at_ nest kx tb ct ys d y z p R s m args meth c A) (hkF : xk_F kx φ0) {stop : Nat} {r : xv_L V × List (xv_V V) × xv_M V × Nat × Nat}
    (hr : xw_st p l e R s m args below meth c Q g Dg cl tys kx A φ0 y stop r.1 r.2.1 r.2.2.1 r.2.2.2.1 r.2.2.2.2) :
    ∀ (n pc : Nat) (cs : List xv_I) (L : xv_L V) (S : List (xv_V V)) (M : xv_M V) (cells slots : Nat), xv_seg D ct at_ kx.1 ms call y stop n pc cs L S M cells slots = some r → (∀ q ∈ cs, q ∈ y.2.2.2) → xw_st p l e R s m args below meth c Q g Dg cl tys kx A φ0 y pc L S M cells slots := by
  intro n
  induction n with
  | zero => intro pc cs L S M cells slots h; cases h
  | succ n ih =>
    intro pc cs L S M cells slots h hcs
    have h : xv_step D ct at_ kx.1 ms call y (fun _ _ => none) (fun pc cs L S M c s => bif Nat.beq pc stop then some (L, S, M, c, s) else xv_seg D ct at_ kx.1 ms call y stop n pc cs L S M c s) pc cs L S M cells slots = some r := h
    refine xs_step hD hall hchar hY hcall hfix hkF h hcs (fun pc cs L S M cells slots h hcs => ?_) (fun i pc L S M cells slots rv h1 h2 h3 => by cases h2)
    cases hpc : Nat.beq pc stop <;> simp only [hpc, cond_true, cond_false] at h
    · exact ih _ _ _ _ _ _ _ h hcs
    · cases Option.some.inj h
      rw [Nat.eq_of_beq_eq_true hpc]
      exact hr
/-- THE BODY of a method, by its steps; hend: what its end gives -/
theorem xs_loop (hD : xv_ok D g) (hall : xc_all tb nest cl ct at_ kx.1 kx.2.2.2.1 kcc ms ys) (hchar : xk_Ch l tb kcc kx) (hY : xc_tys cl at_ tys) {d : Nat} {call : Nat → List (xv_V V) → xv_M V → Option (xv_R V)} (hcall : ∀ (j : Nat) (as : List (xv_V V)) (M : xv_M V) (r : xv_R V), call j as M = some r → xm_Con l g tys Dg cl at_ nest kx tb ms ys d j as M r)
    {y : xv_N} {z : xm_Z} {p : Program} {e : Env} {R : Room} {s : State} {m : MethodId} {args : Array Value} {below : List Frame} {meth : Method} {c : Code} {A : Nat → Prop} {Q : State → Prop} {φ0 : List Nat} (hfix : xw_fix Dg cl tys at_ nest kx tb ct ys d y z p R s m args meth c A) (hkF : xk_F kx φ0) {r : xv_R V}
    (hend : ∀ (i : Instr) (pc : Nat) (L : xv_L V) (S : List (xv_V V)) (cells slots : Nat), xv_end D y.2.1.2.2.1 S i = some r.1 → decode z.2.1 pc = .ok (i, xv_len i) → xw_st p l e R s m args below meth c Q g Dg cl tys kx A φ0 y pc L S r.2 cells slots) :
    ∀ (n pc : Nat) (cs : List xv_I) (L : xv_L V) (S : List (xv_V V)) (M : xv_M V) (cells slots : Nat), xv_loop D ct at_ kx.1 ms call y n pc cs L S M cells slots = some r → (∀ q ∈ cs, q ∈ y.2.2.2) → xw_st p l e R s m args below meth c Q g Dg cl tys kx A φ0 y pc L S M cells slots := by
  intro n
  induction n with
  | zero => intro pc cs L S M cells slots h; cases h
  | succ n ih =>
    intro pc cs L S M cells slots h hcs
    have h : xv_step D ct at_ kx.1 ms call y (fun r M => some (r, M)) (xv_loop D ct at_ kx.1 ms call y n) pc cs L S M cells slots = some r := h
    refine xs_step hD hall hchar hY hcall hfix hkF h hcs (fun pc cs L S M cells slots h hcs => ih _ _ _ _ _ _ _ h hcs) (fun i pc L S M cells slots rv h1 h2 h3 => ?_)
    cases Option.some.inj h2
    exact hend i pc L S cells slots h1 h3
/-- a contract out of the walk of the body -/
theorem xm_of (hall : xc_all tb nest cl ct at_ kx.1 kx.2.2.2.1 kcc ms ys) {d j : Nat} {as : List (xv_V V)} {M : xv_M V} {r : xv_R V}
    (h : ∀ (y : xv_N) (z : xm_Z), ms[j]? = some y → ys[j]? = some z → ∀ {p : Program} {e : Env} {s : State} {m : MethodId} {args : Array Value} {below : List Frame} {meth : Method} {c : Code} {A : Nat → Prop} {φ0 : List Nat}, xw_fix Dg cl tys at_ nest kx tb ct ys d y z p (xm_rm (d + 1) y) s m args meth c A → xk_F kx φ0 → meth.sig.returnType = z.2.2 → meth.locks = false →
      xv_cats as ≤ y.2.1.2.1 ∧ xw_st p l e (xm_rm (d + 1) y) s m args below meth c (MQ below (xm_Q (xk_c g kx) g tys Dg cl r φ0 A) args s y.2.2.1.1 y.2.2.1.2 A) g Dg cl tys kx A φ0 y 0 (xv_in as y.2.1.2.1) [] M 0 0) :
    xm_Con l g tys Dg cl at_ nest kx tb ms ys (d + 1) j as M r := by
  intro y z hy hz φ ws vals sz hm hs hkF
  obtain ⟨z2, hz2, hone⟩ := hall.2.2.2.2 j y hy
  cases Option.some.inj (hz2.symm.trans hz)
  refine Met.ofW (cc := z.2.1) (maxL := y.2.1.2.1) (ret := z.2.2) hone.1 rfl ?_
  intro p e s m args below meth c s₁ B hml hv
  obtain ⟨rfl, hsz, hP, hK, hD0, hkw⟩ := hv
  subst hsz
  have hD1 := hD0.self (sz := s.heap.size)
  obtain ⟨hle, hst⟩ := h y z hy hz (p := p) (e := e) (below := below) (A := va_A ws s.heap.size) (φ0 := φ) ⟨B.exec, B.bytes, hml, findClass_of_methodNamed B.named, ⟨_, atoms_spec B.pre⟩, hK, hkw, ⟨Nat.le_refl _, Nat.le_refl _, rfl, rfl⟩, fun q hq => Or.inr hq, (name_of_methodNamed B.named B.method).1, hone.2.2.2.2.2⟩ hkF B.returns B.notSynchronized
  have hl := lv_entry vals (n := y.2.1.2.1) (by rw [xr_s_sl hs]; exact hle)
  rw [lg_entry_eq]
  refine hst (Nat.zero_le _) (Nat.zero_le _) [] ws s.heap [] _ _ (by rw [List.append_nil]; exact hm) hP hD1 va_S.rf ?_ rfl
  rw [List.append_nil]
  refine ⟨xv_in_len as _ hle, _, hl, fun i v hi => ?_⟩
  obtain ⟨x, hx1, hx2⟩ := xv_in_at 0 y.2.1.2.1 i hs hi
  exact ⟨x, by rw [Nat.zero_add] at hx1; exact hx1, hx2⟩
/-- THE PURE MACHINE IS RIGHT: what it runs, the method does -/
theorem xs_run (hD : xv_ok D g) (hall : xc_all tb nest cl ct at_ kx.1 kx.2.2.2.1 kcc ms ys) (hchar : xk_Ch l tb kcc kx) (hY : xc_tys cl at_ tys) {ext : Nat → Nat → List (xv_V V) → xv_M V → Option (xv_R V)} (hext : ∀ (d j : Nat) (as : List (xv_V V)) (M : xv_M V) (r : xv_R V), ext d j as M = some r → xm_Con l g tys Dg cl at_ nest kx tb ms ys d j as M r) (fuel : Nat) :
    ∀ (d j : Nat) (as : List (xv_V V)) (M : xv_M V) (r : xv_R V), xv_run D ct at_ kx.1 ms ext fuel d j as M = some r → xm_Con l g tys Dg cl at_ nest kx tb ms ys d j as M r := by
  intro d
  induction d with
  | zero => intro j as M r h; cases h
  | succ d ih =>
    intro j as M r h
    have h : (match ext (d + 1) j as M with
      | some r => some r
      | none => match ms[j]? with
        | some y => bif Nat.ble (xv_cats as) y.2.1.2.1 then xv_loop D ct at_ kx.1 ms (xv_run D ct at_ kx.1 ms ext fuel d) y fuel 0 y.2.2.2 (xv_in as y.2.1.2.1) [] M 0 0 else none
        | none => none) = some r := h
    split at h
    · rename_i r' hr'
      cases Option.some.inj h
      exact hext _ _ _ _ _ hr'
    · refine xm_of hall (fun y z hy hz => ?_)
      intro p e s m args below meth c A φ0 hfix hkF hret hlocks
      rw [hy] at h
      dsimp only at h
      cases hc : Nat.ble (xv_cats as) y.2.1.2.1 <;> simp only [hc, cond_true, cond_false] at h
      · cases h
      refine ⟨Nat.le_of_ble_eq_true hc, xs_loop hD hall hchar hY ih hfix hkF (fun i pc L S cells slots h1 h2 => ?_) fuel 0 _ _ _ _ 0 0 h (fun q hq => hq)⟩
      intro hc1 hc2 t ws H locs ls st hm hP hD0 hS hl hs
      obtain ⟨hx, hb, -, -, -, -, -, -, -, -, hbod⟩ := hfix
      exact xs_end hD hx hb (by rw [hret]; exact hbod.1.symm) hlocks h1 h2 hm hP hD0 hS hs hc1 hc2
end XSW
end
section
abbrev xq_cCA : ByteArray := prog_22_method_56_code
def xq_yCA : MethodName := ⟨"java/lang/String", "charAt", "(I)C"⟩
abbrev xq_cIL : ByteArray := prog_22_method_154_code
def xq_yIL : MethodName := ⟨"java/lang/String", "isLatin1", "()Z"⟩
abbrev xq_cLA : ByteArray := prog_23_method_2_code
def xq_yLA : MethodName := ⟨"java/lang/StringLatin1", "charAt", "([BI)C"⟩
abbrev xq_cCK : ByteArray := prog_22_method_155_code
def xq_yCK : MethodName := ⟨"java/lang/String", "checkIndex", "(II)V"⟩
abbrev xq_cPC : ByteArray := prog_30_method_11_code
def xq_yPC : MethodName := ⟨"jdk/internal/util/Preconditions", "checkIndex", "(IILjava/util/function/BiFunction;)I"⟩
theorem xq_dCA_0 : decode xq_cCA 0 = .ok (.aload_n 0, 1) := by decide +kernel
theorem xq_dCA_1 : decode xq_cCA 1 = .ok (.invokevirtual 492, 3) := by decide +kernel
theorem xq_dCA_4 : decode xq_cCA 4 = .ok (.ifCond .eq 12, 3) := by decide +kernel
theorem xq_dCA_7 : decode xq_cCA 7 = .ok (.aload_n 0, 1) := by decide +kernel
theorem xq_dCA_8 : decode xq_cCA 8 = .ok (.getfield 9, 3) := by decide +kernel
theorem xq_dCA_11 : decode xq_cCA 11 = .ok (.iload_n 1, 1) := by decide +kernel
theorem xq_dCA_12 : decode xq_cCA 12 = .ok (.invokestatic 495, 3) := by decide +kernel
theorem xq_dCA_15 : decode xq_cCA 15 = .ok (.ireturn, 1) := by decide +kernel
theorem xq_dIL_0 : decode xq_cIL 0 = .ok (.getstatic 38, 3) := by decide +kernel
theorem xq_dIL_3 : decode xq_cIL 3 = .ok (.ifCond .eq 14, 3) := by decide +kernel
theorem xq_dIL_6 : decode xq_cIL 6 = .ok (.aload_n 0, 1) := by decide +kernel
theorem xq_dIL_7 : decode xq_cIL 7 = .ok (.getfield 15, 3) := by decide +kernel
theorem xq_dIL_10 : decode xq_cIL 10 = .ok (.ifCond .ne 7, 3) := by decide +kernel
theorem xq_dIL_13 : decode xq_cIL 13 = .ok (.iconst 1, 1) := by decide +kernel
theorem xq_dIL_14 : decode xq_cIL 14 = .ok (.goto 4, 3) := by decide +kernel
theorem xq_dIL_17 : decode xq_cIL 17 = .ok (.iconst 0, 1) := by decide +kernel
theorem xq_dIL_18 : decode xq_cIL 18 = .ok (.ireturn, 1) := by decide +kernel
theorem xq_dLA_0 : decode xq_cLA 0 = .ok (.iload_n 1, 1) := by decide +kernel
theorem xq_dLA_1 : decode xq_cLA 1 = .ok (.aload_n 0, 1) := by decide +kernel
theorem xq_dLA_2 : decode xq_cLA 2 = .ok (.arraylength, 1) := by decide +kernel
theorem xq_dLA_3 : decode xq_cLA 3 = .ok (.invokestatic 9, 3) := by decide +kernel
theorem xq_dLA_6 : decode xq_cLA 6 = .ok (.aload_n 0, 1) := by decide +kernel
theorem xq_dLA_7 : decode xq_cLA 7 = .ok (.iload_n 1, 1) := by decide +kernel
theorem xq_dLA_8 : decode xq_cLA 8 = .ok (.baload, 1) := by decide +kernel
theorem xq_dLA_9 : decode xq_cLA 9 = .ok (.sipush 255, 3) := by decide +kernel
theorem xq_dLA_12 : decode xq_cLA 12 = .ok (.iand, 1) := by decide +kernel
theorem xq_dLA_13 : decode xq_cLA 13 = .ok (.i2c, 1) := by decide +kernel
theorem xq_dLA_14 : decode xq_cLA 14 = .ok (.ireturn, 1) := by decide +kernel
theorem xq_dCK_0 : decode xq_cCK 0 = .ok (.iload_n 0, 1) := by decide +kernel
theorem xq_dCK_1 : decode xq_cCK 1 = .ok (.iload_n 1, 1) := by decide +kernel
theorem xq_dCK_2 : decode xq_cCK 2 = .ok (.getstatic 1053, 3) := by decide +kernel
theorem xq_dCK_5 : decode xq_cCK 5 = .ok (.invokestatic 1059, 3) := by decide +kernel
theorem xq_dCK_8 : decode xq_cCK 8 = .ok (.pop, 1) := by decide +kernel
theorem xq_dCK_9 : decode xq_cCK 9 = .ok (.return_, 1) := by decide +kernel
theorem xq_dPC_0 : decode xq_cPC 0 = .ok (.iload_n 0, 1) := by decide +kernel
theorem xq_dPC_1 : decode xq_cPC 1 = .ok (.ifCond .lt 8, 3) := by decide +kernel
theorem xq_dPC_4 : decode xq_cPC 4 = .ok (.iload_n 0, 1) := by decide +kernel
theorem xq_dPC_5 : decode xq_cPC 5 = .ok (.iload_n 1, 1) := by decide +kernel
theorem xq_dPC_6 : decode xq_cPC 6 = .ok (.if_icmp .lt 10, 3) := by decide +kernel
theorem xq_dPC_16 : decode xq_cPC 16 = .ok (.iload_n 0, 1) := by decide +kernel
theorem xq_dPC_17 : decode xq_cPC 17 = .ok (.ireturn, 1) := by decide +kernel
def xq_Zn : String := "Ljava/util/function/BiFunction;"
/-- the words that charAt's walk wants -/
def xq_ws : List Jvm.Cond := [.initialized "java/lang/String", .initialized "java/lang/StringLatin1", .initialized "jdk/internal/util/Preconditions", .fieldLink "java/lang/String" 38 "java/lang/String" "COMPACT_STRINGS" "Z", .fieldLink "java/lang/String" 15 "java/lang/String" "coder" "B", .fieldLink "java/lang/String" 9 "java/lang/String" "value" "[B", .methodLink "java/lang/String" 492 xq_yIL, .instanceMethod xq_yIL, .selects "java/lang/String" xq_yIL xq_yIL, .methodLink "java/lang/String" 495 xq_yLA, .static xq_yLA, .methodLink "java/lang/StringLatin1" 9 xq_yCK, .static xq_yCK, .fieldLink "java/lang/String" 1053 "jdk/internal/util/Preconditions" "SIOOBE_FORMATTER" "Ljava/util/function/BiFunction;", .methodLink "java/lang/String" 1059 xq_yPC, .static xq_yPC, .code xq_yIL xq_cIL 1 (some .boolean), .code xq_yLA xq_cLA 2 (some .char), .code xq_yCK xq_cCK 2 none, .code xq_yPC xq_cPC 3 (some .int)]
def xq_V : Array Value → State → Outcome → State → Prop := fun _ st o t => o = .returned none ∧ t.heap = st.heap
def xq_rm (f w : Nat) : Room := { frames := f, cells := 0, slots := 0, locals := w }
section XQ
variable {p : Program} {l : Launch} {e : Env} {R : Room} {s : State} {m : MethodId} {args : Array Value} {below : List Frame} {meth : Method} {c : Code} {H : Heap} {locs : List Loc} {cells slots : Nat} {Q : State → Prop} {g : JFrame} {rest : List Value} {a : Array Value}
theorem xq_callN (hr : CallRun p l e R s m args below meth c H locs cells slots 0 0 g rest (xq_V a) (fun _ => False)) (kk : W p l e R s m args below meth c H locs cells slots Q { g with pc := g.pc + 3, stack := rest }) : W p l e R s m args below meth c H locs cells slots Q g := by
  intro T hT X
  obtain ⟨v, st₀, t, T', L, h0, X', hL, e1, ⟨hv, hh⟩, st⟩ := hr T hT X
  cases hv
  obtain ⟨t2, a1, b1⟩ := kk T' (by rw [e1, hh, h0]) (Stand.forget X' (fun q h => (hL q h).elim))
  exact ⟨t2, st t2 a1, b1⟩
end XQ
section XQ2
variable {l : Launch} {tb : List Jvm.Cond}
theorem xq_PC (v : Value) (hv : v = .null ∨ ∃ t : Nat, v = .ref t) {x n : Int32} (h0 : ¬ x < 0) (h1 : x < n) : Met l xq_yPC (.code xq_yPC xq_cPC 3 (some .int) :: tb) (xq_rm 1 22) (va_Pc [.int x, .int n, v] (fun _ => True)) (QcRead x) 0 0 (fun _ => False) := by
  refine Met.ofW (cc := xq_cPC) (maxL := 3) (ret := some .int) (by decide) rfl ?_
  intro p e s m args below meth c s₁ B hml hpc
  obtain ⟨rfl, -⟩ := hpc
  have hx := B.exec
  have hb := B.bytes
  have hlen : (lg_sl [.int x, .int n, v]).length = 3 := by rcases hv with rfl | ⟨t, rfl⟩ <;> rfl
  have hl := lv_entry [.int x, .int n, v] (n := 3) (by rw [hlen]; exact Nat.le_refl _)
  rw [lg_entry_eq]
  generalize (lg_sl [Value.int x, Value.int n, v] ++ List.replicate (3 - (lg_sl [Value.int x, Value.int n, v]).length) Slot.unset).toArray = ls at hl ⊢
  have hl : lv_has ls 3 (lv_args 0 [.int x, .int n, v]) := hl
  refine lv_iload_n (x := x) hx hb xq_dPC_0 rfl (lv_at hl 0 rfl) ?_
  refine lv_if_lt hx hb (tgt := 9) xq_dPC_1 rfl (fun q => absurd q h0) (fun _ => ?_)
  refine lv_iload_n (x := x) hx hb xq_dPC_4 rfl (lv_at hl 0 rfl) ?_
  refine lv_iload_n (x := n) hx hb xq_dPC_5 rfl (lv_at hl 1 rfl) ?_
  refine lv_icmp_lt hx hb (tgt := 16) xq_dPC_6 rfl (fun _ => ?_) (fun q => absurd h1 q)
  refine lv_iload_n (x := x) hx hb xq_dPC_16 rfl (lv_at hl 0 rfl) ?_
  exact W.iret hx hb B.returns (fun t ht _ => ⟨rfl, ht⟩) (fun q hq => absurd hq List.not_mem_nil) xq_dPC_17
theorem xq_CK (hg : ∀ w ∈ tb, goodWord w = true) (hin : ∀ w ∈ xq_ws, w ∈ tb) (A : Nat → Prop) {x n : Int32} (h0 : ¬ x < 0) (h1 : x < n) : Met l xq_yCK (.code xq_yCK xq_cCK 2 none :: tb) (xq_rm 2 44) (va_Pc [.int x, .int n] (fun U => va_Zq "jdk/internal/util/Preconditions" "SIOOBE_FORMATTER" "Ljava/util/function/BiFunction;" A U U.heap)) xq_V 0 0 (fun _ => False) := by
  refine Met.ofW (cc := xq_cCK) (maxL := 2) (ret := none) (by decide) rfl ?_
  intro p e s m args below meth c s₁ B hml hpc
  obtain ⟨rfl, hZ⟩ := hpc
  have hx := B.exec
  have hb := B.bytes
  have hown : s.vm.findClass "java/lang/String" = some m.cls := findClass_of_methodNamed B.named
  have hts := atoms_spec (ws := .code xq_yCK xq_cCK 2 none :: tb) B.pre
  have ht : ∀ w ∈ xq_ws, w.before #[Value.int x, .int n] s = true := fun w hw => hts w (List.mem_cons_of_mem _ (hin w hw))
  have hl := lv_entry [.int x, .int n] (n := 2) (Nat.le_refl _)
  rw [lg_entry_eq]
  generalize (lg_sl [Value.int x, Value.int n] ++ List.replicate (2 - (lg_sl [Value.int x, Value.int n]).length) Slot.unset).toArray = ls at hl ⊢
  have hl : lv_has ls 2 [(0, .int x), (1, .int n)] := hl
  have hG : GoodIn (.code xq_yCK xq_cCK 2 none :: tb) (.code xq_yPC xq_cPC 3 (some .int) :: tb) := xc_good hg (hin _ (List.mem_of_getElem? (i := 19) rfl))
  have go : ∀ v : Value, (v = .null ∨ ∃ t : Nat, v = .ref t) → va_Z "jdk/internal/util/Preconditions" "SIOOBE_FORMATTER" "Ljava/util/function/BiFunction;" v A s s.heap → W p l e (xq_rm 2 44) s m #[.int x, .int n] below meth c s.heap [] 0 0 (MQ below xq_V #[.int x, .int n] s 0 0 (fun _ => False)) (F0 m 0 ls []) := by
    intro v hv hZ
    refine lv_iload_n (x := x) hx hb xq_dCK_0 rfl (lv_at hl 0 rfl) ?_
    refine lv_iload_n (x := n) hx hb xq_dCK_1 rfl (lv_at hl 1 rfl) ?_
    refine va_gets hx hb hZ va_S.rf hown (ht _ (List.mem_of_getElem? (i := 13) rfl)) (fun _ h9 => h9) xq_dCK_2 ?_
    refine W.callR (W.runS (As := [.int x, .int n, v]) (rest := []) ⟨hx, hb, hml, hown, hts⟩ (xq_PC v hv h0 h1) ⟨callB_of 3 hts hG rfl rfl rfl (ht _ (List.mem_of_getElem? (i := 2) rfl)) (ht _ (List.mem_of_getElem? (i := 14) rfl)) (by decide +kernel) ⟨Nat.le_of_ble_eq_true rfl, Nat.le_of_ble_eq_true rfl⟩, ht _ (List.mem_of_getElem? (i := 15) rfl)⟩ ⟨fun a U g mk q => ⟨q.1, trivial⟩, fun U hU hW => ⟨rfl, trivial⟩⟩ rfl rfl hl.1 rfl (Nat.le_of_ble_eq_true rfl) xq_dCK_5 ⟨Nat.le_refl _, Nat.le_refl _⟩) ?_
    refine lv_pop (pc := 8) hx hb xq_dCK_8 rfl ?_
    exact W.vret hx hb B.returns (fun t ht _ => ⟨rfl, ht⟩) (fun q hq => absurd hq List.not_mem_nil) xq_dCK_9
  rcases hZ with h | ⟨t, h⟩
  · exact go .null (Or.inl rfl) h
  · exact go (.ref t) (Or.inr ⟨t, rfl⟩) h
theorem xq_LA (hg : ∀ w ∈ tb, goodWord w = true) (hin : ∀ w ∈ xq_ws, w ∈ tb) (A : Nat → Prop) {t N : Nat} {f : Nat → Value} {x b : Int32} (h0 : ¬ x < 0) (hk : x.toNatClampNeg < N) (hN : N < 2 ^ 31) (hf : f x.toNatClampNeg = .int b) (hc1 : ((b &&& 255).toUInt32 % 65536).toInt32 = b &&& 255) (hc2 : narrow .char (.int (b &&& 255)) = .int (b &&& 255)) :
    Met l xq_yLA (.code xq_yLA xq_cLA 2 (some .char) :: tb) (xq_rm 3 70) (va_Pc [.ref t, .int x] (fun U => va_T .byte t N f A U U.heap ∧ va_Zq "jdk/internal/util/Preconditions" "SIOOBE_FORMATTER" "Ljava/util/function/BiFunction;" A U U.heap)) (QcRead (b &&& 255)) 0 0 (fun _ => False) := by
  refine Met.ofW (cc := xq_cLA) (maxL := 2) (ret := some .char) (by decide) rfl ?_
  intro p e s m args below meth c s₁ B hml hpc
  obtain ⟨rfl, hT, hZ⟩ := hpc
  have hx := B.exec
  have hb := B.bytes
  have hown : s.vm.findClass "java/lang/StringLatin1" = some m.cls := findClass_of_methodNamed B.named
  have hts := atoms_spec (ws := .code xq_yLA xq_cLA 2 (some .char) :: tb) B.pre
  have ht : ∀ w ∈ xq_ws, w.before #[Value.ref t, .int x] s = true := fun w hw => hts w (List.mem_cons_of_mem _ (hin w hw))
  have hl := lv_entry [.ref t, .int x] (n := 2) (Nat.le_refl _)
  rw [lg_entry_eq]
  generalize (lg_sl [Value.ref t, Value.int x] ++ List.replicate (2 - (lg_sl [Value.ref t, Value.int x]).length) Slot.unset).toArray = ls at hl ⊢
  have hl : lv_has ls 2 [(0, .ref t), (1, .int x)] := hl
  have hG : GoodIn (.code xq_yLA xq_cLA 2 (some .char) :: tb) (.code xq_yCK xq_cCK 2 none :: tb) := xc_good hg (hin _ (List.mem_of_getElem? (i := 18) rfl))
  have hlt : x < Int32.ofNat N := by
    rw [Int32.lt_iff_toInt_lt, Int32.toInt_ofNat_of_lt hN]
    have h2 : ¬ x.toInt < 0 := fun q => h0 (Int32.lt_iff_toInt_lt.mpr q)
    have h3 : x.toNatClampNeg = x.toInt.toNat := rfl
    omega
  refine lv_iload_n (x := x) hx hb xq_dLA_0 rfl (lv_at hl 1 rfl) ?_
  refine lv_aload_n (x := t) hx hb xq_dLA_1 rfl (lv_at hl 0 rfl) ?_
  refine va_tlen hx hb hT va_S.rf rfl xq_dLA_2 ?_
  refine xq_callN (W.runS (As := [.int x, .int (Int32.ofNat N)]) (rest := []) ⟨hx, hb, hml, hown, hts⟩ (xq_CK hg hin A h0 hlt) ⟨callB_of 2 hts hG rfl rfl rfl (ht _ (List.mem_of_getElem? (i := 0) rfl)) (ht _ (List.mem_of_getElem? (i := 11) rfl)) (by decide +kernel) ⟨Nat.le_of_ble_eq_true rfl, Nat.le_of_ble_eq_true rfl⟩, ht _ (List.mem_of_getElem? (i := 12) rfl)⟩ ⟨fun a U g mk q => ⟨q.1, va_Zq.moved (u := U) (U := U.calling g mk a) (Vm.Alike.refl U.vm) q.2⟩, fun U hU hW => ⟨rfl, by show va_Zq _ _ _ A U U.heap; rw [hU]; exact va_Zq.moved hW.alike hZ⟩⟩ rfl rfl hl.1 rfl (Nat.le_of_ble_eq_true rfl) xq_dLA_3 ⟨Nat.le_refl _, Nat.le_refl _⟩) ?_
  refine lv_aload_n (pc := 6) (x := t) hx hb xq_dLA_6 rfl (lv_at hl 0 rfl) ?_
  refine lv_iload_n (x := x) hx hb xq_dLA_7 rfl (lv_at hl 1 rfl) ?_
  refine va_tb hx hb hT va_S.rf (fun q => q.elim h0 (fun q => absurd hk (Nat.not_lt.mpr q))) hf xq_dLA_8 ?_
  refine lv_sipush (v := 255) hx hb xq_dLA_9 (by decide) ?_
  refine lv_iand hx hb xq_dLA_12 ?_
  refine lv_i2c (v := b &&& 255) hx hb xq_dLA_13 hc1 ?_
  exact W.zret hx hb B.returns hc2 (fun t ht _ => ⟨rfl, ht⟩) (fun q hq => absurd hq List.not_mem_nil) xq_dLA_14
theorem xq_IL (hin : ∀ w ∈ xq_ws, w ∈ tb) (A : Nat → Prop) {a : Nat} : Met l xq_yIL (.code xq_yIL xq_cIL 1 (some .boolean) :: tb) (xq_rm 1 22) (va_Pc [.ref a] (fun U => va_Z "java/lang/String" "COMPACT_STRINGS" "Z" (.int 1) A U U.heap ∧ va_OF "java/lang/String" "coder" "B" (.int 0) a A U U.heap)) (QcRead 1) 0 0 (fun _ => False) := by
  refine Met.ofW (cc := xq_cIL) (maxL := 1) (ret := some .boolean) (by decide) rfl ?_
  intro p e s m args below meth c s₁ B hml hpc
  obtain ⟨rfl, hZ, hO⟩ := hpc
  have hx := B.exec
  have hb := B.bytes
  have hown : s.vm.findClass "java/lang/String" = some m.cls := findClass_of_methodNamed B.named
  have hts := atoms_spec (ws := .code xq_yIL xq_cIL 1 (some .boolean) :: tb) B.pre
  have ht : ∀ w ∈ xq_ws, w.before #[Value.ref a] s = true := fun w hw => hts w (List.mem_cons_of_mem _ (hin w hw))
  have hl := lv_entry [.ref a] (n := 1) (Nat.le_refl _)
  rw [lg_entry_eq]
  generalize (lg_sl [Value.ref a] ++ List.replicate (1 - (lg_sl [Value.ref a]).length) Slot.unset).toArray = ls at hl ⊢
  have hl : lv_has ls 1 [(0, .ref a)] := hl
  refine va_gets hx hb hZ va_S.rf hown (ht _ (List.mem_of_getElem? (i := 3) rfl)) (fun _ h9 => h9) xq_dIL_0 ?_
  refine lv_if_eq hx hb (tgt := 17) xq_dIL_3 rfl (fun q => absurd q (by decide)) (fun _ => ?_)
  refine lv_aload_n (x := a) hx hb xq_dIL_6 rfl (lv_at hl 0 rfl) ?_
  refine vk_getf hx hb hO va_S.rf hown (ht _ (List.mem_of_getElem? (i := 4) rfl)) (fun _ h9 => h9) xq_dIL_7 ?_
  refine lv_if_ne hx hb (tgt := 17) xq_dIL_10 rfl (fun q => absurd rfl q) (fun _ => ?_)
  refine lv_iconst (v := 1) hx hb xq_dIL_13 (by decide) ?_
  refine lv_goto hx hb (tgt := 18) xq_dIL_14 rfl ?_
  exact W.zret hx hb B.returns rfl (fun t ht _ => ⟨rfl, ht⟩) (fun q hq => absurd hq List.not_mem_nil) xq_dIL_18
/-- CHARAT of a constant text -/
theorem xq_char {kx : xk_C} (hg : ∀ w ∈ tb, goodWord w = true) (hin : ∀ w ∈ xq_ws, w ∈ tb) (hby : ∀ cs ∈ kx.1, cs.length < 2 ^ 31 ∧ ∀ b ∈ cs, ((b &&& 255).toUInt32 % 65536).toInt32 = b &&& 255 ∧ narrow .char (.int (b &&& 255)) = .int (b &&& 255)) : xk_Ch l tb xq_cCA kx := by
  intro A n k cs b x hn hk hxk hx0
  refine Met.ofW (cc := xq_cCA) (maxL := 2) (ret := some .char) (by decide) rfl ?_
  intro p e s m args below meth c s₁ B hml hpc
  obtain ⟨rfl, hS, hZ, hZq, -⟩ := hpc
  have hlt : n < kx.1.length := (List.getElem?_eq_some_iff.mp hn).1
  obtain ⟨-, hO1, hO2, hT⟩ := hS.1 n hlt
  have hrc := vk_recv (H := s.heap) (locs := []) hS hlt va_S.rf
  have hx := B.exec
  have hb := B.bytes
  have hown : s.vm.findClass "java/lang/String" = some m.cls := findClass_of_methodNamed B.named
  have hts := atoms_spec (ws := .code xk_y xq_cCA 2 (some .char) :: tb) B.pre
  have ht : ∀ w ∈ xq_ws, w.before #[Value.ref (kx.2.1 n), .int x] s = true := fun w hw => hts w (List.mem_cons_of_mem _ (hin w hw))
  obtain ⟨hb1, hb2⟩ := hby cs (List.mem_of_getElem? hn)
  obtain ⟨hc1, hc2⟩ := hb2 b (List.mem_of_getElem? hk)
  have hkl : k < cs.length := (List.getElem?_eq_some_iff.mp hk).1
  have hlen : (kx.1.map List.length).getD n 0 = cs.length := by rw [List.getD_eq_getElem?_getD, List.getElem?_map, hn]; rfl
  have hbyt : kx.1.getD n [] = cs := by rw [List.getD_eq_getElem?_getD, hn]; rfl
  rw [hlen, hbyt] at hT
  have hl := lv_entry [.ref (kx.2.1 n), .int x] (n := 2) (Nat.le_refl _)
  rw [lg_entry_eq]
  generalize (lg_sl [Value.ref (kx.2.1 n), Value.int x] ++ List.replicate (2 - (lg_sl [Value.ref (kx.2.1 n), Value.int x]).length) Slot.unset).toArray = ls at hl ⊢
  have hl : lv_has ls 2 [(0, .ref (kx.2.1 n)), (1, .int x)] := hl
  have hG1 : GoodIn (.code xk_y xq_cCA 2 (some .char) :: tb) (.code xq_yIL xq_cIL 1 (some .boolean) :: tb) := xc_good hg (hin _ (List.mem_of_getElem? (i := 16) rfl))
  have hG2 : GoodIn (.code xk_y xq_cCA 2 (some .char) :: tb) (.code xq_yLA xq_cLA 2 (some .char) :: tb) := xc_good hg (hin _ (List.mem_of_getElem? (i := 17) rfl))
  refine lv_aload_n (x := kx.2.1 n) hx hb xq_dCA_0 rfl (lv_at hl 0 rfl) ?_
  refine W.callR (W.runV (C := "java/lang/String") (As := []) (rest := []) ⟨hx, hb, hml, hown, hts⟩ (xq_IL hin A) ⟨callB_of 0 hts hG1 rfl rfl rfl (ht _ (List.mem_of_getElem? (i := 0) rfl)) (ht _ (List.mem_of_getElem? (i := 6) rfl)) (by decide +kernel) ⟨Nat.le_of_ble_eq_true rfl, Nat.le_of_ble_eq_true rfl⟩, ht _ (List.mem_of_getElem? (i := 7) rfl), ht _ (List.mem_of_getElem? (i := 8) rfl)⟩ ⟨fun a U g mk q => ⟨q.1, va_Z.moved (u := U) (U := U.calling g mk a) (Vm.Alike.refl U.vm) q.2.1, va_OF.moved (u := U) (U := U.calling g mk a) (Vm.Alike.refl U.vm) q.2.2⟩, hrc, fun U hU hW => ⟨rfl, by show va_Z _ _ _ _ A U U.heap; rw [hU]; exact va_Z.moved hW.alike hZ, by show va_OF _ _ _ _ _ A U U.heap; rw [hU]; exact va_OF.moved hW.alike hO1⟩⟩ rfl rfl hl.1 rfl (Nat.le_of_ble_eq_true rfl) xq_dCA_1 ⟨Nat.le_refl _, Nat.le_refl _⟩) ?_
  refine lv_if_eq (pc := 4) hx hb (tgt := 16) xq_dCA_4 rfl (fun q => absurd q (by decide)) (fun _ => ?_)
  refine lv_aload_n (x := kx.2.1 n) hx hb xq_dCA_7 rfl (lv_at hl 0 rfl) ?_
  refine vk_getf hx hb hO2 va_S.rf hown (ht _ (List.mem_of_getElem? (i := 5) rfl)) (fun _ h9 => h9) xq_dCA_8 ?_
  refine lv_iload_n (x := x) hx hb xq_dCA_11 rfl (lv_at hl 1 rfl) ?_
  refine W.callR (W.runS (As := [.ref (kx.2.2.1 n), .int x]) (rest := []) ⟨hx, hb, hml, hown, hts⟩ (xq_LA (t := kx.2.2.1 n) (N := cs.length) (f := fun j => Value.int (cs.getD j 0)) hg hin A hx0 (by rw [hxk]; exact hkl) hb1 (by rw [hxk]; show Value.int (cs.getD k 0) = _; rw [List.getD_eq_getElem?_getD, hk]; rfl) hc1 hc2) ⟨callB_of 2 hts hG2 rfl rfl rfl (ht _ (List.mem_of_getElem? (i := 1) rfl)) (ht _ (List.mem_of_getElem? (i := 9) rfl)) (by decide +kernel) ⟨Nat.le_of_ble_eq_true rfl, Nat.le_of_ble_eq_true rfl⟩, ht _ (List.mem_of_getElem? (i := 10) rfl)⟩ ⟨fun a U g mk q => ⟨q.1, va_T.moved (u := U) (U := U.calling g mk a) (Vm.Alike.refl U.vm) q.2.1, va_Zq.moved (u := U) (U := U.calling g mk a) (Vm.Alike.refl U.vm) q.2.2⟩, fun U hU hW => ⟨rfl, by show va_T _ _ _ _ A U U.heap; rw [hU]; exact va_T.moved hW.alike hT, by show va_Zq _ _ _ A U U.heap; rw [hU]; exact va_Zq.moved hW.alike hZq⟩⟩ rfl rfl hl.1 rfl (Nat.le_of_ble_eq_true rfl) xq_dCA_12 ⟨Nat.le_refl _, Nat.le_refl _⟩) ?_
  exact W.zret (pc := 15) hx hb B.returns hc2 (fun t ht _ => ⟨rfl, ht⟩) (fun q hq => absurd hq List.not_mem_nil) xq_dCA_15
end XQ2
end
section
/-! ONE LOOP FOR BOTH: to the end of the body (.inl), or up to the instruction at stop (.inr) -/
abbrev xv_B (V : Type) : Type := xv_R V ⊕ (xv_L V × List (xv_V V) × xv_M V × Nat × Nat)
noncomputable def xv_lp {V : Type} (D : xv_D V) (ct : List (List (FieldType × Bool))) (at_ : List Nat) (sct : List (List Int32)) (ms : List xv_N) (call : Nat → List (xv_V V) → xv_M V → Option (xv_R V)) (y : xv_N) (stop : Nat) : Nat → Nat → List xv_I → xv_L V → List (xv_V V) → xv_M V → Nat → Nat → Option (xv_B V) :=
  Nat.rec (fun _ _ _ _ _ _ _ => none) (fun _ ih => xv_step D ct at_ sct ms call y (fun r M => some (.inl (r, M))) (fun pc cs L S M c s => bif Nat.beq pc stop then some (.inr (L, S, M, c, s)) else ih pc cs L S M c s))
def xv_un {V : Type} : Option (xv_B V) → Option (xv_R V)
  | some (.inl r) => some r
  | _ => none
noncomputable def xv_rn {V : Type} (D : xv_D V) (ct : List (List (FieldType × Bool))) (at_ : List Nat) (sct : List (List Int32)) (ms : List xv_N) (ext : Nat → Nat → List (xv_V V) → xv_M V → Option (xv_R V)) (fuel : Nat) : Nat → Nat → List (xv_V V) → xv_M V → Option (xv_R V) :=
  Nat.rec (fun _ _ _ => none) (fun d ih j as M => match ext (d + 1) j as M with
    | some r => some r
    | none => match ms[j]? with
      | some y => bif Nat.ble (xv_cats as) y.2.1.2.1 then xv_un (xv_lp D ct at_ sct ms ih y 100000 fuel 0 y.2.2.2 (xv_in as y.2.1.2.1) [] M 0 0) else none
      | none => none)
section XSV
variable {l : Launch} {V : Type} {D : xv_D V} {g : V → Value → Prop} {Dg : va_G} {cl : List vw_C} {tys : List (ClassId × FieldType)} {at_ : List Nat} {nest : List (String × Nat × MethodName × String)} {tb : List Jvm.Cond} {ct : List (List (FieldType × Bool))} {ms : List xv_N} {ys : List xm_Z} {kx : xk_C} {kcc : ByteArray}
/-- THE BODY of a method: to its end, or up to stop -/
theorem xs_lp (hD : xv_ok D g) (hall : xc_all tb nest cl ct at_ kx.1 kx.2.2.2.1 kcc ms ys) (hchar : xk_Ch l tb kcc kx) (hY : xc_tys cl at_ tys) {d : Nat} {call : Nat → List (xv_V V) → xv_M V → Option (xv_R V)} (hcall : ∀ (j : Nat) (as : List (xv_V V)) (M : xv_M V) (r : xv_R V), call j as M = some r → xm_Con l g tys Dg cl at_ nest kx tb ms ys d j as M r)
    {y : xv_N} {z : xm_Z} {p : Program} {e : Env} {R : Room} {s : State} {m : MethodId} {args : Array Value} {below : List Frame} {meth : Method} {c : Code} {A : Nat → Prop} {Q : State → Prop} {φ0 : List Nat} (hfix : xw_fix Dg cl tys at_ nest kx tb ct ys d y z p R s m args meth c A) (hkF : xk_F kx φ0) {stop : Nat} {r : xv_B V}
    (hend : ∀ q : xv_R V, r = .inl q → ∀ (i : Instr) (pc : Nat) (L : xv_L V) (S : List (xv_V V)) (cells slots : Nat), xv_end D y.2.1.2.2.1 S i = some q.1 → decode z.2.1 pc = .ok (i, xv_len i) → xw_st p l e R s m args below meth c Q g Dg cl tys kx A φ0 y pc L S q.2 cells slots)
    (hstop : ∀ q : xv_L V × List (xv_V V) × xv_M V × Nat × Nat, r = .inr q → xw_st p l e R s m args below meth c Q g Dg cl tys kx A φ0 y stop q.1 q.2.1 q.2.2.1 q.2.2.2.1 q.2.2.2.2) :
    ∀ (n pc : Nat) (cs : List xv_I) (L : xv_L V) (S : List (xv_V V)) (M : xv_M V) (cells slots : Nat), xv_lp D ct at_ kx.1 ms call y stop n pc cs L S M cells slots = some r → (∀ q ∈ cs, q ∈ y.2.2.2) → xw_st p l e R s m args below meth c Q g Dg cl tys kx A φ0 y pc L S M cells slots := by
  intro n
  induction n with
  | zero => intro pc cs L S M cells slots h; cases h
  | succ n ih =>
    intro pc cs L S M cells slots h hcs
    have h : xv_step D ct at_ kx.1 ms call y (fun r M => some (Sum.inl (r, M))) (fun pc cs L S M c s => bif Nat.beq pc stop then some (Sum.inr (L, S, M, c, s)) else xv_lp D ct at_ kx.1 ms call y stop n pc cs L S M c s) pc cs L S M cells slots = some r := h
    refine xs_step hD hall hchar hY hcall hfix hkF h hcs (fun pc cs L S M cells slots h hcs => ?_) (fun i pc L S M cells slots rv h1 h2 h3 => ?_)
    · cases hpc : Nat.beq pc stop <;> simp only [hpc, cond_true, cond_false] at h
      · exact ih _ _ _ _ _ _ _ h hcs
      · have h := Option.some.inj h
        rw [Nat.eq_of_beq_eq_true hpc]
        exact hstop _ h.symm
    · have h2 := Option.some.inj h2
      exact hend _ h2.symm i pc L S cells slots h1 h3
theorem xv_un_some {x : Option (xv_B V)} {r : xv_R V} (h : xv_un x = some r) : x = some (.inl r) := by
  unfold xv_un at h
  split at h
  · cases h; rfl
  · cases h
/-- what it runs, the method does -/
theorem xs_rn (hD : xv_ok D g) (hall : xc_all tb nest cl ct at_ kx.1 kx.2.2.2.1 kcc ms ys) (hchar : xk_Ch l tb kcc kx) (hY : xc_tys cl at_ tys) {ext : Nat → Nat → List (xv_V V) → xv_M V → Option (xv_R V)} (hext : ∀ (d j : Nat) (as : List (xv_V V)) (M : xv_M V) (r : xv_R V), ext d j as M = some r → xm_Con l g tys Dg cl at_ nest kx tb ms ys d j as M r) (fuel : Nat) :
    ∀ (d j : Nat) (as : List (xv_V V)) (M : xv_M V) (r : xv_R V), xv_rn D ct at_ kx.1 ms ext fuel d j as M = some r → xm_Con l g tys Dg cl at_ nest kx tb ms ys d j as M r := by
  intro d
  induction d with
  | zero => intro j as M r h; cases h
  | succ d ih =>
    intro j as M r h
    have h : (match ext (d + 1) j as M with
      | some r => some r
      | none => match ms[j]? with
        | some y => bif Nat.ble (xv_cats as) y.2.1.2.1 then xv_un (xv_lp D ct at_ kx.1 ms (xv_rn D ct at_ kx.1 ms ext fuel d) y 100000 fuel 0 y.2.2.2 (xv_in as y.2.1.2.1) [] M 0 0) else none
        | none => none) = some r := h
    split at h
    · rename_i r' hr'
      cases Option.some.inj h
      exact hext _ _ _ _ _ hr'
    · refine xm_of hall (fun y z hy hz => ?_)
      intro p e s m args below meth c A φ0 hfix hkF hret hlocks
      rw [hy] at h
      dsimp only at h
      cases hc : Nat.ble (xv_cats as) y.2.1.2.1 <;> simp only [hc, cond_true, cond_false] at h
      · cases h
      refine ⟨Nat.le_of_ble_eq_true hc, xs_lp hD hall hchar hY ih hfix hkF (fun q hq i pc L S cells slots h1 h2 => ?_) (fun q hq => by cases hq) fuel 0 _ _ _ _ 0 0 (xv_un_some h) (fun q hq => hq)⟩
      cases hq
      intro hc1 hc2 t ws H locs ls st hm hP hD0 hS hl hs
      obtain ⟨hx, hb, -, -, -, -, -, -, -, -, hbod⟩ := hfix
      exact xs_end hD hx hb (by rw [hret]; exact hbod.1.symm) hlocks h1 h2 hm hP hD0 hS hs hc1 hc2
end XSV
end
section
/-! THE FAST MACHINE: the same steps, each instruction a function of its own, lists laid out at once (by continuations), the memory in rows of 16 cells -/
noncomputable def xf_get {α : Type} (l : List α) : Nat → Option α :=
  List.rec (motive := fun _ => Nat → Option α) (fun _ => none) (fun h _ ih n => Nat.rec (motive := fun _ => Option α) (some h) (fun m _ => ih m) n) l
theorem xf_get_eq {α : Type} : ∀ (l : List α) (n : Nat), xf_get l n = l[n]?
  | [], _ => by simp [xf_get]
  | _ :: _, 0 => rfl
  | _ :: t, n + 1 => by rw [List.getElem?_cons_succ, ← xf_get_eq t n]; rfl
noncomputable def xf_set {α β : Type} (a : α) (l : List α) : Nat → (List α → β) → β :=
  List.rec (motive := fun _ => Nat → (List α → β) → β) (fun _ k => k []) (fun h t ih n k => Nat.rec (motive := fun _ => β) (k (a :: t)) (fun m _ => ih m (fun r => k (h :: r))) n) l
theorem xf_set_eq {α β : Type} {a : α} : ∀ (l : List α) (n : Nat) (k : List α → β), xf_set a l n k = k (l.set n a)
  | [], _, _ => rfl
  | _ :: _, 0, _ => rfl
  | h :: t, n + 1, k => by
    show xf_set a t n (fun r => k (h :: r)) = _
    rw [xf_set_eq t n]
    rfl
noncomputable def xf_rep {α β : Type} (v : α) (n : Nat) : (List α → β) → β :=
  Nat.rec (motive := fun _ => (List α → β) → β) (fun k => k []) (fun _ ih k => ih (fun r => k (v :: r))) n
theorem xf_rep_eq {α β : Type} {v : α} : ∀ (n : Nat) (k : List α → β), xf_rep v n k = k (List.replicate n v)
  | 0, _ => rfl
  | n + 1, k => by
    show xf_rep v n (fun r => k (v :: r)) = _
    rw [xf_rep_eq n]
    rfl
noncomputable def xf_lay {α β : Type} (l : List α) : (List α → β) → β :=
  List.rec (motive := fun _ => (List α → β) → β) (fun k => k []) (fun h _ ih k => ih (fun r => k (h :: r))) l
theorem xf_lay_eq {α β : Type} : ∀ (l : List α) (k : List α → β), xf_lay l k = k l
  | [], _ => rfl
  | h :: t, k => by
    show xf_lay t (fun r => k (h :: r)) = _
    rw [xf_lay_eq t]
noncomputable def xf_nat {β : Type} (n : Nat) (k : Nat → β) : β := Nat.rec (motive := fun _ => β) (k 0) (fun m _ => k (m + 1)) n
theorem xf_nat_eq {β : Type} (n : Nat) (k : Nat → β) : xf_nat n k = k n := by cases n <;> rfl
/-- the upper n of the stack, the lowest first, and the rest -/
noncomputable def xf_pop {α β : Type} (n : Nat) : List α → List α → (List α → List α → Option β) → Option β :=
  Nat.rec (motive := fun _ => List α → List α → (List α → List α → Option β) → Option β) (fun S a k => k a S) (fun _ ih S a k => List.rec (motive := fun _ => Option β) none (fun v S _ => ih S (v :: a) k) S) n
theorem xf_pop_eq {α β : Type} : ∀ (n : Nat) (S a : List α) (k : List α → List α → Option β) (r : β), xf_pop n S a k = some r → n ≤ S.length ∧ k ((S.take n).reverse ++ a) (S.drop n) = some r
  | 0, S, a, k, r, h => ⟨Nat.zero_le _, h⟩
  | n + 1, [], a, k, r, h => by cases h
  | n + 1, v :: S, a, k, r, h => by
    have h2 := xf_pop_eq n S (v :: a) k r h
    refine ⟨Nat.succ_le_succ h2.1, ?_⟩
    rw [List.take_succ_cons, List.reverse_cons, List.append_assoc, List.drop_succ_cons]
    exact h2.2
section XF0
variable {V : Type}
noncomputable def xf_in {β : Type} (as : List (xv_V V)) : Nat → (xv_L V → β) → β :=
  List.rec (motive := fun _ => Nat → (xv_L V → β) → β) (fun n k => xf_rep none n k) (fun v _ ih n k => match v with
    | .inr (.inl a) => ih (n - 2) (fun r => k (some (.inr (.inl a)) :: none :: r))
    | v => ih (n - 1) (fun r => k (some v :: r))) as
theorem xf_in_eq {β : Type} : ∀ (as : List (xv_V V)) (n : Nat) (k : xv_L V → β), xf_in as n k = k (xv_in as n)
  | [], n, k => by show xf_rep none n k = _; rw [xf_rep_eq]; rfl
  | .inr (.inl a) :: r, n, k => by
    show xf_in r (n - 2) (fun r => k (some (.inr (.inl a)) :: none :: r)) = _
    rw [xf_in_eq r]; rfl
  | .inl a :: r, n, k => by
    show xf_in r (n - 1) (fun r => k (some (.inl a) :: r)) = _
    rw [xf_in_eq r]; rfl
  | .inr (.inr a) :: r, n, k => by
    show xf_in r (n - 1) (fun r => k (some (.inr (.inr a)) :: r)) = _
    rw [xf_in_eq r]; rfl
/-- the memory: rows of 16 places -/
abbrev xf_T (V : Type) : Type := List (List (Option (xv_O V)))
def xf_at (T : xf_T V) (a : Nat) : Option (xv_O V) := match T[a / 16]? with
  | some ch => match ch[a % 16]? with
    | some o => o
    | none => none
  | none => none
def xf_R (n : Nat) (T : xf_T V) (M : xv_M V) : Prop := M.length = n ∧ ∀ a, xf_at T a = M[a]?
noncomputable def xf_cell {β : Type} (T : xf_T V) (a : Nat) (k : xv_O V → Option β) : Option β := match xf_get T (Nat.div a 16) with
  | some ch => match xf_get ch (Nat.mod a 16) with
    | some (some o) => k o
    | _ => none
  | none => none
theorem xf_cell_ok {β : Type} {T : xf_T V} {a : Nat} {k : xv_O V → Option β} {r : β} (h : xf_cell T a k = some r) : ∃ o, xf_at T a = some o ∧ k o = some r := by
  unfold xf_cell at h
  rw [xf_get_eq] at h
  split at h
  · rename_i ch hch
    rw [xf_get_eq] at h
    split at h
    · rename_i o ho
      refine ⟨o, ?_, h⟩
      unfold xf_at
      rw [show T[a / 16]? = some ch from hch]
      dsimp only
      rw [show ch[a % 16]? = some (some o) from ho]
    · cases h
  · cases h
noncomputable def xf_upd {β : Type} (T : xf_T V) (a : Nat) (o : xv_O V) (k : xf_T V → Option β) : Option β := match xf_get T (Nat.div a 16) with
  | some ch => match xf_get ch (Nat.mod a 16) with
    | some _ => xf_set (some o) ch (Nat.mod a 16) (fun ch => xf_set ch T (Nat.div a 16) k)
    | none => none
  | none => none
theorem xf_upd_ok {β : Type} {T : xf_T V} {a : Nat} {o : xv_O V} {k : xf_T V → Option β} {r : β} (h : xf_upd T a o k = some r) : ∃ T', k T' = some r ∧ ∀ b, xf_at T' b = if b = a then some o else xf_at T b := by
  unfold xf_upd at h
  rw [xf_get_eq] at h
  split at h
  · rename_i ch hch
    rw [xf_get_eq] at h
    split at h
    · rename_i o0 ho
      rw [xf_set_eq, xf_set_eq] at h
      refine ⟨_, h, fun b => ?_⟩
      have hch : T[a / 16]? = some ch := hch
      have ho : ch[a % 16]? = some o0 := ho
      have l1 := (List.getElem?_eq_some_iff.mp hch).1
      have l2 := (List.getElem?_eq_some_iff.mp ho).1
      unfold xf_at
      rw [show Nat.div a 16 = a / 16 from rfl, show Nat.mod a 16 = a % 16 from rfl, List.getElem?_set]
      by_cases e1 : a / 16 = b / 16
      · rw [if_pos e1, if_pos l1]
        dsimp only
        rw [List.getElem?_set]
        by_cases e2 : a % 16 = b % 16
        · have e : b = a := by omega
          rw [if_pos e2, if_pos l2, if_pos e]
        · have e : ¬ b = a := fun q => e2 (by rw [q])
          rw [if_neg e2, if_neg e, ← e1, hch]
      · have e : ¬ b = a := fun q => e1 (by rw [q])
        rw [if_neg e1, if_neg e]
    · cases h
  · cases h
noncomputable def xf_push {β : Type} (T : xf_T V) (n : Nat) (o : xv_O V) (k : xf_T V → Option β) : Option β := xf_upd T n o k
theorem xf_R.set {n a : Nat} {T T' : xf_T V} {M : xv_M V} {o o0 : xv_O V} (h : xf_R n T M) (h0 : M[a]? = some o0) (hT : ∀ b, xf_at T' b = if b = a then some o else xf_at T b) : xf_R n T' (M.set a o) := by
  refine ⟨by rw [List.length_set]; exact h.1, fun b => ?_⟩
  rw [hT b, List.getElem?_set, h.2 b]
  by_cases e : b = a
  · rw [if_pos e, if_pos e.symm, if_pos (List.getElem?_eq_some_iff.mp h0).1]
  · rw [if_neg e, if_neg (fun q => e q.symm)]
theorem xf_R.push {n : Nat} {T T' : xf_T V} {M : xv_M V} {o : xv_O V} (h : xf_R n T M) (hT : ∀ b, xf_at T' b = if b = n then some o else xf_at T b) : xf_R (n + 1) T' (M ++ [o]) := by
  refine ⟨by rw [List.length_append, h.1]; rfl, fun b => ?_⟩
  rw [hT b, h.2 b]
  by_cases e : b = n
  · subst e
    rw [if_pos rfl, List.getElem?_append_right (by rw [h.1]; exact Nat.le_refl _), h.1, Nat.sub_self]
    rfl
  · rw [if_neg e]
    by_cases l : b < M.length
    · rw [List.getElem?_append_left l]
    · rw [List.getElem?_eq_none (by omega), List.getElem?_append_right (by omega), List.getElem?_eq_none (by show 1 ≤ _; rw [h.1] at *; omega)]
end XF0
end
section
section XF1
variable {V : Type}
abbrev xf_P (V : Type) : Type := (Option (xv_V V) × Nat × xf_T V) ⊕ (xv_L V × List (xv_V V) × (Nat × xf_T V) × Nat × Nat)
abbrev xf_C (V : Type) : Type := xv_L V → List (xv_V V) → Nat → xf_T V → Nat → Nat → Option (xf_P V)
abbrev xf_K (V : Type) : Type := Nat → List (xv_V V) → Nat → xf_T V → Option (Option (xv_V V) × Nat × xf_T V)
abbrev xf_F (V : Type) : Type := xf_C V → (Nat → xf_C V) → xf_K V → xf_C V
abbrev xf_fv (V : Type) : Type := V → (V → Option (xf_P V)) → Option (xf_P V)
def xf_no : xf_F V := fun _ _ _ _ _ _ _ _ _ => none
def xf_cst (v : xv_V V) : xf_F V := fun next _ _ L S n T c s => next L (v :: S) n T c s
noncomputable def xf_ldi (i : Nat) : xf_F V := fun next _ _ L S n T c s => match xf_get L i with
  | some (some (.inl a)) => next L (.inl a :: S) n T c s
  | _ => none
noncomputable def xf_ldl (i : Nat) : xf_F V := fun next _ _ L S n T c s => match xf_get L i with
  | some (some (.inr (.inl a))) => next L (.inr (.inl a) :: S) n T c s
  | _ => none
noncomputable def xf_lda (i : Nat) : xf_F V := fun next _ _ L S n T c s => match xf_get L i with
  | some (some (.inr (.inr (some a)))) => next L (.inr (.inr (some a)) :: S) n T c s
  | _ => none
noncomputable def xf_put1 {β : Type} (L : xv_L V) (i : Nat) (v : xv_V V) (k : xv_L V → β) : β := match i with
  | 0 => xf_set (some v) L 0 k
  | j + 1 => match xf_get L j with
    | some (some (.inr (.inl _))) => xf_set none L j (fun L => xf_set (some v) L (j + 1) k)
    | _ => xf_set (some v) L (j + 1) k
theorem xf_put1_eq {β : Type} {L : xv_L V} {i : Nat} {v : xv_V V} {k : xv_L V → β} : xf_put1 L i v k = k (xv_put1 L i v) := by
  cases i with
  | zero => simp only [xf_put1, xf_set_eq, xv_put1, xv_kill]
  | succ j =>
    simp only [xf_put1, xf_get_eq, xv_put1, xv_kill]
    split
    · rename_i a ha
      simp only [xf_set_eq, ha]
    · rename_i hn
      simp only [xf_set_eq]
noncomputable def xf_put2 {β : Type} (L : xv_L V) (i : Nat) (v : xv_V V) (k : xv_L V → β) : β := match i with
  | 0 => xf_set none L 1 (fun L => xf_set (some v) L 0 k)
  | j + 1 => match xf_get L j with
    | some (some (.inr (.inl _))) => xf_set none L j (fun L => xf_set none L (j + 2) (fun L => xf_set (some v) L (j + 1) k))
    | _ => xf_set none L (j + 2) (fun L => xf_set (some v) L (j + 1) k)
theorem xf_put2_eq {β : Type} {L : xv_L V} {i : Nat} {v : xv_V V} {k : xv_L V → β} : xf_put2 L i v k = k (xv_put2 L i v) := by
  cases i with
  | zero => simp only [xf_put2, xf_set_eq, xv_put2, xv_kill]
  | succ j =>
    simp only [xf_put2, xf_get_eq, xv_put2, xv_kill]
    split
    · rename_i a ha
      simp only [xf_set_eq, ha]
    · rename_i hn
      simp only [xf_set_eq]
noncomputable def xf_sti (i : Nat) : xf_F V := fun next _ _ L S n T c s => match S with
  | .inl a :: S => match xf_get L i with
    | some _ => xf_put1 L i (.inl a) (fun L => next L S n T c s)
    | none => none
  | _ => none
noncomputable def xf_stl (i : Nat) : xf_F V := fun next _ _ L S n T c s => match S with
  | .inr (.inl a) :: S => match xf_get L (i + 1) with
    | some _ => xf_put2 L i (.inr (.inl a)) (fun L => next L S n T c s)
    | none => none
  | _ => none
noncomputable def xf_sta (i : Nat) : xf_F V := fun next _ _ L S n T c s => match S with
  | .inr (.inr (some a)) :: S => match xf_get L i with
    | some _ => xf_put1 L i (.inr (.inr (some a))) (fun L => next L S n T c s)
    | none => none
  | _ => none
noncomputable def xf_iinc (op : V → V → Option V) (fv : xf_fv V) (i : Nat) (b : V) : xf_F V := fun next _ _ L S n T c s => match xf_get L i with
  | some (some (.inl a)) => match op a b with
    | some r => fv r (fun r => xf_put1 L i (.inl r) (fun L => next L S n T c s))
    | none => none
  | _ => none
def xf_i2 (op : V → V → Option V) (fv : xf_fv V) : xf_F V := fun next _ _ L S n T c s => match S with
  | .inl b :: .inl a :: S => match op a b with
    | some r => fv r (fun r => next L (.inl r :: S) n T c s)
    | none => none
  | _ => none
def xf_l2 (op : V → V → Option V) (fv : xf_fv V) : xf_F V := fun next _ _ L S n T c s => match S with
  | .inr (.inl b) :: .inr (.inl a) :: S => match op a b with
    | some r => fv r (fun r => next L (.inr (.inl r) :: S) n T c s)
    | none => none
  | _ => none
def xf_s2 (op : V → V → Option V) (fv : xf_fv V) : xf_F V := fun next _ _ L S n T c s => match S with
  | .inl b :: .inr (.inl a) :: S => match op a b with
    | some r => fv r (fun r => next L (.inr (.inl r) :: S) n T c s)
    | none => none
  | _ => none
def xf_lc (op : V → V → Option V) (fv : xf_fv V) : xf_F V := fun next _ _ L S n T c s => match S with
  | .inr (.inl b) :: .inr (.inl a) :: S => match op a b with
    | some r => fv r (fun r => next L (.inl r :: S) n T c s)
    | none => none
  | _ => none
def xf_u00 (op : V → V → Option V) (fv : xf_fv V) : xf_F V := fun next _ _ L S n T c s => match S with
  | .inl a :: S => match op a a with
    | some r => fv r (fun r => next L (.inl r :: S) n T c s)
    | none => none
  | _ => none
def xf_u11 (op : V → V → Option V) (fv : xf_fv V) : xf_F V := fun next _ _ L S n T c s => match S with
  | .inr (.inl a) :: S => match op a a with
    | some r => fv r (fun r => next L (.inr (.inl r) :: S) n T c s)
    | none => none
  | _ => none
def xf_u01 (op : V → V → Option V) (fv : xf_fv V) : xf_F V := fun next _ _ L S n T c s => match S with
  | .inl a :: S => match op a a with
    | some r => fv r (fun r => next L (.inr (.inl r) :: S) n T c s)
    | none => none
  | _ => none
def xf_u10 (op : V → V → Option V) (fv : xf_fv V) : xf_F V := fun next _ _ L S n T c s => match S with
  | .inr (.inl a) :: S => match op a a with
    | some r => fv r (fun r => next L (.inl r :: S) n T c s)
    | none => none
  | _ => none
def xf_dup : xf_F V := fun next _ _ L S n T c s => match S with
  | v :: S => bif Nat.beq (xv_cat v) 1 then next L (v :: v :: S) n T c s else none
  | _ => none
def xf_pop1 : xf_F V := fun next _ _ L S n T c s => match S with
  | v :: S => bif Nat.beq (xv_cat v) 1 then next L S n T c s else none
  | _ => none
def xf_dup2 : xf_F V := fun next _ _ L S n T c s => match S with
  | v :: w :: S => bif Nat.beq (xv_cat v) 1 && Nat.beq (xv_cat w) 1 then next L (v :: w :: v :: w :: S) n T c s else none
  | _ => none
def xf_goto (t : Nat) : xf_F V := fun _ jmp _ L S n T c s => jmp t L S n T c s
def xf_c2 (cmp : V → V → Option Bool) (t : Nat) : xf_F V := fun next jmp _ L S n T c s => match S with
  | .inl b :: .inl a :: S => match cmp a b with
    | some true => jmp t L S n T c s
    | some false => next L S n T c s
    | none => none
  | _ => none
def xf_c1 (cmp : V → V → Option Bool) (z : V) (t : Nat) : xf_F V := fun next jmp _ L S n T c s => match S with
  | .inl a :: S => match cmp a z with
    | some true => jmp t L S n T c s
    | some false => next L S n T c s
    | none => none
  | _ => none
def xf_sw (f : List (xv_V V) → Option (Nat × List (xv_V V))) : xf_F V := fun _ jmp _ L S n T c s => match f S with
  | some tS => jmp tS.1 L tS.2 n T c s
  | none => none
noncomputable def xf_gf (tag k : Nat) : xf_F V := fun next _ _ L S n T c s => match S with
  | .inr (.inr (some a)) :: S => xf_cell T a (fun o => bif Nat.beq o.1 tag then match xf_get o.2 k with
      | some v => next L (v :: S) n T c s
      | none => none
    else none)
  | _ => none
noncomputable def xf_pf (fit : xv_V V → Bool) (tag k : Nat) : xf_F V := fun next _ _ L S n T c s => match S with
  | v :: .inr (.inr (some a)) :: S => xf_cell T a (fun o => bif Nat.beq o.1 tag && fit v then match xf_get o.2 k with
      | some _ => xf_set v o.2 k (fun fs => xf_upd T a (tag, fs) (fun T => next L S n T c s))
      | none => none
    else none)
  | _ => none
noncomputable def xf_new (tag : Nat) (fs : List (xv_V V)) (len yc ys : Nat) : xf_F V := fun next _ _ L S n T c s =>
  bif Nat.ble (c + 1) yc && Nat.ble (s + len) ys then xf_nat n (fun n => xf_push T n (tag, fs) (fun T => next L (.inr (.inr (some n)) :: S) (n + 1) T (c + 1) (s + len))) else none
noncomputable def xf_na (ix : V → Nat → Option Nat) (tag : Nat) (v : xv_V V) (yc ys : Nat) : xf_F V := fun next _ _ L S n T c s => match S with
  | .inl m :: S => match ix m 4096 with
    | some k => bif Nat.ble (c + 1) yc && Nat.ble (s + k) ys then xf_nat n (fun n => xf_rep v k (fun vs => xf_push T n (tag, vs) (fun T => next L (.inr (.inr (some n)) :: S) (n + 1) T (c + 1) (s + k)))) else none
    | none => none
  | _ => none
noncomputable def xf_al (i1 : Int32 → V) (fv : xf_fv V) : xf_F V := fun next _ _ L S n T c s => match S with
  | .inr (.inr (some a)) :: S => xf_cell T a (fun o => bif Nat.blt o.1 7 && Nat.ble o.2.length 4096 then fv (i1 (Int32.ofNat o.2.length)) (fun r => next L (.inl r :: S) n T c s) else none)
  | _ => none
noncomputable def xf_ald (val : V → Option Int) (t0 t1 : Nat) : xf_F V := fun next _ _ L S n T c s => match S with
  | .inl i :: .inr (.inr (some a)) :: S => match val i with
    | some (.ofNat k) => xf_cell T a (fun o => bif Nat.ble t0 o.1 && Nat.ble o.1 t1 then match xf_get o.2 k with
        | some v => next L (v :: S) n T c s
        | none => none
      else none)
    | _ => none
  | _ => none
noncomputable def xf_iald (val : V → Option Int) : xf_F V := fun next _ _ L S n T c s => match S with
  | .inl i :: .inr (.inr (some a)) :: S => match val i with
    | some (.ofNat k) => xf_cell T a (fun o => bif Nat.beq o.1 0 || Nat.beq o.1 3 then match xf_get o.2 k with
        | some v => next L (v :: S) n T c s
        | none => none
      else none)
    | _ => none
  | _ => none
noncomputable def xf_ast (val : V → Option Int) (fit : xv_V V → Bool) (t : Nat) : xf_F V := fun next _ _ L S n T c s => match S with
  | v :: .inl i :: .inr (.inr (some a)) :: S => match val i with
    | some (.ofNat k) => xf_cell T a (fun o => bif Nat.beq o.1 t && fit v then match xf_get o.2 k with
        | some _ => xf_set v o.2 k (fun fs => xf_upd T a (t, fs) (fun T => next L S n T c s))
        | none => none
      else none)
    | _ => none
  | _ => none
noncomputable def xf_aast (val : V → Option Int) (at_ : List Nat) : xf_F V := fun next _ _ L S n T c s => match S with
  | .inr (.inr (some v)) :: .inl i :: .inr (.inr (some a)) :: S => match val i with
    | some (.ofNat k) => xf_cell T a (fun o => xf_cell T v (fun ov => match at_[o.1 - 4]? with
      | some ci => bif Nat.ble 4 o.1 && Nat.blt o.1 7 && Nat.beq ov.1 (8 + ci) then match xf_get o.2 k with
          | some _ => xf_set (.inr (.inr (some v))) o.2 k (fun fs => xf_upd T a (o.1, fs) (fun T => next L S n T c s))
          | none => none
        else none
      | none => none))
    | _ => none
  | _ => none
/-- behind a call -/
def xf_aft (next : xf_C V) (L : xv_L V) (R : List (xv_V V)) (c s : Nat) : Option (Option (xv_V V) × Nat × xf_T V) → Option (xf_P V)
  | some (some v, n, T) => next L (v :: R) n T c s
  | some (none, n, T) => next L R n T c s
  | none => none
noncomputable def xf_cv (j np tag zc zs yc ys : Nat) : xf_F V := fun next _ call L S n T c s => xf_pop np S [] (fun as R => match R with
  | .inr (.inr (some a)) :: R => xf_cell T a (fun o => bif Nat.beq o.1 tag && Nat.ble (xv_cats R) 8 && (Nat.ble (c + zc) yc && Nat.ble (s + zs) ys) then xf_aft next L R (c + zc) (s + zs) (call j (.inr (.inr (some a)) :: as) n T) else none)
  | _ => none)
noncomputable def xf_ci (j np zc zs yc ys : Nat) : xf_F V := fun next _ call L S n T c s => xf_pop np S [] (fun as R => match R with
  | .inr (.inr (some a)) :: R => bif Nat.ble (xv_cats R) 8 && (Nat.ble (c + zc) yc && Nat.ble (s + zs) ys) then xf_aft next L R (c + zc) (s + zs) (call j (.inr (.inr (some a)) :: as) n T) else none
  | _ => none)
noncomputable def xf_cs (j np zc zs yc ys : Nat) : xf_F V := fun next _ call L S n T c s => xf_pop np S [] (fun as R => bif Nat.ble (xv_cats R) 8 && (Nat.ble (c + zc) yc && Nat.ble (s + zs) ys) then xf_aft next L R (c + zc) (s + zs) (call j as n T) else none)
def xf_obj : xf_F V := fun next _ _ L S n T c s => match S with
  | .inr (.inr (some _)) :: S => bif Nat.ble (xv_cats S) 8 then next L S n T c s else none
  | _ => none
noncomputable def xf_cp (ix : V → Nat → Option Nat) : xf_F V := fun next _ _ L S n T c s => match S with
  | .inl m :: .inl dp :: .inr (.inr (some b)) :: .inl sp :: .inr (.inr (some a)) :: S => xf_cell T a (fun oa => xf_cell T b (fun ob => bif Nat.beq oa.1 0 && Nat.beq ob.1 0 && Nat.ble (xv_cats S) 8 then match ix m 4096, ix dp 4096, ix sp 4096 with
      | some m, some dp, some sp => bif Nat.ble (sp + m) oa.2.length && Nat.ble (dp + m) ob.2.length then xf_lay (ob.2.take dp ++ ((oa.2.drop sp).take m ++ ob.2.drop (dp + m))) (fun vs => xf_upd T b (0, vs) (fun T => next L S n T c s)) else none
      | _, _, _ => none
    else none))
  | _ => none
noncomputable def xf_ch (val : V → Option Int) (i1 : Int32 → V) (fv : xf_fv V) (sct : List (List Int32)) : xf_F V := fun next _ _ L S n T c s => match S with
  | .inl a :: .inr (.inr (some m)) :: S => match xf_get sct m, val a with
    | some cs, some (.ofNat k) => match xf_get cs k with
      | some b => bif Nat.ble (xv_cats S) 8 then fv (i1 (b &&& 255)) (fun r => next L (.inl r :: S) n T c s) else none
      | none => none
    | _, _ => none
  | _ => none
def xf_rv : xf_F V := fun _ _ _ _ S n T _ _ => match S with
  | [] => some (.inl (none, n, T))
  | _ => none
def xf_ri : xf_F V := fun _ _ _ _ S n T _ _ => match S with
  | [.inl a] => some (.inl (some (.inl a), n, T))
  | _ => none
def xf_rz (bit : V → Bool) : xf_F V := fun _ _ _ _ S n T _ _ => match S with
  | [.inl a] => bif bit a then some (.inl (some (.inl a), n, T)) else none
  | _ => none
def xf_rl : xf_F V := fun _ _ _ _ S n T _ _ => match S with
  | [.inr (.inl a)] => some (.inl (some (.inr (.inl a)), n, T))
  | _ => none
/-- the instruction's function -/
noncomputable def xf_of (D : xv_D V) (fv : xf_fv V) (ct : List (List (FieldType × Bool))) (at_ : List Nat) (sct : List (List Int32)) (ms : List xv_N) (y : xv_N) (pc : Nat) : Instr → xf_F V
  | .iconst n => xf_cst (.inl (D.1 (Int32.ofInt n)))
  | .bipush n => xf_cst (.inl (D.1 (Int8.ofInt n).toInt32))
  | .sipush n => xf_cst (.inl (D.1 (Int16.ofInt n).toInt32))
  | .lconst n => xf_cst (.inr (.inl (D.2.1 (Int64.ofNat (n : Nat)))))
  | .ldc i => match xv_find y.1.2.2.2.2.1 i with
    | some v => xf_cst (.inl (D.1 v))
    | none => match xv_find y.1.2.2.2.1 i with
      | some n => bif Nat.ble 2000 n then xf_cst (.inr (.inr (some (n - 2000)))) else xf_no
      | none => xf_no
  | .ldc2_w i => match xv_find y.1.2.2.2.2.2 i with
    | some v => xf_cst (.inr (.inl (D.2.1 v)))
    | none => xf_no
  | .iload_n k => xf_ldi k
  | .iload k => xf_ldi k
  | .lload_n k => xf_ldl k
  | .lload k => xf_ldl k
  | .aload_n k => xf_lda k
  | .aload k => xf_lda k
  | .istore_n k => xf_sti k
  | .istore k => xf_sti k
  | .lstore_n k => xf_stl k
  | .lstore k => xf_stl k
  | .astore_n k => xf_sta k
  | .astore k => xf_sta k
  | .iinc k n => xf_iinc (D.2.2.1 0) fv k (D.1 (Int32.ofInt n))
  | .iadd => xf_i2 (D.2.2.1 0) fv
  | .isub => xf_i2 (D.2.2.1 1) fv
  | .imul => xf_i2 (D.2.2.1 2) fv
  | .iand => xf_i2 (D.2.2.1 3) fv
  | .ior => xf_i2 (D.2.2.1 4) fv
  | .ishl => xf_i2 (D.2.2.1 5) fv
  | .ishr => xf_i2 (D.2.2.1 6) fv
  | .iushr => xf_i2 (D.2.2.1 7) fv
  | .idiv => xf_i2 (D.2.2.1 8) fv
  | .irem => xf_i2 (D.2.2.1 9) fv
  | .ineg => xf_u00 (D.2.2.1 10) fv
  | .ladd => xf_l2 (D.2.2.1 20) fv
  | .lsub => xf_l2 (D.2.2.1 21) fv
  | .lmul => xf_l2 (D.2.2.1 22) fv
  | .land => xf_l2 (D.2.2.1 23) fv
  | .lor => xf_l2 (D.2.2.1 24) fv
  | .ldiv => xf_l2 (D.2.2.1 25) fv
  | .lrem => xf_l2 (D.2.2.1 26) fv
  | .lneg => xf_u11 (D.2.2.1 27) fv
  | .lshl => xf_s2 (D.2.2.1 30) fv
  | .lshr => xf_s2 (D.2.2.1 31) fv
  | .i2l => xf_u01 (D.2.2.1 40) fv
  | .l2i => xf_u10 (D.2.2.1 41) fv
  | .lcmp => xf_lc (D.2.2.1 42) fv
  | .dup => xf_dup
  | .pop => xf_pop1
  | .dup2 => xf_dup2
  | .goto off => match xv_tgt pc off with
    | some t => xf_goto t
    | none => xf_no
  | .if_icmp .eq off => match xv_tgt pc off with
    | some t => xf_c2 (D.2.2.2.1 0) t
    | none => xf_no
  | .if_icmp .ne off => match xv_tgt pc off with
    | some t => xf_c2 (D.2.2.2.1 1) t
    | none => xf_no
  | .if_icmp .lt off => match xv_tgt pc off with
    | some t => xf_c2 (D.2.2.2.1 2) t
    | none => xf_no
  | .if_icmp .ge off => match xv_tgt pc off with
    | some t => xf_c2 (D.2.2.2.1 3) t
    | none => xf_no
  | .if_icmp .gt off => match xv_tgt pc off with
    | some t => xf_c2 (D.2.2.2.1 4) t
    | none => xf_no
  | .if_icmp .le off => match xv_tgt pc off with
    | some t => xf_c2 (D.2.2.2.1 5) t
    | none => xf_no
  | .ifCond .eq off => match xv_tgt pc off with
    | some t => xf_c1 (D.2.2.2.1 0) (D.1 0) t
    | none => xf_no
  | .ifCond .ne off => match xv_tgt pc off with
    | some t => xf_c1 (D.2.2.2.1 1) (D.1 0) t
    | none => xf_no
  | .ifCond .lt off => match xv_tgt pc off with
    | some t => xf_c1 (D.2.2.2.1 2) (D.1 0) t
    | none => xf_no
  | .ifCond .ge off => match xv_tgt pc off with
    | some t => xf_c1 (D.2.2.2.1 3) (D.1 0) t
    | none => xf_no
  | .ifCond .gt off => match xv_tgt pc off with
    | some t => xf_c1 (D.2.2.2.1 4) (D.1 0) t
    | none => xf_no
  | .ifCond .le off => match xv_tgt pc off with
    | some t => xf_c1 (D.2.2.2.1 5) (D.1 0) t
    | none => xf_no
  | .tableswitch a b c d => xf_sw (fun S => xv_br D pc S (.tableswitch a b c d))
  | .lookupswitch a b => xf_sw (fun S => xv_br D pc S (.lookupswitch a b))
  | .getfield i => match xv_find y.1.2.1 i with
    | some ck => xf_gf (8 + ck.1) ck.2
    | none => xf_no
  | .putfield i => match xv_find y.1.2.1 i with
    | some ck => match ct[ck.1]? with
      | some fs => match fs[ck.2]? with
        | some f => bif !f.2 || (Nat.beq y.2.1.2.2.2 1 && Nat.beq y.1.1 ck.1) then xf_pf (xv_fit D f.1) (8 + ck.1) ck.2 else xf_no
        | none => xf_no
      | none => xf_no
    | none => xf_no
  | .new i => match xv_find y.1.2.2.2.1 i with
    | some ci => match ct[ci]? with
      | some fs => bif Nat.blt ci 1000 then xf_new (8 + ci) (fs.map (fun f => xv_dflt D f.1)) fs.length y.2.2.1.1 y.2.2.1.2 else xf_no
      | none => xf_no
    | none => xf_no
  | .newarray .int => xf_na (xv_ix D) 0 (.inl (D.1 0)) y.2.2.1.1 y.2.2.1.2
  | .newarray .long => xf_na (xv_ix D) 1 (.inr (.inl (D.2.1 0))) y.2.2.1.1 y.2.2.1.2
  | .newarray .boolean => xf_na (xv_ix D) 2 (.inl (D.1 0)) y.2.2.1.1 y.2.2.1.2
  | .anewarray i => match xv_find y.1.2.2.2.1 (70000 + i) with
    | some ci => bif Nat.ble 1000 ci && Nat.blt ci 1003 then xf_na (xv_ix D) (ci - 996) (.inr (.inr none)) y.2.2.1.1 y.2.2.1.2 else xf_no
    | none => xf_no
  | .arraylength => xf_al D.1 fv
  | .iaload => xf_iald D.2.2.2.2.1
  | .laload => xf_ald D.2.2.2.2.1 1 1
  | .baload => xf_ald D.2.2.2.2.1 2 2
  | .aaload => xf_ald D.2.2.2.2.1 4 6
  | .iastore => xf_ast D.2.2.2.2.1 (xv_fit D .int) 0
  | .lastore => xf_ast D.2.2.2.2.1 (xv_fit D .long) 1
  | .bastore => xf_ast D.2.2.2.2.1 (xv_fit D .boolean) 2
  | .aastore => xf_aast D.2.2.2.2.1 at_
  | .invokevirtual i => match xv_find y.1.2.2.1 i with
    | some q => bif Nat.beq q.1 0 then match ms[q.2]? with
        | some z => xf_cv q.2 z.2.1.1 (8 + z.1.1) z.2.2.1.1 z.2.2.1.2 y.2.2.1.1 y.2.2.1.2
        | none => xf_no
      else bif Nat.beq q.1 4 then xf_ch D.2.2.2.2.1 D.1 fv sct else xf_no
    | none => xf_no
  | .invokespecial i => match xv_find y.1.2.2.1 i with
    | some q => bif Nat.beq q.1 1 || Nat.beq q.1 2 then match ms[q.2]? with
        | some z => xf_ci q.2 z.2.1.1 z.2.2.1.1 z.2.2.1.2 y.2.2.1.1 y.2.2.1.2
        | none => xf_no
      else bif Nat.beq q.1 5 then xf_obj else xf_no
    | none => xf_no
  | .invokestatic i => match xv_find y.1.2.2.1 i with
    | some q => bif Nat.beq q.1 3 then match ms[q.2]? with
        | some z => xf_cs q.2 z.2.1.1 z.2.2.1.1 z.2.2.1.2 y.2.2.1.1 y.2.2.1.2
        | none => xf_no
      else bif Nat.beq q.1 6 then xf_cp (xv_ix D) else xf_no
    | none => xf_no
  | .return_ => bif Nat.beq y.2.1.2.2.1 0 then xf_rv else xf_no
  | .ireturn => bif Nat.beq y.2.1.2.2.1 1 then xf_ri else bif Nat.beq y.2.1.2.2.1 3 then xf_rz D.2.2.2.2.2 else xf_no
  | .lreturn => bif Nat.beq y.2.1.2.2.1 2 then xf_rl else xf_no
  | _ => xf_no
/-- where a segment stops -/
def xf_stop : xf_F V := fun _ _ _ L S n T c s => some (.inr (L, S, (n, T), c, s))
/-- the loop over the instructions' functions -/
noncomputable def xf_to (cs : List (Nat × xf_F V)) (t : Nat) : List (Nat × xf_F V) :=
  List.rec (motive := fun _ => List (Nat × xf_F V)) [] (fun q r ih => bif Nat.beq q.1 t then q :: r else ih) cs
noncomputable def xf_lp (code : List (Nat × xf_F V)) (call : xf_K V) (fuel : Nat) : List (Nat × xf_F V) → xf_C V :=
  Nat.rec (motive := fun _ => List (Nat × xf_F V) → xf_C V) (fun _ _ _ _ _ _ _ => none)
    (fun _ ih cs => List.rec (motive := fun _ => xf_C V) (fun _ _ _ _ _ _ => none) (fun q cs _ => q.2 (ih cs) (fun t => ih (xf_to code t)) call) cs) fuel
def xf_un : Option (xf_P V) → Option (Option (xv_V V) × Nat × xf_T V)
  | some (.inl r) => some r
  | _ => none
/-- fs: the methods' locals and functions -/
noncomputable def xf_rn (fs : List (Nat × List (Nat × xf_F V))) (ext : Nat → xf_K V) (fuel : Nat) : Nat → xf_K V :=
  Nat.rec (motive := fun _ => xf_K V) (fun _ _ _ _ => none) (fun d ih j as n T => match ext (d + 1) j as n T with
    | some r => some r
    | none => match xf_get fs j with
      | some y => bif Nat.ble (xv_cats as) y.1 then xf_in as y.1 (fun L => xf_un (xf_lp y.2 ih fuel y.2 L [] n T 0 0)) else none
      | none => none)
end XF1
end
section
theorem xf_nn {α : Type} {a : α} {P : Prop} (h : (none : Option α) = some a) : P := by cases h
section XF2
variable {V : Type} {D : xv_D V} {fv : xf_fv V} {ct : List (List (FieldType × Bool))} {at_ : List Nat} {sct : List (List Int32)} {ms : List xv_N} {y : xv_N}
def xf_Q (p : xf_P V) (b : xv_B V) : Prop := (∃ v n T M, p = .inl (v, n, T) ∧ b = .inl (v, M) ∧ xf_R n T M) ∨ ∃ L S n T c s M, p = .inr (L, S, (n, T), c, s) ∧ b = .inr (L, S, M, c, s) ∧ xf_R n T M
def xf_S (y : xv_N) (K : xf_C V) (K' : xv_L V → List (xv_V V) → xv_M V → Nat → Nat → Option (xv_B V)) : Prop := ∀ (L : xv_L V) (S : List (xv_V V)) (n : Nat) (T : xf_T V) (c s : Nat) (p : xf_P V), c ≤ y.2.2.1.1 ∧ s ≤ y.2.2.1.2 → K L S n T c s = some p → ∀ M, xf_R n T M → ∃ b, K' L S M c s = some b ∧ xf_Q p b
section XF3
variable {call : Nat → List (xv_V V) → xv_M V → Option (xv_R V)} {fin : Option (xv_V V) → xv_M V → Option (xv_B V)} {ih : Nat → List xv_I → xv_L V → List (xv_V V) → xv_M V → Nat → Nat → Option (xv_B V)} {pc : Nat} {cs : List xv_I} {L : xv_L V} {S : List (xv_V V)} {M : xv_M V} {c s : Nat} {i : Instr}
theorem xt_pure {L' : xv_L V} {S' : List (xv_V V)} (h : xv_pure D y.1.2 L S i = some (L', S')) : xv_step D ct at_ sct ms call y fin ih pc ((pc, i) :: cs) L S M c s = ih (pc + xv_len i) cs L' S' M c s := by
  simp only [xv_step, Nat.beq_refl, cond_true, h]
theorem xt_br {t : Nat} {S' : List (xv_V V)} (h0 : xv_pure D y.1.2 L S i = none) (h : xv_br D pc S i = some (t, S')) : xv_step D ct at_ sct ms call y fin ih pc ((pc, i) :: cs) L S M c s = ih t (xv_to y.2.2.2 t) L S' M c s := by
  simp only [xv_step, Nat.beq_refl, cond_true, h0, h]
theorem xt_mem {S' : List (xv_V V)} {M' : xv_M V} {dc ds : Nat} (h0 : xv_pure D y.1.2 L S i = none) (h1 : xv_br D pc S i = none) (h : xv_mem D ct at_ y.1.2 y.1.1 y.2.1.2.2.2 M S i = some (S', M', dc, ds)) (b1 : Nat.ble (c + dc) y.2.2.1.1 = true) (b2 : Nat.ble (s + ds) y.2.2.1.2 = true) : xv_step D ct at_ sct ms call y fin ih pc ((pc, i) :: cs) L S M c s = ih (pc + xv_len i) cs L S' M' (c + dc) (s + ds) := by
  simp only [xv_step, Nat.beq_refl, cond_true, h0, h1, h, b1, b2, Bool.and_self]
theorem xt_call {j : Nat} {as R : List (xv_V V)} {z : xv_N} {v : Option (xv_V V)} {M' : xv_M V} (h0 : xv_pure D y.1.2 L S i = none) (h1 : xv_br D pc S i = none) (h2 : xv_mem D ct at_ y.1.2 y.1.1 y.2.1.2.2.2 M S i = none) (h : xv_arg ms y.1.2 M S i = some (j, as, R)) (hz : ms[j]? = some z) (b1 : Nat.ble (c + z.2.2.1.1) y.2.2.1.1 = true) (b2 : Nat.ble (s + z.2.2.1.2) y.2.2.1.2 = true) (hc : call j as M = some (v, M')) : xv_step D ct at_ sct ms call y fin ih pc ((pc, i) :: cs) L S M c s = ih (pc + 3) cs L (v.toList ++ R) M' (c + z.2.2.1.1) (s + z.2.2.1.2) := by
  simp only [xv_step, Nat.beq_refl, cond_true, h0, h1, h2, h, hz, b1, b2, Bool.and_self, hc]
theorem xt_nat {S' : List (xv_V V)} {M' : xv_M V} (h0 : xv_pure D y.1.2 L S i = none) (h1 : xv_br D pc S i = none) (h2 : xv_mem D ct at_ y.1.2 y.1.1 y.2.1.2.2.2 M S i = none) (h3 : xv_arg ms y.1.2 M S i = none) (h : xv_nat D sct y.1.2 M S i = some (S', M')) : xv_step D ct at_ sct ms call y fin ih pc ((pc, i) :: cs) L S M c s = ih (pc + 3) cs L S' M' c s := by
  simp only [xv_step, Nat.beq_refl, cond_true, h0, h1, h2, h3, h]
theorem xt_end {v : Option (xv_V V)} (h0 : xv_pure D y.1.2 L S i = none) (h1 : xv_br D pc S i = none) (h2 : xv_mem D ct at_ y.1.2 y.1.1 y.2.1.2.2.2 M S i = none) (h3 : xv_arg ms y.1.2 M S i = none) (h4 : xv_nat D sct y.1.2 M S i = none) (h : xv_end D y.2.1.2.2.1 S i = some v) : xv_step D ct at_ sct ms call y fin ih pc ((pc, i) :: cs) L S M c s = fin v M := by
  simp only [xv_step, Nat.beq_refl, cond_true, h0, h1, h2, h3, h4, h]
end XF3
theorem xf_ixv {a : V} {k n : Nat} {α : Type} {xs : List α} {v : α} (h : D.2.2.2.2.1 a = some (.ofNat k)) (hv : xs[k]? = some v) (hn : n = xs.length) : xv_ix D a n = some k := by
  have hk : k < xs.length := (List.getElem?_eq_some_iff.mp hv).1
  simp only [xv_ix, h]
  rw [hn, show Nat.blt k xs.length = true from Nat.ble_eq_true_of_le hk]
  rfl
theorem xf_lt {α : Type} {xs : List α} {k : Nat} {v : α} (hv : xs[k]? = some v) : Nat.blt k xs.length = true := Nat.ble_eq_true_of_le (List.getElem?_eq_some_iff.mp hv).1
theorem xf_nbeq {a b : Nat} (h : ¬ a = b) : Nat.beq a b = false := by
  cases e : Nat.beq a b
  · rfl
  · exact absurd (Nat.eq_of_beq_eq_true e) h
theorem xf_mem0 {call : Nat → List (xv_V V) → xv_M V → Option (xv_R V)} {fin : Option (xv_V V) → xv_M V → Option (xv_B V)} {ih : Nat → List xv_I → xv_L V → List (xv_V V) → xv_M V → Nat → Nat → Option (xv_B V)} {pc : Nat} {cs : List xv_I} {L : xv_L V} {S : List (xv_V V)} {M : xv_M V} {c s : Nat} {i : Instr} {S' : List (xv_V V)} {M' : xv_M V} {b : xv_B V} (h0 : xv_pure D y.1.2 L S i = none) (h1 : xv_br D pc S i = none) (h : xv_mem D ct at_ y.1.2 y.1.1 y.2.1.2.2.2 M S i = some (S', M', 0, 0)) (hB : c ≤ y.2.2.1.1 ∧ s ≤ y.2.2.1.2) (hb : ih (pc + xv_len i) cs L S' M' c s = some b) : xv_step D ct at_ sct ms call y fin ih pc ((pc, i) :: cs) L S M c s = some b := by
  rw [xt_mem h0 h1 h (Nat.ble_eq_true_of_le hB.1) (Nat.ble_eq_true_of_le hB.2)]
  exact hb
theorem xf_aft_ok {call : xf_K V} {call' : Nat → List (xv_V V) → xv_M V → Option (xv_R V)} (hcall : ∀ (j : Nat) (as : List (xv_V V)) (n : Nat) (T : xf_T V) (v : Option (xv_V V)) (n' : Nat) (T' : xf_T V), call j as n T = some (v, n', T') → ∀ M, xf_R n T M → ∃ M', call' j as M = some (v, M') ∧ xf_R n' T' M') {n : Nat} {T : xf_T V} {M : xv_M V} (hR : xf_R n T M) {next : xf_C V} {L : xv_L V} {R : List (xv_V V)} {c s j : Nat} {as : List (xv_V V)} {p : xf_P V} (h : xf_aft next L R c s (call j as n T) = some p) :
    ∃ v n' T' M', call' j as M = some (v, M') ∧ xf_R n' T' M' ∧ next L (v.toList ++ R) n' T' c s = some p := by
  cases hc : call j as n T with
  | none => rw [hc] at h; cases h
  | some q =>
    obtain ⟨v, n', T'⟩ := q
    rw [hc] at h
    obtain ⟨M', h1, h2⟩ := hcall _ _ _ _ _ _ _ hc M hR
    refine ⟨v, n', T', M', h1, h2, ?_⟩
    cases v with
    | none => exact h
    | some v => exact h
set_option maxHeartbeats 8000000 in
/-- ONE INSTRUCTION: what its function does, the step does -/
theorem xf_one (hfv : ∀ (r : V) (k : V → Option (xf_P V)), fv r k = k r) {call : xf_K V} {call' : Nat → List (xv_V V) → xv_M V → Option (xv_R V)} (hcall : ∀ (j : Nat) (as : List (xv_V V)) (n : Nat) (T : xf_T V) (v : Option (xv_V V)) (n' : Nat) (T' : xf_T V), call j as n T = some (v, n', T') → ∀ M, xf_R n T M → ∃ M', call' j as M = some (v, M') ∧ xf_R n' T' M')
    {ih : Nat → List xv_I → xv_L V → List (xv_V V) → xv_M V → Nat → Nat → Option (xv_B V)} {pc : Nat} {cs : List xv_I} {next : xf_C V} {jmp : Nat → xf_C V} {i : Instr} (hn : xv_sw i = false → xf_S y next (fun L S M c s => ih (pc + xv_len i) cs L S M c s)) (hb : xv_len i = 3 → xf_S y next (fun L S M c s => ih (pc + 3) (xv_to y.2.2.2 (pc + 3)) L S M c s)) (hj : ∀ t, xf_S y (jmp t) (fun L S M c s => ih t (xv_to y.2.2.2 t) L S M c s))
    {L : xv_L V} {S : List (xv_V V)} {n : Nat} {T : xf_T V} {c s : Nat} {p : xf_P V} {M : xv_M V} (hB : c ≤ y.2.2.1.1 ∧ s ≤ y.2.2.1.2) (h : xf_of D fv ct at_ sct ms y pc i next jmp call L S n T c s = some p) (hR : xf_R n T M) :
    ∃ b, xv_step D ct at_ sct ms call' y (fun r M => some (.inl (r, M))) ih pc ((pc, i) :: cs) L S M c s = some b ∧ xf_Q p b := by
  cases i
  all_goals (first | (exact xf_nn (show (none : Option (xf_P V)) = some p from h)) | skip)

  case iconst n =>
    simp only [xf_of, xf_cst] at h
    rw [xt_pure (L' := L) (S' := .inl (D.1 (Int32.ofInt n)) :: S) (by rfl)]
    exact hn rfl _ _ _ _ _ _ _ hB h M hR
  case bipush n =>
    simp only [xf_of, xf_cst] at h
    rw [xt_pure (L' := L) (S' := .inl (D.1 (Int8.ofInt n).toInt32) :: S) (by rfl)]
    exact hn rfl _ _ _ _ _ _ _ hB h M hR
  case sipush n =>
    simp only [xf_of, xf_cst] at h
    rw [xt_pure (L' := L) (S' := .inl (D.1 (Int16.ofInt n).toInt32) :: S) (by rfl)]
    exact hn rfl _ _ _ _ _ _ _ hB h M hR
  case lconst n =>
    simp only [xf_of, xf_cst] at h
    rw [xt_pure (L' := L) (S' := .inr (.inl (D.2.1 (Int64.ofNat (n : Nat)))) :: S) (by rfl)]
    exact hn rfl _ _ _ _ _ _ _ hB h M hR
  case ldc k =>
    rcases hv : xv_find y.1.2.2.2.2.1 k with _ | v
    · rcases hm : xv_find y.1.2.2.2.1 k with _ | m
      · simp only [xf_of, hv, hm] at h
        exact xf_nn (show (none : Option (xf_P V)) = some p from h)
      · simp only [xf_of, hv, hm] at h
        cases h2 : Nat.ble 2000 m <;> simp only [h2, cond_true, cond_false, xf_no, xf_cst, reduceCtorEq] at h
        rw [xt_pure (L' := L) (S' := .inr (.inr (some (m - 2000))) :: S) (by simp only [xv_pure, hv, hm, h2, cond_true])]
        exact hn rfl _ _ _ _ _ _ _ hB h M hR
    · simp only [xf_of, hv, xf_cst] at h
      rw [xt_pure (L' := L) (S' := .inl (D.1 v) :: S) (by simp only [xv_pure, hv])]
      exact hn rfl _ _ _ _ _ _ _ hB h M hR
  case ldc2_w k =>
    rcases hv : xv_find y.1.2.2.2.2.2 k with _ | v
    · simp only [xf_of, hv] at h
      exact xf_nn (show (none : Option (xf_P V)) = some p from h)
    · simp only [xf_of, hv, xf_cst] at h
      rw [xt_pure (L' := L) (S' := .inr (.inl (D.2.1 v)) :: S) (by simp only [xv_pure, hv])]
      exact hn rfl _ _ _ _ _ _ _ hB h M hR
  case iload_n k =>
    simp only [xf_of, xf_ldi, xf_get_eq] at h
    split at h
    · rename_i a ha
      rw [xt_pure (L' := L) (S' := .inl a :: S) (by simp only [xv_pure, xv_ld, ha]; rfl)]
      exact hn rfl _ _ _ _ _ _ _ hB h M hR
    · cases h
  case iload k =>
    simp only [xf_of, xf_ldi, xf_get_eq] at h
    split at h
    · rename_i a ha
      rw [xt_pure (L' := L) (S' := .inl a :: S) (by simp only [xv_pure, xv_ld, ha]; rfl)]
      exact hn rfl _ _ _ _ _ _ _ hB h M hR
    · cases h
  case lload_n k =>
    simp only [xf_of, xf_ldl, xf_get_eq] at h
    split at h
    · rename_i a ha
      rw [xt_pure (L' := L) (S' := .inr (.inl a) :: S) (by simp only [xv_pure, xv_ld, ha]; rfl)]
      exact hn rfl _ _ _ _ _ _ _ hB h M hR
    · cases h
  case lload k =>
    simp only [xf_of, xf_ldl, xf_get_eq] at h
    split at h
    · rename_i a ha
      rw [xt_pure (L' := L) (S' := .inr (.inl a) :: S) (by simp only [xv_pure, xv_ld, ha]; rfl)]
      exact hn rfl _ _ _ _ _ _ _ hB h M hR
    · cases h
  case aload_n k =>
    simp only [xf_of, xf_lda, xf_get_eq] at h
    split at h
    · rename_i a ha
      rw [xt_pure (L' := L) (S' := .inr (.inr (some a)) :: S) (by simp only [xv_pure, xv_ld, ha]; rfl)]
      exact hn rfl _ _ _ _ _ _ _ hB h M hR
    · cases h
  case aload k =>
    simp only [xf_of, xf_lda, xf_get_eq] at h
    split at h
    · rename_i a ha
      rw [xt_pure (L' := L) (S' := .inr (.inr (some a)) :: S) (by simp only [xv_pure, xv_ld, ha]; rfl)]
      exact hn rfl _ _ _ _ _ _ _ hB h M hR
    · cases h
  case istore_n k =>
    simp only [xf_of, xf_sti, xf_get_eq, xf_put1_eq] at h
    split at h
    · rename_i a S1
      split at h
      · rename_i v hv
        rw [xt_pure (L' := xv_put1 L k (.inl a)) (S' := S1) (by simp only [xv_pure, xv_sto, xf_lt hv]; rfl)]
        exact hn rfl _ _ _ _ _ _ _ hB h M hR
      · cases h
    · cases h
  case istore k =>
    simp only [xf_of, xf_sti, xf_get_eq, xf_put1_eq] at h
    split at h
    · rename_i a S1
      split at h
      · rename_i v hv
        rw [xt_pure (L' := xv_put1 L k (.inl a)) (S' := S1) (by simp only [xv_pure, xv_sto, xf_lt hv]; rfl)]
        exact hn rfl _ _ _ _ _ _ _ hB h M hR
      · cases h
    · cases h
  case lstore_n k =>
    simp only [xf_of, xf_stl, xf_get_eq, xf_put2_eq] at h
    split at h
    · rename_i a S1
      split at h
      · rename_i v hv
        rw [xt_pure (L' := xv_put2 L k (.inr (.inl a))) (S' := S1) (by simp only [xv_pure, xv_sto, xf_lt hv]; rfl)]
        exact hn rfl _ _ _ _ _ _ _ hB h M hR
      · cases h
    · cases h
  case lstore k =>
    simp only [xf_of, xf_stl, xf_get_eq, xf_put2_eq] at h
    split at h
    · rename_i a S1
      split at h
      · rename_i v hv
        rw [xt_pure (L' := xv_put2 L k (.inr (.inl a))) (S' := S1) (by simp only [xv_pure, xv_sto, xf_lt hv]; rfl)]
        exact hn rfl _ _ _ _ _ _ _ hB h M hR
      · cases h
    · cases h
  case astore_n k =>
    simp only [xf_of, xf_sta, xf_get_eq, xf_put1_eq] at h
    split at h
    · rename_i a S1
      split at h
      · rename_i v hv
        rw [xt_pure (L' := xv_put1 L k (.inr (.inr (some a)))) (S' := S1) (by simp only [xv_pure, xv_sto, xf_lt hv]; rfl)]
        exact hn rfl _ _ _ _ _ _ _ hB h M hR
      · cases h
    · cases h
  case astore k =>
    simp only [xf_of, xf_sta, xf_get_eq, xf_put1_eq] at h
    split at h
    · rename_i a S1
      split at h
      · rename_i v hv
        rw [xt_pure (L' := xv_put1 L k (.inr (.inr (some a)))) (S' := S1) (by simp only [xv_pure, xv_sto, xf_lt hv]; rfl)]
        exact hn rfl _ _ _ _ _ _ _ hB h M hR
      · cases h
    · cases h
  case iinc k m =>
    simp only [xf_of, xf_iinc, xf_get_eq] at h
    split at h
    · rename_i a ha
      split at h
      · rename_i r hr
        rw [hfv, xf_put1_eq] at h
        rw [xt_pure (L' := xv_put1 L k (.inl r)) (S' := S) (by simp only [xv_pure, xv_iinc, ha, hr])]
        exact hn rfl _ _ _ _ _ _ _ hB h M hR
      · cases h
    · cases h
  case iadd =>
    simp only [xf_of, xf_i2] at h
    split at h
    · rename_i b a S1
      split at h
      · rename_i r hr
        rw [hfv] at h
        rw [xt_pure (L' := L) (S' := .inl r :: S1) (by simp only [xv_pure, xv_i2, hr])]
        exact hn rfl _ _ _ _ _ _ _ hB h M hR
      · cases h
    · cases h
  case isub =>
    simp only [xf_of, xf_i2] at h
    split at h
    · rename_i b a S1
      split at h
      · rename_i r hr
        rw [hfv] at h
        rw [xt_pure (L' := L) (S' := .inl r :: S1) (by simp only [xv_pure, xv_i2, hr])]
        exact hn rfl _ _ _ _ _ _ _ hB h M hR
      · cases h
    · cases h
  case imul =>
    simp only [xf_of, xf_i2] at h
    split at h
    · rename_i b a S1
      split at h
      · rename_i r hr
        rw [hfv] at h
        rw [xt_pure (L' := L) (S' := .inl r :: S1) (by simp only [xv_pure, xv_i2, hr])]
        exact hn rfl _ _ _ _ _ _ _ hB h M hR
      · cases h
    · cases h
  case iand =>
    simp only [xf_of, xf_i2] at h
    split at h
    · rename_i b a S1
      split at h
      · rename_i r hr
        rw [hfv] at h
        rw [xt_pure (L' := L) (S' := .inl r :: S1) (by simp only [xv_pure, xv_i2, hr])]
        exact hn rfl _ _ _ _ _ _ _ hB h M hR
      · cases h
    · cases h
  case ior =>
    simp only [xf_of, xf_i2] at h
    split at h
    · rename_i b a S1
      split at h
      · rename_i r hr
        rw [hfv] at h
        rw [xt_pure (L' := L) (S' := .inl r :: S1) (by simp only [xv_pure, xv_i2, hr])]
        exact hn rfl _ _ _ _ _ _ _ hB h M hR
      · cases h
    · cases h
  case ishl =>
    simp only [xf_of, xf_i2] at h
    split at h
    · rename_i b a S1
      split at h
      · rename_i r hr
        rw [hfv] at h
        rw [xt_pure (L' := L) (S' := .inl r :: S1) (by simp only [xv_pure, xv_i2, hr])]
        exact hn rfl _ _ _ _ _ _ _ hB h M hR
      · cases h
    · cases h
  case ishr =>
    simp only [xf_of, xf_i2] at h
    split at h
    · rename_i b a S1
      split at h
      · rename_i r hr
        rw [hfv] at h
        rw [xt_pure (L' := L) (S' := .inl r :: S1) (by simp only [xv_pure, xv_i2, hr])]
        exact hn rfl _ _ _ _ _ _ _ hB h M hR
      · cases h
    · cases h
  case iushr =>
    simp only [xf_of, xf_i2] at h
    split at h
    · rename_i b a S1
      split at h
      · rename_i r hr
        rw [hfv] at h
        rw [xt_pure (L' := L) (S' := .inl r :: S1) (by simp only [xv_pure, xv_i2, hr])]
        exact hn rfl _ _ _ _ _ _ _ hB h M hR
      · cases h
    · cases h
  case idiv =>
    simp only [xf_of, xf_i2] at h
    split at h
    · rename_i b a S1
      split at h
      · rename_i r hr
        rw [hfv] at h
        rw [xt_pure (L' := L) (S' := .inl r :: S1) (by simp only [xv_pure, xv_i2, hr])]
        exact hn rfl _ _ _ _ _ _ _ hB h M hR
      · cases h
    · cases h
  case irem =>
    simp only [xf_of, xf_i2] at h
    split at h
    · rename_i b a S1
      split at h
      · rename_i r hr
        rw [hfv] at h
        rw [xt_pure (L' := L) (S' := .inl r :: S1) (by simp only [xv_pure, xv_i2, hr])]
        exact hn rfl _ _ _ _ _ _ _ hB h M hR
      · cases h
    · cases h
  case ladd =>
    simp only [xf_of, xf_l2] at h
    split at h
    · rename_i b a S1
      split at h
      · rename_i r hr
        rw [hfv] at h
        rw [xt_pure (L' := L) (S' := .inr (.inl r) :: S1) (by simp only [xv_pure, xv_l2, hr])]
        exact hn rfl _ _ _ _ _ _ _ hB h M hR
      · cases h
    · cases h
  case lsub =>
    simp only [xf_of, xf_l2] at h
    split at h
    · rename_i b a S1
      split at h
      · rename_i r hr
        rw [hfv] at h
        rw [xt_pure (L' := L) (S' := .inr (.inl r) :: S1) (by simp only [xv_pure, xv_l2, hr])]
        exact hn rfl _ _ _ _ _ _ _ hB h M hR
      · cases h
    · cases h
  case lmul =>
    simp only [xf_of, xf_l2] at h
    split at h
    · rename_i b a S1
      split at h
      · rename_i r hr
        rw [hfv] at h
        rw [xt_pure (L' := L) (S' := .inr (.inl r) :: S1) (by simp only [xv_pure, xv_l2, hr])]
        exact hn rfl _ _ _ _ _ _ _ hB h M hR
      · cases h
    · cases h
  case land =>
    simp only [xf_of, xf_l2] at h
    split at h
    · rename_i b a S1
      split at h
      · rename_i r hr
        rw [hfv] at h
        rw [xt_pure (L' := L) (S' := .inr (.inl r) :: S1) (by simp only [xv_pure, xv_l2, hr])]
        exact hn rfl _ _ _ _ _ _ _ hB h M hR
      · cases h
    · cases h
  case lor =>
    simp only [xf_of, xf_l2] at h
    split at h
    · rename_i b a S1
      split at h
      · rename_i r hr
        rw [hfv] at h
        rw [xt_pure (L' := L) (S' := .inr (.inl r) :: S1) (by simp only [xv_pure, xv_l2, hr])]
        exact hn rfl _ _ _ _ _ _ _ hB h M hR
      · cases h
    · cases h
  case ldiv =>
    simp only [xf_of, xf_l2] at h
    split at h
    · rename_i b a S1
      split at h
      · rename_i r hr
        rw [hfv] at h
        rw [xt_pure (L' := L) (S' := .inr (.inl r) :: S1) (by simp only [xv_pure, xv_l2, hr])]
        exact hn rfl _ _ _ _ _ _ _ hB h M hR
      · cases h
    · cases h
  case lrem =>
    simp only [xf_of, xf_l2] at h
    split at h
    · rename_i b a S1
      split at h
      · rename_i r hr
        rw [hfv] at h
        rw [xt_pure (L' := L) (S' := .inr (.inl r) :: S1) (by simp only [xv_pure, xv_l2, hr])]
        exact hn rfl _ _ _ _ _ _ _ hB h M hR
      · cases h
    · cases h
  case lshl =>
    simp only [xf_of, xf_s2] at h
    split at h
    · rename_i b a S1
      split at h
      · rename_i r hr
        rw [hfv] at h
        rw [xt_pure (L' := L) (S' := .inr (.inl r) :: S1) (by simp only [xv_pure, xv_s2, hr])]
        exact hn rfl _ _ _ _ _ _ _ hB h M hR
      · cases h
    · cases h
  case lshr =>
    simp only [xf_of, xf_s2] at h
    split at h
    · rename_i b a S1
      split at h
      · rename_i r hr
        rw [hfv] at h
        rw [xt_pure (L' := L) (S' := .inr (.inl r) :: S1) (by simp only [xv_pure, xv_s2, hr])]
        exact hn rfl _ _ _ _ _ _ _ hB h M hR
      · cases h
    · cases h
  case ineg =>
    simp only [xf_of, xf_u00] at h
    split at h
    · rename_i a S1
      split at h
      · rename_i r hr
        rw [hfv] at h
        rw [xt_pure (L' := L) (S' := .inl r :: S1) (by simp only [xv_pure, hr])]
        exact hn rfl _ _ _ _ _ _ _ hB h M hR
      · cases h
    · cases h
  case lneg =>
    simp only [xf_of, xf_u11] at h
    split at h
    · rename_i a S1
      split at h
      · rename_i r hr
        rw [hfv] at h
        rw [xt_pure (L' := L) (S' := .inr (.inl r) :: S1) (by simp only [xv_pure, hr])]
        exact hn rfl _ _ _ _ _ _ _ hB h M hR
      · cases h
    · cases h
  case i2l =>
    simp only [xf_of, xf_u01] at h
    split at h
    · rename_i a S1
      split at h
      · rename_i r hr
        rw [hfv] at h
        rw [xt_pure (L' := L) (S' := .inr (.inl r) :: S1) (by simp only [xv_pure, hr])]
        exact hn rfl _ _ _ _ _ _ _ hB h M hR
      · cases h
    · cases h
  case l2i =>
    simp only [xf_of, xf_u10] at h
    split at h
    · rename_i a S1
      split at h
      · rename_i r hr
        rw [hfv] at h
        rw [xt_pure (L' := L) (S' := .inl r :: S1) (by simp only [xv_pure, hr])]
        exact hn rfl _ _ _ _ _ _ _ hB h M hR
      · cases h
    · cases h
  case lcmp =>
    simp only [xf_of, xf_lc] at h
    split at h
    · rename_i b a S1
      split at h
      · rename_i r hr
        rw [hfv] at h
        rw [xt_pure (L' := L) (S' := .inl r :: S1) (by simp only [xv_pure, hr])]
        exact hn rfl _ _ _ _ _ _ _ hB h M hR
      · cases h
    · cases h
  case dup =>
    simp only [xf_of, xf_dup] at h
    split at h
    · rename_i v S1
      cases hc : Nat.beq (xv_cat v) 1 <;> simp only [hc, cond_true, cond_false, reduceCtorEq] at h
      rw [xt_pure (L' := L) (S' := v :: v :: S1) (by simp only [xv_pure, hc, cond_true])]
      exact hn rfl _ _ _ _ _ _ _ hB h M hR
    · cases h
  case pop =>
    simp only [xf_of, xf_pop1] at h
    split at h
    · rename_i v S1
      cases hc : Nat.beq (xv_cat v) 1 <;> simp only [hc, cond_true, cond_false, reduceCtorEq] at h
      rw [xt_pure (L' := L) (S' := S1) (by simp only [xv_pure, hc, cond_true])]
      exact hn rfl _ _ _ _ _ _ _ hB h M hR
    · cases h
  case dup2 =>
    simp only [xf_of, xf_dup2] at h
    split at h
    · rename_i v v2 S1
      cases hc : (Nat.beq (xv_cat v) 1 && Nat.beq (xv_cat v2) 1) <;> simp only [hc, cond_true, cond_false, reduceCtorEq] at h
      rw [xt_pure (L' := L) (S' := v :: v2 :: v :: v2 :: S1) (by simp only [xv_pure, hc, cond_true])]
      exact hn rfl _ _ _ _ _ _ _ hB h M hR
    · cases h
  case goto off =>
    rcases ht : xv_tgt pc off with _ | t
    · simp only [xf_of, ht] at h
      exact xf_nn (show (none : Option (xf_P V)) = some p from h)
    · simp only [xf_of, ht, xf_goto] at h
      rw [xt_br (t := t) (S' := S) rfl (by simp only [xv_br, ht])]
      exact hj t _ _ _ _ _ _ _ hB h M hR
  case if_icmp cd off =>
    cases cd
    case eq =>
      rcases ht : xv_tgt pc off with _ | t
      · simp only [xf_of, ht] at h
        exact xf_nn (show (none : Option (xf_P V)) = some p from h)
      · simp only [xf_of, ht, xf_c2] at h
        split at h
        · rename_i b a S1
          split at h
          · rename_i hc
            rw [xt_br (t := t) (S' := S1) rfl (by simp only [xv_br, xv_cmp2, hc, ht, cond_true])]
            exact hj t _ _ _ _ _ _ _ hB h M hR
          · rename_i hc
            rw [xt_br (t := pc + 3) (S' := S1) rfl (by simp only [xv_br, xv_cmp2, hc, ht, cond_false])]
            exact hb rfl _ _ _ _ _ _ _ hB h M hR
          · cases h
        · cases h
    case ne =>
      rcases ht : xv_tgt pc off with _ | t
      · simp only [xf_of, ht] at h
        exact xf_nn (show (none : Option (xf_P V)) = some p from h)
      · simp only [xf_of, ht, xf_c2] at h
        split at h
        · rename_i b a S1
          split at h
          · rename_i hc
            rw [xt_br (t := t) (S' := S1) rfl (by simp only [xv_br, xv_cmp2, hc, ht, cond_true])]
            exact hj t _ _ _ _ _ _ _ hB h M hR
          · rename_i hc
            rw [xt_br (t := pc + 3) (S' := S1) rfl (by simp only [xv_br, xv_cmp2, hc, ht, cond_false])]
            exact hb rfl _ _ _ _ _ _ _ hB h M hR
          · cases h
        · cases h
    case lt =>
      rcases ht : xv_tgt pc off with _ | t
      · simp only [xf_of, ht] at h
        exact xf_nn (show (none : Option (xf_P V)) = some p from h)
      · simp only [xf_of, ht, xf_c2] at h
        split at h
        · rename_i b a S1
          split at h
          · rename_i hc
            rw [xt_br (t := t) (S' := S1) rfl (by simp only [xv_br, xv_cmp2, hc, ht, cond_true])]
            exact hj t _ _ _ _ _ _ _ hB h M hR
          · rename_i hc
            rw [xt_br (t := pc + 3) (S' := S1) rfl (by simp only [xv_br, xv_cmp2, hc, ht, cond_false])]
            exact hb rfl _ _ _ _ _ _ _ hB h M hR
          · cases h
        · cases h
    case ge =>
      rcases ht : xv_tgt pc off with _ | t
      · simp only [xf_of, ht] at h
        exact xf_nn (show (none : Option (xf_P V)) = some p from h)
      · simp only [xf_of, ht, xf_c2] at h
        split at h
        · rename_i b a S1
          split at h
          · rename_i hc
            rw [xt_br (t := t) (S' := S1) rfl (by simp only [xv_br, xv_cmp2, hc, ht, cond_true])]
            exact hj t _ _ _ _ _ _ _ hB h M hR
          · rename_i hc
            rw [xt_br (t := pc + 3) (S' := S1) rfl (by simp only [xv_br, xv_cmp2, hc, ht, cond_false])]
            exact hb rfl _ _ _ _ _ _ _ hB h M hR
          · cases h
        · cases h
    case gt =>
      rcases ht : xv_tgt pc off with _ | t
      · simp only [xf_of, ht] at h
        exact xf_nn (show (none : Option (xf_P V)) = some p from h)
      · simp only [xf_of, ht, xf_c2] at h
        split at h
        · rename_i b a S1
          split at h
          · rename_i hc
            rw [xt_br (t := t) (S' := S1) rfl (by simp only [xv_br, xv_cmp2, hc, ht, cond_true])]
            exact hj t _ _ _ _ _ _ _ hB h M hR
          · rename_i hc
            rw [xt_br (t := pc + 3) (S' := S1) rfl (by simp only [xv_br, xv_cmp2, hc, ht, cond_false])]
            exact hb rfl _ _ _ _ _ _ _ hB h M hR
          · cases h
        · cases h
    case le =>
      rcases ht : xv_tgt pc off with _ | t
      · simp only [xf_of, ht] at h
        exact xf_nn (show (none : Option (xf_P V)) = some p from h)
      · simp only [xf_of, ht, xf_c2] at h
        split at h
        · rename_i b a S1
          split at h
          · rename_i hc
            rw [xt_br (t := t) (S' := S1) rfl (by simp only [xv_br, xv_cmp2, hc, ht, cond_true])]
            exact hj t _ _ _ _ _ _ _ hB h M hR
          · rename_i hc
            rw [xt_br (t := pc + 3) (S' := S1) rfl (by simp only [xv_br, xv_cmp2, hc, ht, cond_false])]
            exact hb rfl _ _ _ _ _ _ _ hB h M hR
          · cases h
        · cases h
  case ifCond cd off =>
    cases cd
    case eq =>
      rcases ht : xv_tgt pc off with _ | t
      · simp only [xf_of, ht] at h
        exact xf_nn (show (none : Option (xf_P V)) = some p from h)
      · simp only [xf_of, ht, xf_c1] at h
        split at h
        · rename_i a S1
          split at h
          · rename_i hc
            rw [xt_br (t := t) (S' := S1) rfl (by simp only [xv_br, xv_cmp1, hc, ht, cond_true])]
            exact hj t _ _ _ _ _ _ _ hB h M hR
          · rename_i hc
            rw [xt_br (t := pc + 3) (S' := S1) rfl (by simp only [xv_br, xv_cmp1, hc, ht, cond_false])]
            exact hb rfl _ _ _ _ _ _ _ hB h M hR
          · cases h
        · cases h
    case ne =>
      rcases ht : xv_tgt pc off with _ | t
      · simp only [xf_of, ht] at h
        exact xf_nn (show (none : Option (xf_P V)) = some p from h)
      · simp only [xf_of, ht, xf_c1] at h
        split at h
        · rename_i a S1
          split at h
          · rename_i hc
            rw [xt_br (t := t) (S' := S1) rfl (by simp only [xv_br, xv_cmp1, hc, ht, cond_true])]
            exact hj t _ _ _ _ _ _ _ hB h M hR
          · rename_i hc
            rw [xt_br (t := pc + 3) (S' := S1) rfl (by simp only [xv_br, xv_cmp1, hc, ht, cond_false])]
            exact hb rfl _ _ _ _ _ _ _ hB h M hR
          · cases h
        · cases h
    case lt =>
      rcases ht : xv_tgt pc off with _ | t
      · simp only [xf_of, ht] at h
        exact xf_nn (show (none : Option (xf_P V)) = some p from h)
      · simp only [xf_of, ht, xf_c1] at h
        split at h
        · rename_i a S1
          split at h
          · rename_i hc
            rw [xt_br (t := t) (S' := S1) rfl (by simp only [xv_br, xv_cmp1, hc, ht, cond_true])]
            exact hj t _ _ _ _ _ _ _ hB h M hR
          · rename_i hc
            rw [xt_br (t := pc + 3) (S' := S1) rfl (by simp only [xv_br, xv_cmp1, hc, ht, cond_false])]
            exact hb rfl _ _ _ _ _ _ _ hB h M hR
          · cases h
        · cases h
    case ge =>
      rcases ht : xv_tgt pc off with _ | t
      · simp only [xf_of, ht] at h
        exact xf_nn (show (none : Option (xf_P V)) = some p from h)
      · simp only [xf_of, ht, xf_c1] at h
        split at h
        · rename_i a S1
          split at h
          · rename_i hc
            rw [xt_br (t := t) (S' := S1) rfl (by simp only [xv_br, xv_cmp1, hc, ht, cond_true])]
            exact hj t _ _ _ _ _ _ _ hB h M hR
          · rename_i hc
            rw [xt_br (t := pc + 3) (S' := S1) rfl (by simp only [xv_br, xv_cmp1, hc, ht, cond_false])]
            exact hb rfl _ _ _ _ _ _ _ hB h M hR
          · cases h
        · cases h
    case gt =>
      rcases ht : xv_tgt pc off with _ | t
      · simp only [xf_of, ht] at h
        exact xf_nn (show (none : Option (xf_P V)) = some p from h)
      · simp only [xf_of, ht, xf_c1] at h
        split at h
        · rename_i a S1
          split at h
          · rename_i hc
            rw [xt_br (t := t) (S' := S1) rfl (by simp only [xv_br, xv_cmp1, hc, ht, cond_true])]
            exact hj t _ _ _ _ _ _ _ hB h M hR
          · rename_i hc
            rw [xt_br (t := pc + 3) (S' := S1) rfl (by simp only [xv_br, xv_cmp1, hc, ht, cond_false])]
            exact hb rfl _ _ _ _ _ _ _ hB h M hR
          · cases h
        · cases h
    case le =>
      rcases ht : xv_tgt pc off with _ | t
      · simp only [xf_of, ht] at h
        exact xf_nn (show (none : Option (xf_P V)) = some p from h)
      · simp only [xf_of, ht, xf_c1] at h
        split at h
        · rename_i a S1
          split at h
          · rename_i hc
            rw [xt_br (t := t) (S' := S1) rfl (by simp only [xv_br, xv_cmp1, hc, ht, cond_true])]
            exact hj t _ _ _ _ _ _ _ hB h M hR
          · rename_i hc
            rw [xt_br (t := pc + 3) (S' := S1) rfl (by simp only [xv_br, xv_cmp1, hc, ht, cond_false])]
            exact hb rfl _ _ _ _ _ _ _ hB h M hR
          · cases h
        · cases h
  case tableswitch a1 a2 a3 a4 =>
    simp only [xf_of, xf_sw] at h
    split at h
    · rename_i tS hS
      rw [xt_br (t := tS.1) (S' := tS.2) rfl hS]
      exact hj _ _ _ _ _ _ _ _ hB h M hR
    · cases h
  case lookupswitch a1 a2 =>
    simp only [xf_of, xf_sw] at h
    split at h
    · rename_i tS hS
      rw [xt_br (t := tS.1) (S' := tS.2) rfl hS]
      exact hj _ _ _ _ _ _ _ _ hB h M hR
    · cases h
  case getfield k =>
    rcases hck : xv_find y.1.2.1 k with _ | ck
    · simp only [xf_of, hck] at h
      exact xf_nn (show (none : Option (xf_P V)) = some p from h)
    · simp only [xf_of, hck, xf_gf, xf_get_eq] at h
      split at h
      · rename_i a S1
        obtain ⟨o, ho, h⟩ := xf_cell_ok h
        rw [hR.2] at ho
        cases hc : Nat.beq o.1 (8 + ck.1) <;> simp only [hc, cond_true, cond_false, reduceCtorEq] at h
        split at h
        · rename_i v hv
          obtain ⟨b, hb1, hb2⟩ := hn rfl _ _ _ _ _ _ _ hB h M hR
          refine ⟨b, ?_, hb2⟩
          exact xf_mem0 rfl rfl (by simp only [xv_mem, hck, ho, hc, hv, cond_true]) hB hb1
        · cases h
      · cases h
  case putfield k =>
    rcases hck : xv_find y.1.2.1 k with _ | ck
    · simp only [xf_of, hck] at h
      exact xf_nn (show (none : Option (xf_P V)) = some p from h)
    · rcases hfs : ct[ck.1]? with _ | fs
      · simp only [xf_of, hck, hfs] at h
        exact xf_nn (show (none : Option (xf_P V)) = some p from h)
      · rcases hf : fs[ck.2]? with _ | f
        · simp only [xf_of, hck, hfs, hf] at h
          exact xf_nn (show (none : Option (xf_P V)) = some p from h)
        · simp only [xf_of, hck, hfs, hf] at h
          cases hfin : (!f.2 || (Nat.beq y.2.1.2.2.2 1 && Nat.beq y.1.1 ck.1)) <;> simp only [hfin, cond_true, cond_false, xf_no, reduceCtorEq] at h
          simp only [xf_pf, xf_get_eq, xf_set_eq] at h
          split at h
          · rename_i v a S1
            obtain ⟨o, ho, h⟩ := xf_cell_ok h
            rw [hR.2] at ho
            cases hc : Nat.beq o.1 (8 + ck.1) <;> simp only [hc, Bool.true_and, Bool.false_and, cond_true, cond_false, reduceCtorEq] at h
            cases hfit : xv_fit D f.1 v <;> simp only [hfit, cond_true, cond_false, reduceCtorEq] at h
            split at h
            · rename_i v0 hv0
              obtain ⟨T', h, hT⟩ := xf_upd_ok h
              rw [← Nat.eq_of_beq_eq_true hc] at hT
              obtain ⟨b, hb1, hb2⟩ := hn rfl _ _ _ _ _ _ _ hB h _ (hR.set ho hT)
              refine ⟨b, ?_, hb2⟩
              exact xf_mem0 rfl rfl (by simp only [xv_mem, hck, ho, hc, xf_lt hv0, hfs, hf, hfit, hfin, Bool.and_self, cond_true]) hB hb1
            · cases h
          · cases h
  case new k =>
    rcases hci : xv_find y.1.2.2.2.1 k with _ | ci
    · simp only [xf_of, hci] at h
      exact xf_nn (show (none : Option (xf_P V)) = some p from h)
    · rcases hfs : ct[ci]? with _ | fs
      · simp only [xf_of, hci, hfs] at h
        exact xf_nn (show (none : Option (xf_P V)) = some p from h)
      · simp only [xf_of, hci, hfs] at h
        cases hlt : Nat.blt ci 1000 <;> simp only [hlt, cond_true, cond_false, xf_no, reduceCtorEq] at h
        simp only [xf_new, xf_nat_eq, xf_push] at h
        cases b1 : Nat.ble (c + 1) y.2.2.1.1 <;> simp only [b1, Bool.true_and, Bool.false_and, cond_true, cond_false, reduceCtorEq] at h
        cases b2 : Nat.ble (s + fs.length) y.2.2.1.2 <;> simp only [b2, cond_true, cond_false, reduceCtorEq] at h
        obtain ⟨T', h, hT⟩ := xf_upd_ok h
        obtain ⟨b, hb1, hb2⟩ := hn rfl _ _ _ _ _ _ _ ⟨Nat.le_of_ble_eq_true b1, Nat.le_of_ble_eq_true b2⟩ h _ (hR.push hT)
        refine ⟨b, ?_, hb2⟩
        obtain rfl := hR.1
        rw [xt_mem (S' := .inr (.inr (some M.length)) :: S) (M' := M ++ [(8 + ci, fs.map (fun f => xv_dflt D f.1))]) (dc := 1) (ds := fs.length) rfl rfl (by simp only [xv_mem, hci, hfs, hlt, cond_true]) b1 b2]
        exact hb1
  case newarray ty =>
    cases ty
    all_goals (first | (exact xf_nn (show (none : Option (xf_P V)) = some p from h)) | skip)
    case boolean =>
      simp only [xf_of] at h
      simp only [xf_na, xf_nat_eq, xf_push, xf_rep_eq] at h
      split at h
      · rename_i m S1
        split at h
        · rename_i k1 hk
          cases b1 : Nat.ble (c + 1) y.2.2.1.1 <;> simp only [b1, Bool.true_and, Bool.false_and, cond_true, cond_false, reduceCtorEq] at h
          cases b2 : Nat.ble (s + k1) y.2.2.1.2 <;> simp only [b2, cond_true, cond_false, reduceCtorEq] at h
          obtain ⟨T', h, hT⟩ := xf_upd_ok h
          obtain ⟨b, hb1, hb2⟩ := hn rfl _ _ _ _ _ _ _ ⟨Nat.le_of_ble_eq_true b1, Nat.le_of_ble_eq_true b2⟩ h _ (hR.push hT)
          refine ⟨b, ?_, hb2⟩
          obtain rfl := hR.1
          rw [xt_mem (S' := .inr (.inr (some M.length)) :: S1) (M' := M ++ [(2, List.replicate k1 (.inl (D.1 0)))]) (dc := 1) (ds := k1) rfl rfl (by simp only [xv_mem, xv_newa, hk]) b1 b2]
          exact hb1
        · cases h
      · cases h
    case int =>
      simp only [xf_of] at h
      simp only [xf_na, xf_nat_eq, xf_push, xf_rep_eq] at h
      split at h
      · rename_i m S1
        split at h
        · rename_i k1 hk
          cases b1 : Nat.ble (c + 1) y.2.2.1.1 <;> simp only [b1, Bool.true_and, Bool.false_and, cond_true, cond_false, reduceCtorEq] at h
          cases b2 : Nat.ble (s + k1) y.2.2.1.2 <;> simp only [b2, cond_true, cond_false, reduceCtorEq] at h
          obtain ⟨T', h, hT⟩ := xf_upd_ok h
          obtain ⟨b, hb1, hb2⟩ := hn rfl _ _ _ _ _ _ _ ⟨Nat.le_of_ble_eq_true b1, Nat.le_of_ble_eq_true b2⟩ h _ (hR.push hT)
          refine ⟨b, ?_, hb2⟩
          obtain rfl := hR.1
          rw [xt_mem (S' := .inr (.inr (some M.length)) :: S1) (M' := M ++ [(0, List.replicate k1 (.inl (D.1 0)))]) (dc := 1) (ds := k1) rfl rfl (by simp only [xv_mem, xv_newa, hk]) b1 b2]
          exact hb1
        · cases h
      · cases h
    case long =>
      simp only [xf_of] at h
      simp only [xf_na, xf_nat_eq, xf_push, xf_rep_eq] at h
      split at h
      · rename_i m S1
        split at h
        · rename_i k1 hk
          cases b1 : Nat.ble (c + 1) y.2.2.1.1 <;> simp only [b1, Bool.true_and, Bool.false_and, cond_true, cond_false, reduceCtorEq] at h
          cases b2 : Nat.ble (s + k1) y.2.2.1.2 <;> simp only [b2, cond_true, cond_false, reduceCtorEq] at h
          obtain ⟨T', h, hT⟩ := xf_upd_ok h
          obtain ⟨b, hb1, hb2⟩ := hn rfl _ _ _ _ _ _ _ ⟨Nat.le_of_ble_eq_true b1, Nat.le_of_ble_eq_true b2⟩ h _ (hR.push hT)
          refine ⟨b, ?_, hb2⟩
          obtain rfl := hR.1
          rw [xt_mem (S' := .inr (.inr (some M.length)) :: S1) (M' := M ++ [(1, List.replicate k1 (.inr (.inl (D.2.1 0))))]) (dc := 1) (ds := k1) rfl rfl (by simp only [xv_mem, xv_newa, hk]) b1 b2]
          exact hb1
        · cases h
      · cases h
  case anewarray k =>
    rcases hci : xv_find y.1.2.2.2.1 (70000 + k) with _ | ci
    · simp only [xf_of, hci] at h
      exact xf_nn (show (none : Option (xf_P V)) = some p from h)
    · simp only [xf_of, hci] at h
      cases hlt : (Nat.ble 1000 ci && Nat.blt ci 1003) <;> simp only [hlt, cond_true, cond_false, xf_no, reduceCtorEq] at h
      simp only [xf_na, xf_nat_eq, xf_push, xf_rep_eq] at h
      split at h
      · rename_i m S1
        split at h
        · rename_i k1 hk
          cases b1 : Nat.ble (c + 1) y.2.2.1.1 <;> simp only [b1, Bool.true_and, Bool.false_and, cond_true, cond_false, reduceCtorEq] at h
          cases b2 : Nat.ble (s + k1) y.2.2.1.2 <;> simp only [b2, cond_true, cond_false, reduceCtorEq] at h
          obtain ⟨T', h, hT⟩ := xf_upd_ok h
          obtain ⟨b, hb1, hb2⟩ := hn rfl _ _ _ _ _ _ _ ⟨Nat.le_of_ble_eq_true b1, Nat.le_of_ble_eq_true b2⟩ h _ (hR.push hT)
          refine ⟨b, ?_, hb2⟩
          obtain rfl := hR.1
          rw [xt_mem (S' := .inr (.inr (some M.length)) :: S1) (M' := M ++ [(ci - 996, List.replicate k1 (.inr (.inr none)))]) (dc := 1) (ds := k1) rfl rfl (by simp only [xv_mem, xv_newa, hk, hci, hlt, cond_true]) b1 b2]
          exact hb1
        · cases h
      · cases h
  case arraylength =>
    simp only [xf_of, xf_al] at h
    split at h
    · rename_i a S1
      obtain ⟨o, ho, h⟩ := xf_cell_ok h
      rw [hR.2] at ho
      cases hc : (Nat.blt o.1 7 && Nat.ble o.2.length 4096) <;> simp only [hc, cond_true, cond_false, reduceCtorEq] at h
      rw [hfv] at h
      obtain ⟨b, hb1, hb2⟩ := hn rfl _ _ _ _ _ _ _ hB h M hR
      refine ⟨b, ?_, hb2⟩
      exact xf_mem0 rfl rfl (by simp only [xv_mem, ho, hc, cond_true]) hB hb1
    · cases h
  case laload =>
    simp only [xf_of, xf_ald, xf_get_eq] at h
    split at h
    · rename_i iv a S1
      split at h
      · rename_i k hk
        obtain ⟨o, ho, h⟩ := xf_cell_ok h
        rw [hR.2] at ho
        cases hc : (Nat.ble 1 o.1 && Nat.ble o.1 1) <;> simp only [hc, cond_true, cond_false, reduceCtorEq] at h
        split at h
        · rename_i v hv
          obtain ⟨b, hb1, hb2⟩ := hn rfl _ _ _ _ _ _ _ hB h M hR
          refine ⟨b, ?_, hb2⟩
          exact xf_mem0 rfl rfl (by simp only [xv_mem, xv_ald, ho, hc, xf_ixv hk hv rfl, hv, cond_true]) hB hb1
        · cases h
      · cases h
    · cases h
  case baload =>
    simp only [xf_of, xf_ald, xf_get_eq] at h
    split at h
    · rename_i iv a S1
      split at h
      · rename_i k hk
        obtain ⟨o, ho, h⟩ := xf_cell_ok h
        rw [hR.2] at ho
        cases hc : (Nat.ble 2 o.1 && Nat.ble o.1 2) <;> simp only [hc, cond_true, cond_false, reduceCtorEq] at h
        split at h
        · rename_i v hv
          obtain ⟨b, hb1, hb2⟩ := hn rfl _ _ _ _ _ _ _ hB h M hR
          refine ⟨b, ?_, hb2⟩
          exact xf_mem0 rfl rfl (by simp only [xv_mem, xv_ald, ho, hc, xf_ixv hk hv rfl, hv, cond_true]) hB hb1
        · cases h
      · cases h
    · cases h
  case aaload =>
    simp only [xf_of, xf_ald, xf_get_eq] at h
    split at h
    · rename_i iv a S1
      split at h
      · rename_i k hk
        obtain ⟨o, ho, h⟩ := xf_cell_ok h
        rw [hR.2] at ho
        cases hc : (Nat.ble 4 o.1 && Nat.ble o.1 6) <;> simp only [hc, cond_true, cond_false, reduceCtorEq] at h
        split at h
        · rename_i v hv
          obtain ⟨b, hb1, hb2⟩ := hn rfl _ _ _ _ _ _ _ hB h M hR
          refine ⟨b, ?_, hb2⟩
          exact xf_mem0 rfl rfl (by simp only [xv_mem, xv_ald, ho, hc, xf_ixv hk hv rfl, hv, cond_true]) hB hb1
        · cases h
      · cases h
    · cases h
  case iaload =>
    simp only [xf_of, xf_iald, xf_get_eq] at h
    split at h
    · rename_i iv a S1
      split at h
      · rename_i k hk
        obtain ⟨o, ho, h⟩ := xf_cell_ok h
        rw [hR.2] at ho
        cases hc : (Nat.beq o.1 0 || Nat.beq o.1 3) <;> simp only [hc, cond_true, cond_false, reduceCtorEq] at h
        split at h
        · rename_i v hv
          obtain ⟨b, hb1, hb2⟩ := hn rfl _ _ _ _ _ _ _ hB h M hR
          refine ⟨b, ?_, hb2⟩
          refine xf_mem0 rfl rfl ?_ hB hb1
          rcases Bool.or_eq_true_iff.mp hc with e | e
          · have e := Nat.eq_of_beq_eq_true e
            simp only [xv_mem, xv_ald, ho, e, show (Nat.ble 0 0 && Nat.ble 0 0) = true from rfl, xf_ixv hk hv rfl, hv, cond_true]
          · have e := Nat.eq_of_beq_eq_true e
            simp only [xv_mem, xv_ald, ho, e, show (Nat.ble 0 3 && Nat.ble 3 0) = false from rfl, show (Nat.ble 3 3 && Nat.ble 3 3) = true from rfl, xf_ixv hk hv rfl, hv, cond_true, cond_false]
        · cases h
      · cases h
    · cases h
  case iastore =>
    simp only [xf_of, xf_ast, xf_get_eq, xf_set_eq] at h
    split at h
    · rename_i v iv a S1
      split at h
      · rename_i k hk
        obtain ⟨o, ho, h⟩ := xf_cell_ok h
        rw [hR.2] at ho
        cases hc : Nat.beq o.1 0 <;> simp only [hc, Bool.true_and, Bool.false_and, cond_true, cond_false, reduceCtorEq] at h
        cases hfit : xv_fit D .int v <;> simp only [hfit, cond_true, cond_false, reduceCtorEq] at h
        split at h
        · rename_i v0 hv0
          obtain ⟨T', h, hT⟩ := xf_upd_ok h
          rw [← Nat.eq_of_beq_eq_true hc] at hT
          obtain ⟨b, hb1, hb2⟩ := hn rfl _ _ _ _ _ _ _ hB h _ (hR.set ho hT)
          refine ⟨b, ?_, hb2⟩
          exact xf_mem0 rfl rfl (by simp only [xv_mem, xv_ast, ho, hc, hfit, xf_ixv hk hv0 rfl, Bool.and_self, cond_true]) hB hb1
        · cases h
      · cases h
    · cases h
  case lastore =>
    simp only [xf_of, xf_ast, xf_get_eq, xf_set_eq] at h
    split at h
    · rename_i v iv a S1
      split at h
      · rename_i k hk
        obtain ⟨o, ho, h⟩ := xf_cell_ok h
        rw [hR.2] at ho
        cases hc : Nat.beq o.1 1 <;> simp only [hc, Bool.true_and, Bool.false_and, cond_true, cond_false, reduceCtorEq] at h
        cases hfit : xv_fit D .long v <;> simp only [hfit, cond_true, cond_false, reduceCtorEq] at h
        split at h
        · rename_i v0 hv0
          obtain ⟨T', h, hT⟩ := xf_upd_ok h
          rw [← Nat.eq_of_beq_eq_true hc] at hT
          obtain ⟨b, hb1, hb2⟩ := hn rfl _ _ _ _ _ _ _ hB h _ (hR.set ho hT)
          refine ⟨b, ?_, hb2⟩
          exact xf_mem0 rfl rfl (by simp only [xv_mem, xv_ast, ho, hc, hfit, xf_ixv hk hv0 rfl, Bool.and_self, cond_true]) hB hb1
        · cases h
      · cases h
    · cases h
  case bastore =>
    simp only [xf_of, xf_ast, xf_get_eq, xf_set_eq] at h
    split at h
    · rename_i v iv a S1
      split at h
      · rename_i k hk
        obtain ⟨o, ho, h⟩ := xf_cell_ok h
        rw [hR.2] at ho
        cases hc : Nat.beq o.1 2 <;> simp only [hc, Bool.true_and, Bool.false_and, cond_true, cond_false, reduceCtorEq] at h
        cases hfit : xv_fit D .boolean v <;> simp only [hfit, cond_true, cond_false, reduceCtorEq] at h
        split at h
        · rename_i v0 hv0
          obtain ⟨T', h, hT⟩ := xf_upd_ok h
          rw [← Nat.eq_of_beq_eq_true hc] at hT
          obtain ⟨b, hb1, hb2⟩ := hn rfl _ _ _ _ _ _ _ hB h _ (hR.set ho hT)
          refine ⟨b, ?_, hb2⟩
          exact xf_mem0 rfl rfl (by simp only [xv_mem, xv_ast, ho, hc, hfit, xf_ixv hk hv0 rfl, Bool.and_self, cond_true]) hB hb1
        · cases h
      · cases h
    · cases h
  case aastore =>
    simp only [xf_of, xf_aast, xf_get_eq, xf_set_eq] at h
    split at h
    · rename_i v iv a S1
      split at h
      · rename_i k hk
        obtain ⟨o, ho, h⟩ := xf_cell_ok h
        rw [hR.2] at ho
        obtain ⟨ov, hov, h⟩ := xf_cell_ok h
        rw [hR.2] at hov
        split at h
        · rename_i ci hci
          cases hc : (Nat.ble 4 o.1 && Nat.blt o.1 7 && Nat.beq ov.1 (8 + ci)) <;> simp only [hc, cond_true, cond_false, reduceCtorEq] at h
          split at h
          · rename_i v0 hv0
            obtain ⟨T', h, hT⟩ := xf_upd_ok h
            obtain ⟨b, hb1, hb2⟩ := hn rfl _ _ _ _ _ _ _ hB h _ (hR.set ho hT)
            refine ⟨b, ?_, hb2⟩
            exact xf_mem0 rfl rfl (by simp only [xv_mem, ho, hov, hci, hc, xf_ixv hk hv0 rfl, cond_true]) hB hb1
          · cases h
        · cases h
      · cases h
    · cases h
  case invokevirtual k =>
    rcases hf : xv_find y.1.2.2.1 k with _ | ⟨kd, j⟩
    · simp only [xf_of, hf] at h
      exact xf_nn (show (none : Option (xf_P V)) = some p from h)
    by_cases e0 : kd = 0
    · subst e0
      rcases hz : ms[j]? with _ | z
      · simp only [xf_of, hf, hz, show Nat.beq 0 0 = true from rfl, cond_true] at h
        exact xf_nn (show (none : Option (xf_P V)) = some p from h)
      · simp only [xf_of, hf, hz, show Nat.beq 0 0 = true from rfl, cond_true, xf_cv] at h
        obtain ⟨hle, h⟩ := xf_pop_eq _ _ _ _ _ h
        rw [List.append_nil] at h
        split at h
        · rename_i a R1 hdrop
          obtain ⟨o, ho, h⟩ := xf_cell_ok h
          rw [hR.2] at ho
          cases g1 : Nat.beq o.1 (8 + z.1.1) <;> simp only [g1, Bool.true_and, Bool.false_and, cond_true, cond_false, reduceCtorEq] at h
          cases g2 : Nat.ble (xv_cats R1) 8 <;> simp only [g2, Bool.true_and, Bool.false_and, cond_true, cond_false, reduceCtorEq] at h
          cases b1 : Nat.ble (c + z.2.2.1.1) y.2.2.1.1 <;> simp only [b1, Bool.true_and, Bool.false_and, cond_true, cond_false, reduceCtorEq] at h
          cases b2 : Nat.ble (s + z.2.2.1.2) y.2.2.1.2 <;> simp only [b2, cond_true, cond_false, reduceCtorEq] at h
          obtain ⟨v, n1, T1, M1, hc1, hR1, h⟩ := xf_aft_ok hcall hR h
          obtain ⟨b, hb1, hb2⟩ := hn rfl _ _ _ _ _ _ _ ⟨Nat.le_of_ble_eq_true b1, Nat.le_of_ble_eq_true b2⟩ h _ hR1
          refine ⟨b, ?_, hb2⟩
          rw [xt_call (R := R1) rfl rfl rfl (by simp only [xv_arg, hf, hz, hdrop, ho, g1, g2, Bool.and_self, cond_true]) hz b1 b2 hc1]
          exact hb1
        · cases h
    by_cases e4 : kd = 4
    · subst e4
      simp only [xf_of, hf, show Nat.beq 4 0 = false from rfl, show Nat.beq 4 4 = true from rfl, cond_true, cond_false, xf_ch, xf_get_eq] at h
      split at h
      · rename_i a m S1
        split at h
        · rename_i cs1 k1 hcs hk
          split at h
          · rename_i b0 hb0
            cases g2 : Nat.ble (xv_cats S1) 8 <;> simp only [g2, cond_true, cond_false, reduceCtorEq] at h
            rw [hfv] at h
            obtain ⟨b, hb1, hb2⟩ := hn rfl _ _ _ _ _ _ _ hB h M hR
            refine ⟨b, ?_, hb2⟩
            rw [xt_nat (S' := .inl (D.1 (b0 &&& 255)) :: S1) (M' := M) rfl rfl rfl (by simp only [xv_arg, hf]) (by simp only [xv_nat, hf, hcs, xf_ixv hk hb0 rfl, hb0, g2, cond_true])]
            exact hb1
          · cases h
        · cases h
      · cases h
    simp only [xf_of, hf, xf_nbeq e0, xf_nbeq e4, cond_false] at h
    exact xf_nn (show (none : Option (xf_P V)) = some p from h)
  case invokespecial k =>
    rcases hf : xv_find y.1.2.2.1 k with _ | ⟨kd, j⟩
    · simp only [xf_of, hf] at h
      exact xf_nn (show (none : Option (xf_P V)) = some p from h)
    by_cases e1 : kd = 1
    · subst e1
      rcases hz : ms[j]? with _ | z
      · simp only [xf_of, hf, hz, show (Nat.beq 1 1 || Nat.beq 1 2) = true from rfl, cond_true] at h
        exact xf_nn (show (none : Option (xf_P V)) = some p from h)
      · simp only [xf_of, hf, hz, show (Nat.beq 1 1 || Nat.beq 1 2) = true from rfl, cond_true, xf_ci] at h
        obtain ⟨hle, h⟩ := xf_pop_eq _ _ _ _ _ h
        rw [List.append_nil] at h
        split at h
        · rename_i a R1 hdrop
          cases g2 : Nat.ble (xv_cats R1) 8 <;> simp only [g2, Bool.true_and, Bool.false_and, cond_true, cond_false, reduceCtorEq] at h
          cases b1 : Nat.ble (c + z.2.2.1.1) y.2.2.1.1 <;> simp only [b1, Bool.true_and, Bool.false_and, cond_true, cond_false, reduceCtorEq] at h
          cases b2 : Nat.ble (s + z.2.2.1.2) y.2.2.1.2 <;> simp only [b2, cond_true, cond_false, reduceCtorEq] at h
          obtain ⟨v, n1, T1, M1, hc1, hR1, h⟩ := xf_aft_ok hcall hR h
          obtain ⟨b, hb1, hb2⟩ := hn rfl _ _ _ _ _ _ _ ⟨Nat.le_of_ble_eq_true b1, Nat.le_of_ble_eq_true b2⟩ h _ hR1
          refine ⟨b, ?_, hb2⟩
          rw [xt_call (R := R1) rfl rfl rfl (by simp only [xv_arg, hf, show (Nat.beq 1 1 || Nat.beq 1 2) = true from rfl, hz, hdrop, g2, cond_true]) hz b1 b2 hc1]
          exact hb1
        · cases h
    by_cases e2 : kd = 2
    · subst e2
      rcases hz : ms[j]? with _ | z
      · simp only [xf_of, hf, hz, show (Nat.beq 2 1 || Nat.beq 2 2) = true from rfl, cond_true] at h
        exact xf_nn (show (none : Option (xf_P V)) = some p from h)
      · simp only [xf_of, hf, hz, show (Nat.beq 2 1 || Nat.beq 2 2) = true from rfl, cond_true, xf_ci] at h
        obtain ⟨hle, h⟩ := xf_pop_eq _ _ _ _ _ h
        rw [List.append_nil] at h
        split at h
        · rename_i a R1 hdrop
          cases g2 : Nat.ble (xv_cats R1) 8 <;> simp only [g2, Bool.true_and, Bool.false_and, cond_true, cond_false, reduceCtorEq] at h
          cases b1 : Nat.ble (c + z.2.2.1.1) y.2.2.1.1 <;> simp only [b1, Bool.true_and, Bool.false_and, cond_true, cond_false, reduceCtorEq] at h
          cases b2 : Nat.ble (s + z.2.2.1.2) y.2.2.1.2 <;> simp only [b2, cond_true, cond_false, reduceCtorEq] at h
          obtain ⟨v, n1, T1, M1, hc1, hR1, h⟩ := xf_aft_ok hcall hR h
          obtain ⟨b, hb1, hb2⟩ := hn rfl _ _ _ _ _ _ _ ⟨Nat.le_of_ble_eq_true b1, Nat.le_of_ble_eq_true b2⟩ h _ hR1
          refine ⟨b, ?_, hb2⟩
          rw [xt_call (R := R1) rfl rfl rfl (by simp only [xv_arg, hf, show (Nat.beq 2 1 || Nat.beq 2 2) = true from rfl, hz, hdrop, g2, cond_true]) hz b1 b2 hc1]
          exact hb1
        · cases h
    by_cases e5 : kd = 5
    · subst e5
      simp only [xf_of, hf, show (Nat.beq 5 1 || Nat.beq 5 2) = false from rfl, show Nat.beq 5 5 = true from rfl, cond_true, cond_false, xf_obj] at h
      split at h
      · rename_i a S1
        cases g2 : Nat.ble (xv_cats S1) 8 <;> simp only [g2, cond_true, cond_false, reduceCtorEq] at h
        obtain ⟨b, hb1, hb2⟩ := hn rfl _ _ _ _ _ _ _ hB h M hR
        refine ⟨b, ?_, hb2⟩
        rw [xt_nat (S' := S1) (M' := M) rfl rfl rfl (by simp only [xv_arg, hf, show (Nat.beq 5 1 || Nat.beq 5 2) = false from rfl, cond_false]) (by simp only [xv_nat, hf, g2, cond_true])]
        exact hb1
      · cases h
    simp only [xf_of, hf, xf_nbeq e1, xf_nbeq e2, xf_nbeq e5, Bool.or_self, cond_false] at h
    exact xf_nn (show (none : Option (xf_P V)) = some p from h)
  case invokestatic k =>
    rcases hf : xv_find y.1.2.2.1 k with _ | ⟨kd, j⟩
    · simp only [xf_of, hf] at h
      exact xf_nn (show (none : Option (xf_P V)) = some p from h)
    by_cases e3 : kd = 3
    · subst e3
      rcases hz : ms[j]? with _ | z
      · simp only [xf_of, hf, hz, show Nat.beq 3 3 = true from rfl, cond_true] at h
        exact xf_nn (show (none : Option (xf_P V)) = some p from h)
      · simp only [xf_of, hf, hz, show Nat.beq 3 3 = true from rfl, cond_true, xf_cs] at h
        obtain ⟨hle, h⟩ := xf_pop_eq _ _ _ _ _ h
        rw [List.append_nil] at h
        cases g2 : Nat.ble (xv_cats (S.drop z.2.1.1)) 8 <;> simp only [g2, Bool.true_and, Bool.false_and, cond_true, cond_false, reduceCtorEq] at h
        cases b1 : Nat.ble (c + z.2.2.1.1) y.2.2.1.1 <;> simp only [b1, Bool.true_and, Bool.false_and, cond_true, cond_false, reduceCtorEq] at h
        cases b2 : Nat.ble (s + z.2.2.1.2) y.2.2.1.2 <;> simp only [b2, cond_true, cond_false, reduceCtorEq] at h
        obtain ⟨v, n1, T1, M1, hc1, hR1, h⟩ := xf_aft_ok hcall hR h
        obtain ⟨b, hb1, hb2⟩ := hn rfl _ _ _ _ _ _ _ ⟨Nat.le_of_ble_eq_true b1, Nat.le_of_ble_eq_true b2⟩ h _ hR1
        refine ⟨b, ?_, hb2⟩
        rw [xt_call (R := S.drop z.2.1.1) rfl rfl rfl (by simp only [xv_arg, hf, hz, Nat.ble_eq_true_of_le hle, g2, Bool.and_self, cond_true]) hz b1 b2 hc1]
        exact hb1
    by_cases e6 : kd = 6
    · subst e6
      simp only [xf_of, hf, show Nat.beq 6 3 = false from rfl, show Nat.beq 6 6 = true from rfl, cond_true, cond_false, xf_cp] at h
      split at h
      · rename_i m dp b sp a S1
        obtain ⟨oa, hoa, h⟩ := xf_cell_ok h
        rw [hR.2] at hoa
        obtain ⟨ob, hob, h⟩ := xf_cell_ok h
        rw [hR.2] at hob
        cases g1 : (Nat.beq oa.1 0 && Nat.beq ob.1 0 && Nat.ble (xv_cats S1) 8) <;> simp only [g1, cond_true, cond_false, reduceCtorEq] at h
        split at h
        · rename_i m1 dp1 sp1 q1 q2 q3
          cases g2 : (Nat.ble (sp1 + m1) oa.2.length && Nat.ble (dp1 + m1) ob.2.length) <;> simp only [g2, cond_true, cond_false, reduceCtorEq] at h
          rw [xf_lay_eq] at h
          obtain ⟨T', h, hT⟩ := xf_upd_ok h
          obtain ⟨b2, hb1, hb2⟩ := hn rfl _ _ _ _ _ _ _ hB h _ (hR.set hob hT)
          refine ⟨b2, ?_, hb2⟩
          rw [xt_nat (S' := S1) (M' := M.set b (0, ob.2.take dp1 ++ ((oa.2.drop sp1).take m1 ++ ob.2.drop (dp1 + m1)))) rfl rfl rfl (by simp only [xv_arg, hf]) (by simp only [xv_nat, hf, xv_copy, hoa, hob, g1, g2, q1, q2, q3, cond_true])]
          exact hb1
        · cases h
      · cases h
    simp only [xf_of, hf, xf_nbeq e3, xf_nbeq e6, cond_false] at h
    exact xf_nn (show (none : Option (xf_P V)) = some p from h)
  case return_ =>
    simp only [xf_of] at h
    cases hr : Nat.beq y.2.1.2.2.1 0 <;> simp only [hr, cond_true, cond_false, xf_no, reduceCtorEq] at h
    simp only [xf_rv] at h
    split at h
    · cases Option.some.inj h
      rw [xt_end (v := none) rfl rfl rfl rfl rfl (by simp only [xv_end, hr, cond_true])]
      exact ⟨_, rfl, Or.inl ⟨_, _, _, _, rfl, rfl, hR⟩⟩
    · cases h
  case ireturn =>
    simp only [xf_of] at h
    cases hr : Nat.beq y.2.1.2.2.1 1 <;> simp only [hr, cond_true, cond_false] at h
    · cases hr3 : Nat.beq y.2.1.2.2.1 3 <;> simp only [hr3, cond_true, cond_false, xf_no, reduceCtorEq] at h
      simp only [xf_rz] at h
      split at h
      · rename_i a
        cases hbit : D.2.2.2.2.2 a <;> simp only [hbit, cond_true, cond_false, reduceCtorEq] at h
        cases Option.some.inj h
        rw [xt_end (v := some (.inl a)) rfl rfl rfl rfl rfl (by simp only [xv_end, hr, hr3, hbit, Bool.and_self, Bool.or_true, cond_true])]
        exact ⟨_, rfl, Or.inl ⟨_, _, _, _, rfl, rfl, hR⟩⟩
      · cases h
    · simp only [xf_ri] at h
      split at h
      · rename_i a
        cases Option.some.inj h
        rw [xt_end (v := some (.inl a)) rfl rfl rfl rfl rfl (by simp only [xv_end, hr, Bool.true_or, cond_true])]
        exact ⟨_, rfl, Or.inl ⟨_, _, _, _, rfl, rfl, hR⟩⟩
      · cases h
  case lreturn =>
    simp only [xf_of] at h
    cases hr : Nat.beq y.2.1.2.2.1 2 <;> simp only [hr, cond_true, cond_false, xf_no, reduceCtorEq] at h
    simp only [xf_rl] at h
    split at h
    · rename_i a
      cases Option.some.inj h
      rw [xt_end (v := some (.inr (.inl a))) rfl rfl rfl rfl rfl (by simp only [xv_end, hr, cond_true])]
      exact ⟨_, rfl, Or.inl ⟨_, _, _, _, rfl, rfl, hR⟩⟩
    · cases h
end XF2
end
section
/-- the code's places: increasing, each behind the one ahead -/
def xf_wf : List xv_I → Bool
  | q :: r => (match r with
    | q2 :: _ => Nat.blt q.1 q2.1 && (xv_sw q.2 || Nat.beq q2.1 (q.1 + xv_len q.2))
    | [] => true) && xf_wf r
  | [] => true
theorem xf_wf_tl {q : xv_I} {r : List xv_I} (h : xf_wf (q :: r) = true) : xf_wf r = true := by
  unfold xf_wf at h
  exact (Bool.and_eq_true_iff.mp h).2
theorem xf_wf_hd {q q2 : xv_I} {r : List xv_I} (h : xf_wf (q :: q2 :: r) = true) : q.1 < q2.1 ∧ (xv_sw q.2 = false → q2.1 = q.1 + xv_len q.2) := by
  unfold xf_wf at h
  have h := (Bool.and_eq_true_iff.mp h).1
  dsimp only at h
  obtain ⟨h1, h2⟩ := Bool.and_eq_true_iff.mp h
  refine ⟨Nat.le_of_ble_eq_true h1, fun hs => ?_⟩
  rw [hs, Bool.false_or] at h2
  exact Nat.eq_of_beq_eq_true h2
theorem xf_wf_lt : ∀ {r : List xv_I} {q x : xv_I}, xf_wf (q :: r) = true → x ∈ r → q.1 < x.1
  | [], _, _, _, hx => absurd hx List.not_mem_nil
  | q2 :: r, q, x, h, hx => by
    have h1 := (xf_wf_hd h).1
    rcases List.mem_cons.mp hx with e | e
    · rw [e]; exact h1
    · exact Nat.lt_trans h1 (xf_wf_lt (xf_wf_tl h) e)
theorem xf_wf_suf : ∀ {pre cs : List xv_I}, xf_wf (pre ++ cs) = true → xf_wf cs = true
  | [], _, h => h
  | _ :: _, _, h => xf_wf_suf (xf_wf_tl h)
theorem xf_to_suf : ∀ {pre r : List xv_I} {q : xv_I}, xf_wf (pre ++ q :: r) = true → xv_to (pre ++ q :: r) q.1 = q :: r
  | [], r, q, _ => by
    show xv_to (q :: r) q.1 = _
    simp only [xv_to, Nat.beq_refl, cond_true]
  | h :: pre, r, q, hw => by
    have h1 : h.1 < q.1 := xf_wf_lt (r := pre ++ q :: r) hw (List.mem_append.mpr (Or.inr List.mem_cons_self))
    show xv_to (h :: (pre ++ q :: r)) q.1 = _
    simp only [xv_to]
    rw [xf_nbeq (Nat.ne_of_lt h1), cond_false]
    exact xf_to_suf (xf_wf_tl hw)
theorem xf_to_at : ∀ {cs : List xv_I} {t : Nat} {q : xv_I} {r : List xv_I}, xv_to cs t = q :: r → q.1 = t ∧ ∃ pre, cs = pre ++ q :: r
  | [], _, _, _, h => by cases h
  | x :: cs, t, q, r, h => by
    simp only [xv_to] at h
    cases hc : Nat.beq x.1 t <;> simp only [hc, cond_true, cond_false] at h
    · obtain ⟨h1, pre, h2⟩ := xf_to_at h
      exact ⟨h1, x :: pre, by rw [h2]; rfl⟩
    · cases h
      exact ⟨Nat.eq_of_beq_eq_true hc, [], rfl⟩
section XF4
variable {V : Type} {D : xv_D V} {fv : xf_fv V} {ct : List (List (FieldType × Bool))} {at_ : List Nat} {sct : List (List Int32)} {ms : List xv_N}
noncomputable def xf_mk (D : xv_D V) (fv : xf_fv V) (ct : List (List (FieldType × Bool))) (at_ : List Nat) (sct : List (List Int32)) (ms : List xv_N) (y : xv_N) (stop : Nat) (q : xv_I) : Nat × xf_F V := (q.1, bif Nat.beq q.1 stop then xf_stop else xf_of D fv ct at_ sct ms y q.1 q.2)
theorem xf_to_map {y : xv_N} {stop : Nat} : ∀ (cs : List xv_I) (t : Nat), xf_to (cs.map (xf_mk D fv ct at_ sct ms y stop)) t = (xv_to cs t).map (xf_mk D fv ct at_ sct ms y stop)
  | [], _ => rfl
  | q :: cs, t => by
    show (bif Nat.beq q.1 t then xf_mk D fv ct at_ sct ms y stop q :: cs.map (xf_mk D fv ct at_ sct ms y stop) else xf_to (cs.map (xf_mk D fv ct at_ sct ms y stop)) t) = _
    simp only [xv_to]
    cases hc : Nat.beq q.1 t
    · simp only [cond_false]
      exact xf_to_map cs t
    · rfl
/-- THE FAST LOOP is the loop -/
theorem xf_lp_ok (hfv : ∀ (r : V) (k : V → Option (xf_P V)), fv r k = k r) {call : xf_K V} {call' : Nat → List (xv_V V) → xv_M V → Option (xv_R V)} (hcall : ∀ (j : Nat) (as : List (xv_V V)) (n : Nat) (T : xf_T V) (v : Option (xv_V V)) (n' : Nat) (T' : xf_T V), call j as n T = some (v, n', T') → ∀ M, xf_R n T M → ∃ M', call' j as M = some (v, M') ∧ xf_R n' T' M') {y : xv_N} {stop : Nat} (hw : xf_wf y.2.2.2 = true) :
    ∀ (fuel : Nat) (pre cs : List xv_I) (q : xv_I), y.2.2.2 = pre ++ q :: cs → ¬ q.1 = stop → xf_S y (xf_lp (y.2.2.2.map (xf_mk D fv ct at_ sct ms y stop)) call fuel ((q :: cs).map (xf_mk D fv ct at_ sct ms y stop))) (fun L S M c s => xv_lp D ct at_ sct ms call' y stop fuel q.1 (q :: cs) L S M c s) := by
  intro fuel
  induction fuel with
  | zero => intro pre cs q _ _ L S n T c s p _ h; cases h
  | succ fuel ih =>
    have go : ∀ (pre cs : List xv_I) (q : xv_I), y.2.2.2 = pre ++ q :: cs → xf_S y (xf_lp (y.2.2.2.map (xf_mk D fv ct at_ sct ms y stop)) call fuel ((q :: cs).map (xf_mk D fv ct at_ sct ms y stop))) (fun L S M c s => bif Nat.beq q.1 stop then some (.inr (L, S, M, c, s)) else xv_lp D ct at_ sct ms call' y stop fuel q.1 (q :: cs) L S M c s) := by
      intro pre cs q hq
      by_cases e : q.1 = stop
      · intro L S n T c s p _ h M hR
        have hb : Nat.beq q.1 stop = true := by rw [e]; exact Nat.beq_refl _
        refine ⟨.inr (L, S, M, c, s), by simp only [hb, cond_true], ?_⟩
        cases fuel with
        | zero => cases h
        | succ f =>
          have h : (bif Nat.beq q.1 stop then xf_stop else xf_of D fv ct at_ sct ms y q.1 q.2) (xf_lp (y.2.2.2.map (xf_mk D fv ct at_ sct ms y stop)) call f (cs.map (xf_mk D fv ct at_ sct ms y stop))) (fun t => xf_lp (y.2.2.2.map (xf_mk D fv ct at_ sct ms y stop)) call f (xf_to (y.2.2.2.map (xf_mk D fv ct at_ sct ms y stop)) t)) call L S n T c s = some p := h
          rw [hb, cond_true] at h
          exact Or.inr ⟨L, S, n, T, c, s, M, (Option.some.inj h).symm, rfl, hR⟩
      · rw [xf_nbeq e]
        exact ih pre cs q hq e
    intro pre cs q hq hne L S n T c s p hB h M hR
    have h : (bif Nat.beq q.1 stop then xf_stop else xf_of D fv ct at_ sct ms y q.1 q.2) (xf_lp (y.2.2.2.map (xf_mk D fv ct at_ sct ms y stop)) call fuel (cs.map (xf_mk D fv ct at_ sct ms y stop))) (fun t => xf_lp (y.2.2.2.map (xf_mk D fv ct at_ sct ms y stop)) call fuel (xf_to (y.2.2.2.map (xf_mk D fv ct at_ sct ms y stop)) t)) call L S n T c s = some p := h
    rw [xf_nbeq hne, cond_false] at h
    have hnone : ∀ {L : xv_L V} {S : List (xv_V V)} {n : Nat} {T : xf_T V} {c s : Nat} {p : xf_P V} {P : Prop}, xf_lp (y.2.2.2.map (xf_mk D fv ct at_ sct ms y stop)) call fuel [] L S n T c s = some p → P := by
      intro L S n T c s p P h
      cases fuel with
      | zero => cases h
      | succ f => cases h
    have hw2 : xf_wf (q :: cs) = true := xf_wf_suf (pre := pre) (by rw [← hq]; exact hw)
    have hn : xv_sw q.2 = false → xf_S y (xf_lp (y.2.2.2.map (xf_mk D fv ct at_ sct ms y stop)) call fuel (cs.map (xf_mk D fv ct at_ sct ms y stop))) (fun L S M c s => (fun pc cs L S M c s => bif Nat.beq pc stop then some (Sum.inr (L, S, M, c, s)) else xv_lp D ct at_ sct ms call' y stop fuel pc cs L S M c s) (q.1 + xv_len q.2) cs L S M c s) := by
      intro hs
      cases cs with
      | nil => intro L S n T c s p _ h; exact hnone h
      | cons q2 cs =>
        have e2 := (xf_wf_hd hw2).2 hs
        rw [← e2]
        exact go (pre ++ [q]) cs q2 (by rw [hq, List.append_assoc]; rfl)
    have r := xf_one (D := D) (ct := ct) (at_ := at_) (sct := sct) (ms := ms) (y := y) (call' := call') (cs := cs) (i := q.2) (pc := q.1) (ih := fun pc cs L S M c s => bif Nat.beq pc stop then some (Sum.inr (L, S, M, c, s)) else xv_lp D ct at_ sct ms call' y stop fuel pc cs L S M c s) hfv hcall hn (fun h3 => by
      have hs : xv_sw q.2 = false := by
        cases hi : q.2 <;> first | rfl | (rw [hi] at h3; cases h3)
      have hn2 := hn hs
      rw [h3] at hn2
      cases cs with
      | nil => intro L S n T c s p _ h; exact hnone h
      | cons q2 cs =>
        have e2 := (xf_wf_hd hw2).2 hs
        rw [h3] at e2
        have e3 : y.2.2.2 = (pre ++ [q]) ++ q2 :: cs := by rw [hq, List.append_assoc]; rfl
        have e4 : xv_to y.2.2.2 (q.1 + 3) = q2 :: cs := by
          rw [← e2, e3]
          exact xf_to_suf (by rw [← e3]; exact hw)
        rw [e4]
        exact hn2) (fun t => by
      rw [xf_to_map]
      cases ht : xv_to y.2.2.2 t with
      | nil => intro L S n T c s p _ h; exact hnone h
      | cons q2 r =>
        obtain ⟨e1, pre2, e2⟩ := xf_to_at ht
        rw [← e1]
        exact go pre2 r q2 e2) hB h hR
    exact r
/-- .. and what the fast machine runs, the machine runs -/
theorem xf_rn_ok (hfv : ∀ (r : V) (k : V → Option (xf_P V)), fv r k = k r) {fs : List (Nat × List (Nat × xf_F V))} (hfs : ∀ (j : Nat) (q : Nat × List (Nat × xf_F V)), fs[j]? = some q → ∃ (y : xv_N) (i0 : Instr) (cs : List xv_I), ms[j]? = some y ∧ q = (y.2.1.2.1, y.2.2.2.map (xf_mk D fv ct at_ sct ms y 100000)) ∧ xf_wf y.2.2.2 = true ∧ y.2.2.2 = (0, i0) :: cs)
    {fext : Nat → xf_K V} {ext : Nat → Nat → List (xv_V V) → xv_M V → Option (xv_R V)} (he1 : ∀ (d j : Nat) (as : List (xv_V V)) (n : Nat) (T : xf_T V) (v : Option (xv_V V)) (n' : Nat) (T' : xf_T V), fext d j as n T = some (v, n', T') → ∀ M, xf_R n T M → ∃ M', ext d j as M = some (v, M') ∧ xf_R n' T' M') (he2 : ∀ (d j : Nat) (as : List (xv_V V)) (n : Nat) (T : xf_T V), fext d j as n T = none → ∀ M, xf_R n T M → ext d j as M = none) (fuel : Nat) :
    ∀ (d j : Nat) (as : List (xv_V V)) (n : Nat) (T : xf_T V) (v : Option (xv_V V)) (n' : Nat) (T' : xf_T V), xf_rn fs fext fuel d j as n T = some (v, n', T') → ∀ M, xf_R n T M → ∃ M', xv_rn D ct at_ sct ms ext fuel d j as M = some (v, M') ∧ xf_R n' T' M' := by
  intro d
  induction d with
  | zero => intro j as n T v n' T' h; cases h
  | succ d ih =>
    intro j as n T v n' T' h M hR
    have h : (match fext (d + 1) j as n T with
      | some r => some r
      | none => match xf_get fs j with
        | some y => bif Nat.ble (xv_cats as) y.1 then xf_in as y.1 (fun L => xf_un (xf_lp y.2 (xf_rn fs fext fuel d) fuel y.2 L [] n T 0 0)) else none
        | none => none) = some (v, n', T') := h
    have hg : xv_rn D ct at_ sct ms ext fuel (d + 1) j as M = (match ext (d + 1) j as M with
      | some r => some r
      | none => match ms[j]? with
        | some y => bif Nat.ble (xv_cats as) y.2.1.2.1 then xv_un (xv_lp D ct at_ sct ms (xv_rn D ct at_ sct ms ext fuel d) y 100000 fuel 0 y.2.2.2 (xv_in as y.2.1.2.1) [] M 0 0) else none
        | none => none) := rfl
    rw [hg]
    cases hx : fext (d + 1) j as n T with
    | some r =>
      rw [hx] at h
      obtain ⟨v1, n1, T1⟩ := r
      cases Option.some.inj h
      obtain ⟨M', h1, h2⟩ := he1 _ _ _ _ _ _ _ _ hx M hR
      exact ⟨M', by rw [h1], h2⟩
    | none =>
      rw [hx] at h
      rw [he2 _ _ _ _ _ hx M hR]
      dsimp only at h ⊢
      rw [xf_get_eq] at h
      cases hq : fs[j]? with
      | none => rw [hq] at h; cases h
      | some q =>
        rw [hq] at h
        dsimp only at h
        obtain ⟨y, i0, cs, hy, rfl, hw, hcs⟩ := hfs j q hq
        rw [hy]
        dsimp only at h ⊢
        cases hc : Nat.ble (xv_cats as) y.2.1.2.1 <;> simp only [hc, cond_true, cond_false] at h ⊢
        · cases h
        rw [xf_in_eq] at h
        have hlp := xf_lp_ok (D := D) (fv := fv) (ct := ct) (at_ := at_) (sct := sct) (ms := ms) hfv ih (stop := 100000) hw fuel [] cs (0, i0) hcs (by show ¬ 0 = 100000; omega)
        rw [← hcs] at hlp
        cases hp : xf_lp (y.2.2.2.map (xf_mk D fv ct at_ sct ms y 100000)) (xf_rn fs fext fuel d) fuel (y.2.2.2.map (xf_mk D fv ct at_ sct ms y 100000)) (xv_in as y.2.1.2.1) [] n T 0 0 with
        | none => rw [hp] at h; cases h
        | some p =>
          rw [hp] at h
          obtain ⟨b, hb1, hb2⟩ := hlp _ _ _ _ _ _ _ ⟨Nat.zero_le _, Nat.zero_le _⟩ hp M hR
          rcases hb2 with ⟨v1, n1, T1, M1, rfl, rfl, hR1⟩ | ⟨_, _, _, _, _, _, _, rfl, _⟩
          · cases Option.some.inj h
            refine ⟨M1, ?_, hR1⟩
            have hb1 : xv_lp D ct at_ sct ms (xv_rn D ct at_ sct ms ext fuel d) y 100000 fuel 0 y.2.2.2 (xv_in as y.2.1.2.1) [] M 0 0 = some (.inl (v, M1)) := hb1
            rw [hb1]
            rfl
          · cases h
end XF4
end
section
/-! THE DOMAIN: exact numbers (.inl n), numbers between two bounds (.inr (lo, hi)); .inr (lo, hi) with hi < lo: the lowest six bits are hi -/
abbrev xd_V : Type := Int ⊕ (Int × Int)
def xd_le : Int → Int → Bool
  | .ofNat m, .ofNat n => Nat.ble m n
  | .ofNat _, .negSucc _ => false
  | .negSucc _, .ofNat _ => true
  | .negSucc m, .negSucc n => Nat.ble n m
def xd_top : xd_V := .inr (-2147483648, 2147483647)
def xd_r32 (z : Int) : Option xd_V := bif xd_le (-2147483648) z && xd_le z 2147483647 then some (.inl z) else none
def xd_r64 (z : Int) : Option xd_V := bif xd_le (-9223372036854775808) z && xd_le z 9223372036854775807 then some (.inl z) else none
def xd_i32 (o : Nat) (a b : Int) : Option xd_V := match xv_semI o (Int32.ofInt a) (Int32.ofInt b) with
  | some z => some (.inl z.toInt)
  | none => none
def xd_i64 (o : Nat) (a b : Int) : Option xd_V := match xv_semL o (Int64.ofInt a) (Int64.ofInt b) with
  | some z => some (.inl z.toInt)
  | none => none
def xd_is0 : Int → Bool
  | .ofNat 0 => true
  | _ => false
/-- numbers that aren't exact: nothing is known of the answer -/
def xd_ex (f : Int → Int → Option xd_V) (u : Option xd_V) (a b : xd_V) : Option xd_V := match a, b with
  | .inl x, .inl y => f x y
  | _, _ => u
def xd_add : xd_V → xd_V → Option xd_V := xd_ex (fun a b => xd_r32 (Int.add a b)) (some xd_top)
def xd_sub : xd_V → xd_V → Option xd_V := xd_ex (fun a b => xd_r32 (Int.sub a b)) (some xd_top)
def xd_mul : xd_V → xd_V → Option xd_V := xd_ex (fun a b => xd_r32 (Int.mul a b)) (some xd_top)
def xd_anx : Int → Int → Option xd_V := xd_i32 3
/-- the lowest six bits may be known -/
def xd_an (a b : xd_V) : Option xd_V := match a, b with
  | .inl x, .inl y => xd_anx x y
  | .inr (lo, hi), .inl n => bif xd_le n 63 && xd_le 63 n && !xd_le lo hi then some (.inl hi) else some xd_top
  | _, _ => some xd_top
def xd_orx : Int → Int → Option xd_V := xd_i32 4
def xd_div (a b : Int) : Option xd_V := bif xd_is0 b then none else xd_r32 (Int.tdiv a b)
def xd_rem (a b : Int) : Option xd_V := bif xd_is0 b then none else xd_r32 (Int.tmod a b)
def xd_andl : Int → Int → Option xd_V := xd_i64 3
def xd_orl : Int → Int → Option xd_V := xd_i64 4
def xd_divl (a b : Int) : Option xd_V := bif xd_is0 b then none else xd_r64 (Int.tdiv a b)
def xd_reml (a b : Int) : Option xd_V := bif xd_is0 b then none else xd_r64 (Int.tmod a b)
def xd_lcmp (a b : Int) : Option xd_V := bif xd_le a b then (bif xd_le b a then some (.inl 0) else some (.inl (-1))) else some (.inl 1)
def xd_op : Nat → xd_V → xd_V → Option xd_V
  | 0 => xd_add
  | 1 => xd_sub
  | 2 => xd_mul
  | 3 => xd_an
  | 4 => xd_ex xd_orx (some xd_top)
  | 5 => xd_ex (xd_i32 5) (some xd_top)
  | 6 => xd_ex (xd_i32 6) (some xd_top)
  | 7 => xd_ex (xd_i32 7) (some xd_top)
  | 8 => xd_ex xd_div none
  | 9 => xd_ex xd_rem none
  | 10 => xd_ex (fun a _ => xd_r32 (Int.neg a)) (some xd_top)
  | 20 => xd_ex (fun a b => xd_r64 (Int.add a b)) none
  | 21 => xd_ex (fun a b => xd_r64 (Int.sub a b)) none
  | 22 => xd_ex (fun a b => xd_r64 (Int.mul a b)) none
  | 23 => xd_ex xd_andl none
  | 24 => xd_ex xd_orl none
  | 25 => xd_ex xd_divl none
  | 26 => xd_ex xd_reml none
  | 27 => xd_ex (fun a _ => xd_r64 (Int.neg a)) none
  | 30 => xd_ex (fun a b => some (.inl (Int64.ofInt a <<< ((Int32.ofInt b).toInt64 &&& 63)).toInt)) none
  | 31 => xd_ex (fun a b => some (.inl (Int64.ofInt a >>> ((Int32.ofInt b).toInt64 &&& 63)).toInt)) none
  | 40 => xd_ex (fun a _ => some (.inl a)) none
  | 41 => xd_ex (fun a _ => xd_r32 a) none
  | 42 => xd_ex xd_lcmp none
  | _ => fun _ _ => none
def xd_b : xd_V → Int × Int
  | .inl n => (n, n)
  | .inr (lo, hi) => bif xd_le lo hi then (lo, hi) else (-2147483648, 2147483647)
/-- a comparison: f of exact numbers, q of bounds -/
def xd_c (f : Int → Int → Bool) (q : Int → Int → Int → Int → Option Bool) (a b : xd_V) : Option Bool := match a, b with
  | .inl x, .inl y => some (f x y)
  | a, b => match xd_b a, xd_b b with
    | (al, ah), (bl, bh) => q al ah bl bh
def xd_eqx (a b : Int) : Bool := xd_le a b && xd_le b a
def xd_eqq (al ah bl bh : Int) : Option Bool := bif !xd_le bl ah || !xd_le al bh then some false else none
def xd_neq (al ah bl bh : Int) : Option Bool := bif !xd_le bl ah || !xd_le al bh then some true else none
def xd_ltq (al ah bl bh : Int) : Option Bool := bif xd_le bh al then some false else bif !xd_le bl ah then some true else none
def xd_geq (al ah bl bh : Int) : Option Bool := bif xd_le bh al then some true else bif !xd_le bl ah then some false else none
def xd_gtq (al ah bl bh : Int) : Option Bool := bif xd_le ah bl then some false else bif !xd_le al bh then some true else none
def xd_leq (al ah bl bh : Int) : Option Bool := bif xd_le ah bl then some true else bif !xd_le al bh then some false else none
def xd_cmp : Nat → xd_V → xd_V → Option Bool
  | 0 => xd_c xd_eqx xd_eqq
  | 1 => xd_c (fun a b => !xd_eqx a b) xd_neq
  | 2 => xd_c (fun a b => !xd_le b a) xd_ltq
  | 3 => xd_c (fun a b => xd_le b a) xd_geq
  | 4 => xd_c (fun a b => !xd_le a b) xd_gtq
  | _ => xd_c xd_le xd_leq
def xd_val : xd_V → Option Int
  | .inl n => some n
  | .inr _ => none
def xd_bit : xd_V → Bool
  | .inl n => xd_le 0 n && xd_le n 1
  | .inr _ => false
def xd_D : xv_D xd_V := (fun n => .inl n.toInt, fun n => .inl n.toInt, xd_op, xd_cmp, xd_val, xd_bit)
/-- a number laid out -/
noncomputable def xd_fi {β : Type} (z : Int) (k : Int → β) : β := Int.rec (motive := fun _ => β) (fun n => xf_nat n (fun n => k (.ofNat n))) (fun n => xf_nat n (fun n => k (.negSucc n))) z
theorem xd_fi_eq {β : Type} (z : Int) (k : Int → β) : xd_fi z k = k z := by
  cases z with
  | ofNat n => exact xf_nat_eq n (fun n => k (.ofNat n))
  | negSucc n => exact xf_nat_eq n (fun n => k (.negSucc n))
noncomputable def xd_fv : xf_fv xd_V := fun r k => match r with
  | .inl z => xd_fi z (fun z => k (.inl z))
  | .inr q => k (.inr q)
theorem xd_fv_eq (r : xd_V) (k : xd_V → Option (xf_P xd_V)) : xd_fv r k = k r := by
  cases r with
  | inl z => exact xd_fi_eq z (fun z => k (.inl z))
  | inr q => rfl
end
section
/-! THE DOMAIN IS RIGHT -/
def xd_g (v : xd_V) (x : Value) : Prop := match v, x with
  | .inl n, .int z => z.toInt = n
  | .inl n, .long z => z.toInt = n
  | .inr q, .int z => (xd_le q.1 q.2 = true → q.1 ≤ z.toInt ∧ z.toInt ≤ q.2) ∧ (xd_le q.1 q.2 = false → (z &&& 63).toInt = q.2)
  | _, _ => False
theorem xd_le_iff (a b : Int) : xd_le a b = true ↔ a ≤ b := by
  cases a with
  | ofNat m =>
    cases b with
    | ofNat n =>
      show Nat.ble m n = true ↔ (m : Int) ≤ (n : Int)
      exact ⟨fun h => Int.ofNat_le.mpr (Nat.le_of_ble_eq_true h), fun h => Nat.ble_eq_true_of_le (Int.ofNat_le.mp h)⟩
    | negSucc n =>
      show false = true ↔ (m : Int) ≤ Int.negSucc n
      exact ⟨fun h => (by cases h), fun h => (by omega)⟩
  | negSucc m =>
    cases b with
    | ofNat n =>
      show true = true ↔ Int.negSucc m ≤ (n : Int)
      exact ⟨fun _ => by omega, fun _ => rfl⟩
    | negSucc n =>
      show Nat.ble n m = true ↔ Int.negSucc m ≤ Int.negSucc n
      exact ⟨fun h => by have := Nat.le_of_ble_eq_true h; omega, fun h => Nat.ble_eq_true_of_le (by omega)⟩
theorem xd_le_false (a b : Int) : xd_le a b = false ↔ b < a := by
  have h := xd_le_iff a b
  cases hc : xd_le a b
  · rw [hc] at h
    exact ⟨fun _ => Int.not_le.mp (fun q => by cases h.mpr q), fun _ => rfl⟩
  · rw [hc] at h
    exact ⟨fun q => (by cases q), fun q => absurd (h.mp rfl) (Int.not_le.mpr q)⟩
theorem xd_gtop (z : Int32) : xd_g xd_top (.int z) := by
  have h1 := z.le_toInt
  have h2 := z.toInt_lt
  exact ⟨fun _ => ⟨by show (-2147483648 : Int) ≤ _; omega, by show _ ≤ (2147483647 : Int); omega⟩, fun h => by cases h⟩
theorem xd_r32_ok {z : Int} {r : xd_V} (h : xd_r32 z = some r) : r = .inl z ∧ (Int32.ofInt z).toInt = z := by
  unfold xd_r32 at h
  cases h1 : xd_le (-2147483648) z <;> simp only [h1, Bool.false_and, Bool.true_and, cond_false, cond_true, reduceCtorEq] at h
  cases h2 : xd_le z 2147483647 <;> simp only [h2, cond_false, cond_true, reduceCtorEq] at h
  have g1 := (xd_le_iff _ _).mp h1
  have g2 := (xd_le_iff _ _).mp h2
  exact ⟨(Option.some.inj h).symm, Int32.toInt_ofInt_of_le (by omega) (by omega)⟩
theorem xd_r64_ok {z : Int} {r : xd_V} (h : xd_r64 z = some r) : r = .inl z ∧ (Int64.ofInt z).toInt = z := by
  unfold xd_r64 at h
  cases h1 : xd_le (-9223372036854775808) z <;> simp only [h1, Bool.false_and, Bool.true_and, cond_false, cond_true, reduceCtorEq] at h
  cases h2 : xd_le z 9223372036854775807 <;> simp only [h2, cond_false, cond_true, reduceCtorEq] at h
  have g1 := (xd_le_iff _ _).mp h1
  have g2 := (xd_le_iff _ _).mp h2
  exact ⟨(Option.some.inj h).symm, Int64.toInt_ofInt_of_le (by omega) (by omega)⟩
/-- what an operation must do on exact numbers -/
theorem xd_ex_i {f : Int → Int → Option xd_V} {u : Option xd_V} {a b r : xd_V} {x y : Int32} {o : Nat} (h : xd_ex f u a b = some r) (ha : xd_g a (.int x)) (hb : xd_g b (.int y))
    (hf : ∀ r, f x.toInt y.toInt = some r → ∃ z, xv_semI o x y = some z ∧ xd_g r (.int z)) (hu : ∀ r, u = some r → ∃ z, xv_semI o x y = some z ∧ xd_g r (.int z)) : ∃ z, xv_semI o x y = some z ∧ xd_g r (.int z) := by
  unfold xd_ex at h
  split at h
  · rw [← show x.toInt = _ from ha, ← show y.toInt = _ from hb] at h
    exact hf _ h
  · exact hu _ h
theorem xd_ex_l {f : Int → Int → Option xd_V} {a b r : xd_V} {x y : Int64} {P : xd_V → Prop} (h : xd_ex f none a b = some r) (ha : xd_g a (.long x)) (hb : xd_g b (.long y)) (hf : ∀ r, f x.toInt y.toInt = some r → P r) : P r := by
  unfold xd_ex at h
  split at h
  · rw [← show x.toInt = _ from ha, ← show y.toInt = _ from hb] at h
    exact hf _ h
  · cases h
theorem xd_top_i {o : Nat} {x y : Int32} (hs : ∃ z, xv_semI o x y = some z) : ∀ r, some xd_top = some r → ∃ z, xv_semI o x y = some z ∧ xd_g r (.int z) := fun r h => by
  cases Option.some.inj h
  obtain ⟨z, hz⟩ := hs
  exact ⟨z, hz, xd_gtop z⟩
theorem xd_i32_ok {o : Nat} {x y : Int32} : ∀ r, xd_i32 o x.toInt y.toInt = some r → ∃ z, xv_semI o x y = some z ∧ xd_g r (.int z) := fun r h => by
  unfold xd_i32 at h
  rw [Int32.ofInt_toInt, Int32.ofInt_toInt] at h
  split at h
  · rename_i z hz
    cases Option.some.inj h
    exact ⟨z, hz, rfl⟩
  · cases h
theorem xd_i64_ok {o : Nat} {x y : Int64} : ∀ r, xd_i64 o x.toInt y.toInt = some r → ∃ z, xv_semL o x y = some z ∧ xd_g r (.long z) := fun r h => by
  unfold xd_i64 at h
  rw [Int64.ofInt_toInt, Int64.ofInt_toInt] at h
  split at h
  · rename_i z hz
    cases Option.some.inj h
    exact ⟨z, hz, rfl⟩
  · cases h
theorem xd_is0_f {b : Int} (h : xd_is0 b = false) : b ≠ 0 := by
  intro e
  rw [e] at h
  cases h
theorem xd_mn32 (x : Int32) : Int32.minValue.toInt ≤ x.toInt ∧ x.toInt ≤ Int32.maxValue.toInt := ⟨x.minValue_le_toInt, x.toInt_le⟩
theorem xd_mn64 (x : Int64) : Int64.minValue.toInt ≤ x.toInt ∧ x.toInt ≤ Int64.maxValue.toInt := ⟨x.minValue_le_toInt, x.toInt_le⟩
theorem xd_div32 (x y : Int32) : Int32.ofInt (x.toInt.tdiv y.toInt) = x / y := by
  rw [Int32.ofInt_tdiv (xd_mn32 x).1 (xd_mn32 x).2 (xd_mn32 y).1 (xd_mn32 y).2, Int32.ofInt_toInt, Int32.ofInt_toInt]
theorem xd_div64 (x y : Int64) : Int64.ofInt (x.toInt.tdiv y.toInt) = x / y := by
  rw [Int64.ofInt_tdiv (xd_mn64 x).1 (xd_mn64 x).2 (xd_mn64 y).1 (xd_mn64 y).2, Int64.ofInt_toInt, Int64.ofInt_toInt]
theorem xd_rem32 (x y : Int32) : Int32.ofInt (x.toInt.tmod y.toInt) = x - x / y * y := by
  rw [Int.tmod_def, Int32.ofInt_sub, Int32.ofInt_mul, Int32.ofInt_toInt, Int32.ofInt_toInt, xd_div32, Int32.mul_comm]
theorem xd_rem64 (x y : Int64) : Int64.ofInt (x.toInt.tmod y.toInt) = x - x / y * y := by
  rw [Int.tmod_def, Int64.ofInt_sub, Int64.ofInt_mul, Int64.ofInt_toInt, Int64.ofInt_toInt, xd_div64, Int64.mul_comm]
theorem xd_eqz32 {y : Int32} (h : y.toInt ≠ 0) : ¬ y = 0 := fun e => h (by rw [e]; rfl)
theorem xd_eqz64 {y : Int64} (h : y.toInt ≠ 0) : ¬ y = 0 := fun e => h (by rw [e]; rfl)
theorem xd_anI {a b r : xd_V} {x y : Int32} (h : xd_an a b = some r) (ha : xd_g a (.int x)) (hb : xd_g b (.int y)) : ∃ z, xv_semI 3 x y = some z ∧ xd_g r (.int z) := by
  unfold xd_an at h
  split at h
  · rw [← show x.toInt = _ from ha, ← show y.toInt = _ from hb] at h
    exact xd_i32_ok (o := 3) _ h
  · rename_i lo hi n
    cases hc : (xd_le n 63 && xd_le 63 n && !xd_le lo hi) <;> simp only [hc, cond_true, cond_false] at h
    · cases Option.some.inj h
      exact ⟨x &&& y, rfl, xd_gtop _⟩
    · cases Option.some.inj h
      obtain ⟨h1, h2⟩ := Bool.and_eq_true_iff.mp hc
      obtain ⟨h3, h4⟩ := Bool.and_eq_true_iff.mp h1
      have e1 := (xd_le_iff _ _).mp h3
      have e2 := (xd_le_iff _ _).mp h4
      have hb : y.toInt = n := hb
      have ey : y = 63 := Int32.toInt_inj.mp (by rw [hb]; show n = 63; omega)
      refine ⟨x &&& y, rfl, ?_⟩
      rw [ey]
      exact ha.2 (by simpa using h2)
  · cases Option.some.inj h
    exact ⟨x &&& y, rfl, xd_gtop _⟩
theorem xd_opI (o : Nat) (a b r : xd_V) (x y : Int32) (_ : o < 20) (h : xd_op o a b = some r) (ha : xd_g a (.int x)) (hb : xd_g b (.int y)) : ∃ z, xv_semI o x y = some z ∧ xd_g r (.int z) := by
  match o, h with
  | 0, h => exact xd_ex_i h ha hb (fun r h => by
      obtain ⟨rfl, e⟩ := xd_r32_ok h
      refine ⟨x + y, rfl, ?_⟩
      rw [show Int.add x.toInt y.toInt = x.toInt + y.toInt from rfl, Int32.ofInt_add, Int32.ofInt_toInt, Int32.ofInt_toInt] at e
      exact e) (xd_top_i ⟨_, rfl⟩)
  | 1, h => exact xd_ex_i h ha hb (fun r h => by
      obtain ⟨rfl, e⟩ := xd_r32_ok h
      refine ⟨x - y, rfl, ?_⟩
      rw [show Int.sub x.toInt y.toInt = x.toInt - y.toInt from rfl, Int32.ofInt_sub, Int32.ofInt_toInt, Int32.ofInt_toInt] at e
      exact e) (xd_top_i ⟨_, rfl⟩)
  | 2, h => exact xd_ex_i h ha hb (fun r h => by
      obtain ⟨rfl, e⟩ := xd_r32_ok h
      refine ⟨x * y, rfl, ?_⟩
      rw [show Int.mul x.toInt y.toInt = x.toInt * y.toInt from rfl, Int32.ofInt_mul, Int32.ofInt_toInt, Int32.ofInt_toInt] at e
      exact e) (xd_top_i ⟨_, rfl⟩)
  | 3, h => exact xd_anI h ha hb
  | 4, h => exact xd_ex_i h ha hb (xd_i32_ok (o := 4)) (xd_top_i ⟨_, rfl⟩)
  | 5, h => exact xd_ex_i h ha hb (xd_i32_ok (o := 5)) (xd_top_i ⟨_, rfl⟩)
  | 6, h => exact xd_ex_i h ha hb (xd_i32_ok (o := 6)) (xd_top_i ⟨_, rfl⟩)
  | 7, h => exact xd_ex_i h ha hb (xd_i32_ok (o := 7)) (xd_top_i ⟨_, rfl⟩)
  | 8, h => exact xd_ex_i h ha hb (fun r h => by
      unfold xd_div at h
      cases h0 : xd_is0 y.toInt <;> simp only [h0, cond_true, cond_false, reduceCtorEq] at h
      obtain ⟨rfl, e⟩ := xd_r32_ok h
      refine ⟨x / y, by simp only [xv_semI, xd_eqz32 (xd_is0_f h0), if_false], ?_⟩
      rw [xd_div32] at e
      exact e) (fun r h => by cases h)
  | 9, h => exact xd_ex_i h ha hb (fun r h => by
      unfold xd_rem at h
      cases h0 : xd_is0 y.toInt <;> simp only [h0, cond_true, cond_false, reduceCtorEq] at h
      obtain ⟨rfl, e⟩ := xd_r32_ok h
      refine ⟨x - x / y * y, by simp only [xv_semI, xd_eqz32 (xd_is0_f h0), if_false], ?_⟩
      rw [xd_rem32] at e
      exact e) (fun r h => by cases h)
  | 10, h => exact xd_ex_i h ha hb (fun r h => by
      obtain ⟨rfl, e⟩ := xd_r32_ok h
      refine ⟨-x, rfl, ?_⟩
      rw [show Int.neg x.toInt = -x.toInt from rfl, Int32.ofInt_neg, Int32.ofInt_toInt] at e
      exact e) (xd_top_i ⟨_, rfl⟩)
  | 11, h => cases h
  | 12, h => cases h
  | 13, h => cases h
  | 14, h => cases h
  | 15, h => cases h
  | 16, h => cases h
  | 17, h => cases h
  | 18, h => cases h
  | 19, h => cases h
  | n + 20, h => omega
theorem xd_opL (o : Nat) (a b r : xd_V) (x y : Int64) (_ : o < 10) (h : xd_op (o + 20) a b = some r) (ha : xd_g a (.long x)) (hb : xd_g b (.long y)) : ∃ z, xv_semL o x y = some z ∧ xd_g r (.long z) := by
  match o, h with
  | 0, h => exact xd_ex_l h ha hb (P := fun r => ∃ z, xv_semL 0 x y = some z ∧ xd_g r (.long z)) (fun r h => by
      obtain ⟨rfl, e⟩ := xd_r64_ok h
      refine ⟨x + y, rfl, ?_⟩
      rw [show Int.add x.toInt y.toInt = x.toInt + y.toInt from rfl, Int64.ofInt_add, Int64.ofInt_toInt, Int64.ofInt_toInt] at e
      exact e)
  | 1, h => exact xd_ex_l h ha hb (P := fun r => ∃ z, xv_semL 1 x y = some z ∧ xd_g r (.long z)) (fun r h => by
      obtain ⟨rfl, e⟩ := xd_r64_ok h
      refine ⟨x - y, rfl, ?_⟩
      rw [show Int.sub x.toInt y.toInt = x.toInt - y.toInt from rfl, Int64.ofInt_sub, Int64.ofInt_toInt, Int64.ofInt_toInt] at e
      exact e)
  | 2, h => exact xd_ex_l h ha hb (P := fun r => ∃ z, xv_semL 2 x y = some z ∧ xd_g r (.long z)) (fun r h => by
      obtain ⟨rfl, e⟩ := xd_r64_ok h
      refine ⟨x * y, rfl, ?_⟩
      rw [show Int.mul x.toInt y.toInt = x.toInt * y.toInt from rfl, Int64.ofInt_mul, Int64.ofInt_toInt, Int64.ofInt_toInt] at e
      exact e)
  | 3, h => exact xd_ex_l h ha hb (P := fun r => ∃ z, xv_semL 3 x y = some z ∧ xd_g r (.long z)) (xd_i64_ok (o := 3))
  | 4, h => exact xd_ex_l h ha hb (P := fun r => ∃ z, xv_semL 4 x y = some z ∧ xd_g r (.long z)) (xd_i64_ok (o := 4))
  | 5, h => exact xd_ex_l h ha hb (P := fun r => ∃ z, xv_semL 5 x y = some z ∧ xd_g r (.long z)) (fun r h => by
      unfold xd_divl at h
      cases h0 : xd_is0 y.toInt <;> simp only [h0, cond_true, cond_false, reduceCtorEq] at h
      obtain ⟨rfl, e⟩ := xd_r64_ok h
      refine ⟨x / y, by simp only [xv_semL, xd_eqz64 (xd_is0_f h0), if_false], ?_⟩
      rw [xd_div64] at e
      exact e)
  | 6, h => exact xd_ex_l h ha hb (P := fun r => ∃ z, xv_semL 6 x y = some z ∧ xd_g r (.long z)) (fun r h => by
      unfold xd_reml at h
      cases h0 : xd_is0 y.toInt <;> simp only [h0, cond_true, cond_false, reduceCtorEq] at h
      obtain ⟨rfl, e⟩ := xd_r64_ok h
      refine ⟨x - x / y * y, by simp only [xv_semL, xd_eqz64 (xd_is0_f h0), if_false], ?_⟩
      rw [xd_rem64] at e
      exact e)
  | 7, h => exact xd_ex_l h ha hb (P := fun r => ∃ z, xv_semL 7 x y = some z ∧ xd_g r (.long z)) (fun r h => by
      obtain ⟨rfl, e⟩ := xd_r64_ok h
      refine ⟨-x, rfl, ?_⟩
      rw [show Int.neg x.toInt = -x.toInt from rfl, Int64.ofInt_neg, Int64.ofInt_toInt] at e
      exact e)
  | 8, h => cases h
  | 9, h => cases h
  | n + 10, h => omega
theorem xd_cq_i {f : Int → Int → Bool} {q : Int → Int → Int → Int → Option Bool} {a b : xd_V} {t : Bool} {x y : Int32} {P : Bool → Prop} (h : xd_c f q a b = some t) (ha : xd_g a (.int x)) (hb : xd_g b (.int y)) (hf : P (f x.toInt y.toInt)) (hq : ∀ al ah bl bh : Int, al ≤ x.toInt → x.toInt ≤ ah → bl ≤ y.toInt → y.toInt ≤ bh → q al ah bl bh = some t → P t) : P t := by
  have hbd : ∀ {v : xd_V} {z : Int32}, xd_g v (.int z) → (xd_b v).1 ≤ z.toInt ∧ z.toInt ≤ (xd_b v).2 := by
    intro v z hz
    cases v with
    | inl n =>
      have hz : z.toInt = n := hz
      exact ⟨by show n ≤ _; omega, by show _ ≤ n; omega⟩
    | inr q =>
      obtain ⟨lo, hi⟩ := q
      simp only [xd_b]
      cases hc : xd_le lo hi
      · have h1 := z.le_toInt
        have h2 := z.toInt_lt
        simp only [cond_false]
        exact ⟨by show (-2147483648 : Int) ≤ _; omega, by show _ ≤ (2147483647 : Int); omega⟩
      · simp only [cond_true]
        exact hz.1 hc
  unfold xd_c at h
  split at h
  · cases Option.some.inj h
    rw [← show x.toInt = _ from ha, ← show y.toInt = _ from hb]
    exact hf
  · exact hq _ _ _ _ (hbd ha).1 (hbd ha).2 (hbd hb).1 (hbd hb).2 h
theorem xd_cmpI (o : Nat) (a b : xd_V) (t : Bool) (x y : Int32) (h : xd_cmp o a b = some t) (ha : xd_g a (.int x)) (hb : xd_g b (.int y)) : xv_cmp o x y = t := by
  have key : ∀ {f : Int → Int → Bool} {q : Int → Int → Int → Int → Option Bool} {P : Prop} [Decidable P], xd_c f q a b = some t → (f x.toInt y.toInt = true ↔ P) → (∀ al ah bl bh : Int, al ≤ x.toInt → x.toInt ≤ ah → bl ≤ y.toInt → y.toInt ≤ bh → q al ah bl bh = some t → (t = true ↔ P)) → decide P = t := by
    intro f q P _ h h1 h2
    have h3 : t = true ↔ P := xd_cq_i (P := fun t => t = true ↔ P) h ha hb h1 h2
    cases t
    · exact decide_eq_false (fun p => by cases h3.mpr p)
    · exact decide_eq_true (h3.mp rfl)
  have two : ∀ {c1 c2 : Bool} {p q : Bool}, (bif c1 then some p else bif c2 then some q else none) = some t → (c1 = true ∧ t = p) ∨ (c2 = true ∧ t = q) := by
    intro c1 c2 p q h
    cases c1 <;> cases c2 <;> simp at h
    · exact Or.inr ⟨rfl, h.symm⟩
    · exact Or.inl ⟨rfl, h.symm⟩
    · exact Or.inl ⟨rfl, h.symm⟩
  have one : ∀ {c1 p : Bool}, (bif c1 then some p else none) = some t → c1 = true ∧ t = p := by
    intro c1 p h
    cases c1 <;> simp at h
    exact ⟨rfl, h.symm⟩
  have nle : ∀ {p q : Int}, (!xd_le p q) = true → q < p := fun h => (xd_le_false _ _).mp (by simpa using h)
  have out : ∀ {al ah bl bh : Int}, (!xd_le bl ah || !xd_le al bh) = true → al ≤ x.toInt → x.toInt ≤ ah → bl ≤ y.toInt → y.toInt ≤ bh → x ≠ y := by
    intro al ah bl bh hc h1 h2 h3 h4 e
    rw [e] at h1 h2
    rcases Bool.or_eq_true_iff.mp hc with q | q
    · have := nle q; omega
    · have := nle q; omega
  have eqx : xd_eqx x.toInt y.toInt = true ↔ x = y := by
    unfold xd_eqx
    rw [Bool.and_eq_true_iff, xd_le_iff, xd_le_iff, ← Int32.toInt_inj]
    omega
  match o, h with
  | 0, h => exact key h eqx (fun al ah bl bh h1 h2 h3 h4 h => by
      obtain ⟨hc, rfl⟩ := one h
      exact ⟨fun q => (by cases q), fun q => absurd q (out hc h1 h2 h3 h4)⟩)
  | 1, h =>
    have h5 := key (P := ¬ x = y) h (by rw [Bool.not_eq_true']; constructor
                                        · intro q e; rw [eqx.mpr e] at q; cases q
                                        · intro q; cases hq : xd_eqx x.toInt y.toInt
                                          · rfl
                                          · exact absurd (eqx.mp hq) q) (fun al ah bl bh h1 h2 h3 h4 h => by
      obtain ⟨hc, rfl⟩ := one h
      exact ⟨fun _ => out hc h1 h2 h3 h4, fun _ => rfl⟩)
    rw [← h5]
    show (!decide (x = y)) = _
    simp
  | 2, h => exact key h (by rw [Int32.lt_iff_toInt_lt, Bool.not_eq_true', xd_le_false]) (fun al ah bl bh h1 h2 h3 h4 h => by
      rcases two h with ⟨hc, rfl⟩ | ⟨hc, rfl⟩
      · have := (xd_le_iff _ _).mp hc
        exact ⟨fun q => (by cases q), fun q => by have := Int32.lt_iff_toInt_lt.mp q; omega⟩
      · have := nle hc
        exact ⟨fun _ => Int32.lt_iff_toInt_lt.mpr (by omega), fun _ => rfl⟩)
  | 3, h => exact key h (by rw [Int32.le_iff_toInt_le, xd_le_iff]) (fun al ah bl bh h1 h2 h3 h4 h => by
      rcases two h with ⟨hc, rfl⟩ | ⟨hc, rfl⟩
      · have := (xd_le_iff _ _).mp hc
        exact ⟨fun _ => Int32.le_iff_toInt_le.mpr (by omega), fun _ => rfl⟩
      · have := nle hc
        exact ⟨fun q => (by cases q), fun q => by have := Int32.le_iff_toInt_le.mp q; omega⟩)
  | 4, h => exact key h (by rw [Int32.lt_iff_toInt_lt, Bool.not_eq_true', xd_le_false]) (fun al ah bl bh h1 h2 h3 h4 h => by
      rcases two h with ⟨hc, rfl⟩ | ⟨hc, rfl⟩
      · have := (xd_le_iff _ _).mp hc
        exact ⟨fun q => (by cases q), fun q => by have := Int32.lt_iff_toInt_lt.mp q; omega⟩
      · have := nle hc
        exact ⟨fun _ => Int32.lt_iff_toInt_lt.mpr (by omega), fun _ => rfl⟩)
  | n + 5, h => exact key (q := xd_leq) (f := xd_le) h (by rw [Int32.le_iff_toInt_le, xd_le_iff]) (fun al ah bl bh h1 h2 h3 h4 h => by
      rcases two h with ⟨hc, rfl⟩ | ⟨hc, rfl⟩
      · have := (xd_le_iff _ _).mp hc
        exact ⟨fun _ => Int32.le_iff_toInt_le.mpr (by omega), fun _ => rfl⟩
      · have := nle hc
        exact ⟨fun q => (by cases q), fun q => by have := Int32.le_iff_toInt_le.mp q; omega⟩)
theorem xd_ok : xv_ok xd_D xd_g := by
  refine ⟨fun _ => rfl, fun _ => rfl, xd_opI, xd_opL, ?_, ?_, ?_, ?_, ?_, xd_cmpI, ?_, ?_⟩
  · intro a b r x y h ha hb
    have h : xd_ex (fun a b => some (.inl (Int64.ofInt a <<< ((Int32.ofInt b).toInt64 &&& 63)).toInt)) none a b = some r := h
    unfold xd_ex at h
    split at h
    · rw [← show x.toInt = _ from ha, ← show y.toInt = _ from hb] at h
      dsimp only at h
      rw [Int64.ofInt_toInt, Int32.ofInt_toInt] at h
      cases Option.some.inj h
      exact rfl
    · cases h
  · intro a b r x y h ha hb
    have h : xd_ex (fun a b => some (.inl (Int64.ofInt a >>> ((Int32.ofInt b).toInt64 &&& 63)).toInt)) none a b = some r := h
    unfold xd_ex at h
    split at h
    · rw [← show x.toInt = _ from ha, ← show y.toInt = _ from hb] at h
      dsimp only at h
      rw [Int64.ofInt_toInt, Int32.ofInt_toInt] at h
      cases Option.some.inj h
      exact rfl
    · cases h
  · intro a b r x h ha
    have h : xd_ex (fun a _ => some (.inl a)) none a b = some r := h
    unfold xd_ex at h
    split at h
    · rw [← show x.toInt = _ from ha] at h
      cases Option.some.inj h
      show x.toInt64.toInt = _
      exact Int32.toInt_toInt64 x
    · cases h
  · intro a b r x h ha
    have h : xd_ex (fun a _ => xd_r32 a) none a b = some r := h
    unfold xd_ex at h
    split at h
    · rw [← show x.toInt = _ from ha] at h
      obtain ⟨rfl, e⟩ := xd_r32_ok h
      show x.toInt32.toInt = _
      rw [Int32.toInt_ofInt] at e
      rw [Int64.toInt_toInt32]
      exact e
    · cases h
  · intro a b r x y h ha hb
    have h : xd_ex xd_lcmp none a b = some r := h
    refine xd_ex_l h ha hb (P := fun r => xd_g r (.int (lg_cmp x y))) (fun r h => ?_)
    unfold xd_lcmp at h
    unfold lg_cmp
    cases h1 : xd_le x.toInt y.toInt <;> simp only [h1, cond_true, cond_false] at h
    · cases Option.some.inj h
      have g1 := (xd_le_false _ _).mp h1
      rw [if_pos (show x > y from Int64.lt_iff_toInt_lt.mpr g1)]
      rfl
    · have g1 := (xd_le_iff _ _).mp h1
      have n1 : ¬ x > y := fun q => by have := Int64.lt_iff_toInt_lt.mp q; omega
      rw [if_neg n1]
      cases h2 : xd_le y.toInt x.toInt <;> simp only [h2, cond_true, cond_false] at h
      · cases Option.some.inj h
        have g2 := (xd_le_false _ _).mp h2
        rw [if_neg (fun q => by rw [q] at g2; omega)]
        rfl
      · cases Option.some.inj h
        have g2 := (xd_le_iff _ _).mp h2
        rw [if_pos (Int64.toInt_inj.mp (by omega))]
        rfl
  · intro a n x h ha
    cases a with
    | inl m =>
      cases Option.some.inj (show some m = some n from h)
      exact ha
    | inr q => cases h
  · intro a x h ha
    cases a with
    | inl m =>
      have h : (xd_le 0 m && xd_le m 1) = true := h
      obtain ⟨h1, h2⟩ := Bool.and_eq_true_iff.mp h
      have g1 := (xd_le_iff _ _).mp h1
      have g2 := (xd_le_iff _ _).mp h2
      have ha : x.toInt = m := ha
      by_cases e : m = 0
      · exact Or.inl (Int32.toInt_inj.mp (by rw [ha, e]; rfl))
      · exact Or.inr (Int32.toInt_inj.mp (by rw [ha, show m = 1 by omega]; rfl))
    | inr q => cases h
end
section
/-! LOOPS that count up to a number of which only bounds are known -/
section XL0
/-- a value that says more: a, less: b -/
def xl_v : xd_V → xd_V → Bool
  | .inl a, .inl b => xd_eqx a b
  | .inl a, .inr b => xd_le b.1 a && xd_le a b.2
  | .inr a, .inr b => xd_eqx a.1 b.1 && xd_eqx a.2 b.2
  | _, _ => false
def xl_V : xv_V xd_V → xv_V xd_V → Bool
  | .inl a, .inl b => xl_v a b
  | .inr (.inl (.inl a)), .inr (.inl (.inl b)) => xd_eqx a b
  | .inr (.inr none), .inr (.inr none) => true
  | .inr (.inr (some a)), .inr (.inr (some b)) => Nat.beq a b
  | _, _ => false
def xl_l {α : Type} (f : α → α → Bool) : List α → List α → Bool
  | [], [] => true
  | a :: l, b :: k => f a b && xl_l f l k
  | _, _ => false
def xl_O (a b : xv_O xd_V) : Bool := Nat.beq a.1 b.1 && xl_l xl_V a.2 b.2
def xl_o : Option (xv_O xd_V) → Option (xv_O xd_V) → Bool
  | none, none => true
  | some a, some b => xl_O a b
  | _, _ => false
def xl_T : xf_T xd_V → xf_T xd_V → Bool := xl_l (xl_l xl_o)
theorem xd_eqx_eq {a b : Int} (h : xd_eqx a b = true) : a = b := by
  obtain ⟨h1, h2⟩ := Bool.and_eq_true_iff.mp h
  exact Int.le_antisymm ((xd_le_iff _ _).mp h1) ((xd_le_iff _ _).mp h2)
theorem xl_v_ok : ∀ {a b : xd_V} {x : Int32}, xl_v a b = true → xd_g a (.int x) → xd_g b (.int x)
  | .inl a, .inl b, x, h, hg => by rw [← xd_eqx_eq h]; exact hg
  | .inl a, .inr (lo, hi), x, h, hg => by
    obtain ⟨h1, h2⟩ := Bool.and_eq_true_iff.mp h
    have g1 := (xd_le_iff _ _).mp h1
    have g2 := (xd_le_iff _ _).mp h2
    have hg : x.toInt = a := hg
    have e : xd_le lo hi = true := (xd_le_iff _ _).mpr (Int.le_trans g1 g2)
    exact ⟨fun _ => by rw [hg]; exact ⟨g1, g2⟩, fun q => by rw [show xd_le (lo, hi).1 (lo, hi).2 = xd_le lo hi from rfl, e] at q; cases q⟩
  | .inr (a, c), .inr (b, d), x, h, hg => by
    obtain ⟨h1, h2⟩ := Bool.and_eq_true_iff.mp h
    have e1 : a = b := xd_eqx_eq h1
    have e2 : c = d := xd_eqx_eq h2
    rw [← e1, ← e2]
    exact hg
theorem xl_V_ok {φ : List Nat} : ∀ {a b : xv_V xd_V} {x : Value}, xl_V a b = true → xr_v xd_g φ a x → xr_v xd_g φ b x
  | .inl a, .inl b, x, h, ⟨n, e, hg⟩ => ⟨n, e, xl_v_ok h hg⟩
  | .inr (.inl (.inl a)), .inr (.inl (.inl b)), x, h, hg => by rw [← xd_eqx_eq h]; exact hg
  | .inr (.inr none), .inr (.inr none), _, _, hg => hg
  | .inr (.inr (some a)), .inr (.inr (some b)), _, h, hg => by rw [← Nat.eq_of_beq_eq_true h]; exact hg
theorem xl_l_at {α : Type} {f : α → α → Bool} : ∀ {l k : List α}, xl_l f l k = true → l.length = k.length ∧ ∀ (i : Nat) (b : α), k[i]? = some b → ∃ a, l[i]? = some a ∧ f a b = true
  | [], [], _ => ⟨rfl, fun i b h => by simp at h⟩
  | a :: l, b :: k, h => by
    obtain ⟨h1, h2⟩ := Bool.and_eq_true_iff.mp h
    obtain ⟨h3, h4⟩ := xl_l_at h2
    refine ⟨by rw [List.length_cons, List.length_cons, h3], fun i c hc => ?_⟩
    cases i with
    | zero =>
      cases Option.some.inj (show some b = some c from hc)
      exact ⟨a, rfl, h1⟩
    | succ i =>
      rw [List.getElem?_cons_succ] at hc ⊢
      exact h4 i c hc
variable {φ : List Nat} {tys : List (ClassId × FieldType)} {kx : xk_C}
theorem xl_e {o o' : xv_O xd_V} {E : va_E} (h : xl_O o o' = true) (he : xr_e xd_g φ tys o E) : xr_e xd_g φ tys o' E := by
  obtain ⟨h1, h2⟩ := Bool.and_eq_true_iff.mp h
  have e := Nat.eq_of_beq_eq_true h1
  obtain ⟨hl, ha⟩ := xl_l_at h2
  rcases he with ⟨h8, fs, rfl, hf, hv⟩ | ⟨cA, ty, ht, h | h | h⟩
  · refine Or.inl ⟨by rw [← e]; exact h8, fs, by rw [e], by rw [hf, hl], fun j v hj => ?_⟩
    obtain ⟨u, hu, hr⟩ := ha j v hj
    obtain ⟨x, hx, hxv⟩ := hv j u hu
    exact ⟨x, hx, xl_V_ok hr hxv⟩
  · obtain ⟨h0, f, rfl, hv⟩ := h
    refine Or.inr ⟨cA, ty, by rw [← e]; exact ht, Or.inl ⟨by rw [← e]; exact h0, f, by rw [hl], fun j v hj => ?_⟩⟩
    obtain ⟨u, hu, hr⟩ := ha j v hj
    exact xl_V_ok hr (hv j u hu)
  · obtain ⟨h0, f, rfl, hv⟩ := h
    refine Or.inr ⟨cA, ty, by rw [← e]; exact ht, Or.inr (Or.inl ⟨by rw [← e]; exact h0, f, by rw [hl], fun j v hj => ?_⟩)⟩
    obtain ⟨u, hu, hr⟩ := ha j v hj
    exact xl_V_ok hr (hv j u hu)
  · obtain ⟨h0, f, rfl, hv⟩ := h
    refine Or.inr ⟨cA, ty, by rw [← e]; exact ht, Or.inr (Or.inr ⟨by rw [← e]; exact h0, f, by rw [hl], fun j v hj => ?_⟩)⟩
    obtain ⟨u, hu, hr⟩ := ha j v hj
    exact xl_V_ok hr (hv j u hu)
/-- a memory that says less stands too -/
def xl_P (M M' : xv_M xd_V) : Prop := M.length = M'.length ∧ ∀ (k : Nat) (o' : xv_O xd_V), M'[k]? = some o' → ∃ o, M[k]? = some o ∧ xl_O o o' = true
theorem xl_m {M M' : xv_M xd_V} {ws : va_W} (h : xl_P M M') (hm : xr_m (xk_c xd_g kx) xd_g φ tys M ws) : xr_m (xk_c xd_g kx) xd_g φ tys M' ws := by
  obtain ⟨pre, h1, h2, h4, h5⟩ := hm
  obtain ⟨hl, ha⟩ := h
  refine ⟨pre, h1, by rw [← hl]; exact h2, fun k o hk h7 h3 => ?_, fun k o hk h3 => ?_⟩
  · obtain ⟨u, hu, hr⟩ := ha k o hk
    have e := Nat.eq_of_beq_eq_true (Bool.and_eq_true_iff.mp hr).1
    obtain ⟨l1, q, E, e1, e2⟩ := h4 k u hu (by rw [e]; exact h7) (by rw [e]; exact h3)
    exact ⟨l1, q, E, e1, xl_e hr e2⟩
  · obtain ⟨u, hu, hr⟩ := ha k o hk
    obtain ⟨g1, g2⟩ := Bool.and_eq_true_iff.mp hr
    have e := Nat.eq_of_beq_eq_true g1
    obtain ⟨c1, c2, c3⟩ := h5 k u hu (by rw [e]; exact h3)
    obtain ⟨hl2, ha2⟩ := xl_l_at g2
    refine ⟨c1, by rw [← hl2]; exact c2, fun j v hj => ?_⟩
    obtain ⟨w, hw, hr2⟩ := ha2 j v hj
    obtain ⟨a, rfl, hga⟩ := c3 j w hw
    match v, hr2 with
    | .inl b, hr2 => exact ⟨b, rfl, xl_v_ok hr2 hga⟩
/-- a local that is known better -/
theorem xl_set {L : xv_L xd_V} {ls : Array Slot} {nL ts : Nat} {v v' : xd_V} (hl : xr_l xd_g φ L ls nL) (hv : L[ts]? = some (some (.inl v))) (h : ∀ x : Int32, xd_g v (.int x) → ls[ts]? = some (.val (.int x)) → xd_g v' (.int x)) : xr_l xd_g φ (L.set ts (some (.inl v'))) ls nL := by
  obtain ⟨h1, lv, h2, h3⟩ := hl
  refine ⟨by rw [List.length_set]; exact h1, lv, h2, fun i w hw => ?_⟩
  rcases xr_set hw with ⟨rfl, e⟩ | ⟨hne, hw⟩
  · cases Option.some.inj e
    obtain ⟨x, hx, n, rfl, hn⟩ := h3 i _ hv
    exact ⟨_, hx, n, rfl, h n hn (h2.2.2 (i, .int n) hx)⟩
  · exact h3 i w hw
end XL0
end
section
/-! the fast memory as a list, and back -/
section XL1
variable {V : Type}
noncomputable def xf_ls (n : Nat) (T : xf_T V) : xv_M V := (List.range n).map (fun a => match xf_at T a with
  | some o => o
  | none => (0, []))
theorem xf_ls_eq {n : Nat} {T : xf_T V} {M : xv_M V} (h : xf_R n T M) : xf_ls n T = M := by
  apply List.ext_getElem?
  intro i
  unfold xf_ls
  rw [List.getElem?_map]
  by_cases hi : i < n
  · rw [List.getElem?_range hi, Option.map_some, h.2 i]
    have hl : i < M.length := by rw [h.1]; exact hi
    rw [List.getElem?_eq_getElem hl]
  · rw [List.getElem?_eq_none (by rw [List.length_range]; omega), Option.map_none, List.getElem?_eq_none (by rw [h.1]; omega)]
/-- laid out -/
noncomputable def xf_lk {β : Type} (T : xf_T V) (n : Nat) : (xv_M V → Option β) → Option β :=
  Nat.rec (motive := fun _ => (xv_M V → Option β) → Option β) (fun k => k []) (fun m ih k => xf_cell T m (fun o => ih (fun M => k (M ++ [o])))) n
noncomputable def xf_tt {β : Type} (M : xv_M V) : Nat → xf_T V → (xf_T V → Option β) → Option β :=
  List.rec (motive := fun _ => Nat → xf_T V → (xf_T V → Option β) → Option β) (fun _ T k => k T) (fun o _ ih n T k => xf_upd T n o (fun T => ih (n + 1) T k)) M
theorem xf_tt_ok {β : Type} : ∀ (M M0 : xv_M V) (n : Nat) (T : xf_T V) (k : xf_T V → Option β) (r : β), xf_tt M n T k = some r → xf_R n T M0 → ∃ T', k T' = some r ∧ xf_R (n + M.length) T' (M0 ++ M)
  | [], M0, n, T, k, r, h, hR => ⟨T, h, by rw [List.append_nil]; exact hR⟩
  | o :: M, M0, n, T, k, r, h, hR => by
    obtain ⟨T1, h1, hT⟩ := xf_upd_ok (show xf_upd T n o (fun T => xf_tt M (n + 1) T k) = some r from h)
    obtain ⟨T', h2, h3⟩ := xf_tt_ok M (M0 ++ [o]) (n + 1) T1 k r h1 (hR.push hT)
    refine ⟨T', h2, ?_⟩
    rw [List.length_cons, show n + (M.length + 1) = n + 1 + M.length by omega, show M0 ++ o :: M = M0 ++ [o] ++ M by rw [List.append_assoc]; rfl]
    exact h3
theorem xf_upd_k {β γ : Type} {T : xf_T V} {a : Nat} {o : xv_O V} {k : xf_T V → Option β} {r : β} (h : xf_upd T a o k = some r) : ∃ T', k T' = some r ∧ ∀ k' : xf_T V → Option γ, xf_upd T a o k' = k' T' := by
  unfold xf_upd at h
  split at h
  · rename_i ch hch
    split at h
    · rename_i o0 ho
      rw [xf_set_eq, xf_set_eq] at h
      refine ⟨_, h, fun k' => ?_⟩
      unfold xf_upd
      rw [hch]
      dsimp only
      rw [ho]
      dsimp only
      rw [xf_set_eq, xf_set_eq]
    · cases h
  · cases h
theorem xf_tt_k {β γ : Type} : ∀ (M : xv_M V) (n : Nat) (T : xf_T V) (k : xf_T V → Option β) (r : β), xf_tt M n T k = some r → ∃ T', k T' = some r ∧ ∀ k' : xf_T V → Option γ, xf_tt M n T k' = k' T'
  | [], n, T, k, r, h => ⟨T, h, fun _ => rfl⟩
  | o :: M, n, T, k, r, h => by
    obtain ⟨T1, h1, h2⟩ := xf_upd_k (γ := γ) (show xf_upd T n o (fun T => xf_tt M (n + 1) T k) = some r from h)
    obtain ⟨T', h3, h4⟩ := xf_tt_k (γ := γ) M (n + 1) T1 k r h1
    refine ⟨T', h3, fun k' => ?_⟩
    show xf_upd T n o (fun T => xf_tt M (n + 1) T k') = _
    rw [h2, h4]
def xf_T0 : xf_T V := List.replicate 16 (List.replicate 16 none)
theorem xf_T0_R : xf_R 0 (xf_T0 : xf_T V) [] := by
  refine ⟨rfl, fun a => ?_⟩
  unfold xf_at xf_T0
  rw [List.getElem?_replicate]
  split
  · rename_i ch h
    split at h
    · cases Option.some.inj h
      rw [List.getElem?_replicate]
      split
      · rename_i o h
        split at h
        · cases Option.some.inj h; rfl
        · cases h
      · rfl
    · cases h
  · rfl
end XL1
section XL2
variable {D : xv_D xd_V} {fv : xf_fv xd_V} {ct : List (List (FieldType × Bool))} {at_ : List Nat} {sct : List (List Int32)} {ms : List xv_N}
/-- from the instruction at h on, up to where it is met again -/
noncomputable def xl_seg (F FS : List (Nat × xf_F xd_V)) (call : xf_K xd_V) (fuel h : Nat) : xf_C xd_V := match xf_to F h with
  | q :: _ => match xf_to FS h with
    | _ :: cs => q.2 (xf_lp FS call fuel cs) (fun t => xf_lp FS call fuel (xf_to FS t)) call
    | [] => fun _ _ _ _ _ _ => none
  | [] => fun _ _ _ _ _ _ => none
theorem xl_seg_ok (hfv : ∀ (r : xd_V) (k : xd_V → Option (xf_P xd_V)), fv r k = k r) {call : xf_K xd_V} {call' : Nat → List (xv_V xd_V) → xv_M xd_V → Option (xv_R xd_V)} (hcall : ∀ (j : Nat) (as : List (xv_V xd_V)) (n : Nat) (T : xf_T xd_V) (v : Option (xv_V xd_V)) (n' : Nat) (T' : xf_T xd_V), call j as n T = some (v, n', T') → ∀ M, xf_R n T M → ∃ M', call' j as M = some (v, M') ∧ xf_R n' T' M') {y : xv_N} {h : Nat} (h0 : ¬ h = 100000) (hw : xf_wf y.2.2.2 = true) {q : xv_I} {pre cs : List xv_I} (hq : y.2.2.2 = pre ++ q :: cs) (hh : q.1 = h) (fuel : Nat) :
    xf_S y (xl_seg (y.2.2.2.map (xf_mk D fv ct at_ sct ms y 100000)) (y.2.2.2.map (xf_mk D fv ct at_ sct ms y h)) call fuel h) (fun L S M c s => xv_lp D ct at_ sct ms call' y h (fuel + 1) h (q :: cs) L S M c s) := by
  obtain ⟨q1, i1⟩ := q
  have hh2 : h = q1 := hh.symm
  subst hh2
  have et : xv_to y.2.2.2 h = (h, i1) :: cs := by rw [hq]; exact xf_to_suf (q := (h, i1)) (by rw [← hq]; exact hw)
  intro L S n T c s p hB hp M hR
  unfold xl_seg at hp
  rw [xf_to_map, xf_to_map, et] at hp
  have hp : (bif Nat.beq h 100000 then xf_stop else xf_of D fv ct at_ sct ms y h i1) (xf_lp (y.2.2.2.map (xf_mk D fv ct at_ sct ms y h)) call fuel (cs.map (xf_mk D fv ct at_ sct ms y h))) (fun t => xf_lp (y.2.2.2.map (xf_mk D fv ct at_ sct ms y h)) call fuel (xf_to (y.2.2.2.map (xf_mk D fv ct at_ sct ms y h)) t)) call L S n T c s = some p := hp
  rw [xf_nbeq h0, cond_false] at hp
  have go : ∀ (pre cs : List xv_I) (q : xv_I), y.2.2.2 = pre ++ q :: cs → xf_S y (xf_lp (y.2.2.2.map (xf_mk D fv ct at_ sct ms y h)) call fuel ((q :: cs).map (xf_mk D fv ct at_ sct ms y h))) (fun L S M c s => bif Nat.beq q.1 h then some (.inr (L, S, M, c, s)) else xv_lp D ct at_ sct ms call' y h fuel q.1 (q :: cs) L S M c s) := by
    intro pre cs q hq
    by_cases e : q.1 = h
    · intro L S n T c s p _ h9 M hR
      have hb : Nat.beq q.1 h = true := by rw [e]; exact Nat.beq_refl _
      refine ⟨.inr (L, S, M, c, s), by simp only [hb, cond_true], ?_⟩
      cases fuel with
      | zero => cases h9
      | succ f =>
        have h9 : (bif Nat.beq q.1 h then xf_stop else xf_of D fv ct at_ sct ms y q.1 q.2) (xf_lp (y.2.2.2.map (xf_mk D fv ct at_ sct ms y h)) call f (cs.map (xf_mk D fv ct at_ sct ms y h))) (fun t => xf_lp (y.2.2.2.map (xf_mk D fv ct at_ sct ms y h)) call f (xf_to (y.2.2.2.map (xf_mk D fv ct at_ sct ms y h)) t)) call L S n T c s = some p := h9
        rw [hb, cond_true] at h9
        exact Or.inr ⟨L, S, n, T, c, s, M, (Option.some.inj h9).symm, rfl, hR⟩
    · rw [xf_nbeq e]
      exact xf_lp_ok hfv hcall hw fuel pre cs q hq e
  have hnone : ∀ {L : xv_L xd_V} {S : List (xv_V xd_V)} {n : Nat} {T : xf_T xd_V} {c s : Nat} {p : xf_P xd_V} {P : Prop}, xf_lp (y.2.2.2.map (xf_mk D fv ct at_ sct ms y h)) call fuel [] L S n T c s = some p → P := by
    intro L S n T c s p P h9
    cases fuel with
    | zero => cases h9
    | succ f => cases h9
  have hw2 : xf_wf ((h, i1) :: cs) = true := xf_wf_suf (pre := pre) (by rw [← hq]; exact hw)
  have hn : xv_sw i1 = false → xf_S y (xf_lp (y.2.2.2.map (xf_mk D fv ct at_ sct ms y h)) call fuel (cs.map (xf_mk D fv ct at_ sct ms y h))) (fun L S M c s => (fun pc cs L S M c s => bif Nat.beq pc h then some (Sum.inr (L, S, M, c, s)) else xv_lp D ct at_ sct ms call' y h fuel pc cs L S M c s) (h + xv_len i1) cs L S M c s) := by
    intro hs
    cases cs with
    | nil => intro L S n T c s p _ h9; exact hnone h9
    | cons q2 cs =>
      have e2 : q2.1 = h + xv_len i1 := (xf_wf_hd hw2).2 hs
      rw [← e2]
      exact go (pre ++ [(h, i1)]) cs q2 (by rw [hq, List.append_assoc]; rfl)
  exact xf_one (D := D) (ct := ct) (at_ := at_) (sct := sct) (ms := ms) (y := y) (call' := call') (cs := cs) (i := i1) (pc := h) (ih := fun pc cs L S M c s => bif Nat.beq pc h then some (Sum.inr (L, S, M, c, s)) else xv_lp D ct at_ sct ms call' y h fuel pc cs L S M c s) hfv hcall hn (fun h3 => by
    have hs : xv_sw i1 = false := by
      cases i1 <;> first | rfl | (cases h3)
    have hn2 := hn hs
    rw [h3] at hn2
    cases cs with
    | nil => intro L S n T c s p _ h9; exact hnone h9
    | cons q2 cs =>
      have e2 : q2.1 = h + xv_len i1 := (xf_wf_hd hw2).2 hs
      rw [h3] at e2
      have e3 : y.2.2.2 = (pre ++ [(h, i1)]) ++ q2 :: cs := by rw [hq, List.append_assoc]; rfl
      have e4 : xv_to y.2.2.2 (h + 3) = q2 :: cs := by
        rw [← e2, e3]
        exact xf_to_suf (by rw [← e3]; exact hw)
      rw [e4]
      exact hn2) (fun t => by
    rw [xf_to_map]
    cases ht : xv_to y.2.2.2 t with
    | nil => intro L S n T c s p _ h9; exact hnone h9
    | cons q2 r =>
      obtain ⟨e1, pre2, e2⟩ := xf_to_at ht
      rw [← e1]
      exact go pre2 r q2 e2) hB hp hR
end XL2
end
section
theorem xl_l_both {α : Type} {f : α → α → Bool} : ∀ {l k : List α}, xl_l f l k = true → ∀ i : Nat, (l[i]? = none ∧ k[i]? = none) ∨ ∃ a b, l[i]? = some a ∧ k[i]? = some b ∧ f a b = true
  | [], [], _, i => Or.inl ⟨by simp, by simp⟩
  | a :: l, b :: k, h, i => by
    obtain ⟨h1, h2⟩ := Bool.and_eq_true_iff.mp h
    cases i with
    | zero => exact Or.inr ⟨a, b, rfl, rfl, h1⟩
    | succ i =>
      rw [List.getElem?_cons_succ, List.getElem?_cons_succ]
      exact xl_l_both h2 i
theorem xl_T_at {T T' : xf_T xd_V} (h : xl_T T T' = true) (a : Nat) : (xf_at T a = none ∧ xf_at T' a = none) ∨ ∃ o o', xf_at T a = some o ∧ xf_at T' a = some o' ∧ xl_O o o' = true := by
  unfold xf_at
  rcases xl_l_both h (a / 16) with ⟨h1, h2⟩ | ⟨c, c', h1, h2, h3⟩
  · rw [h1, h2]; exact Or.inl ⟨rfl, rfl⟩
  · rw [h1, h2]
    dsimp only
    rcases xl_l_both h3 (a % 16) with ⟨g1, g2⟩ | ⟨o, o', g1, g2, g3⟩
    · rw [g1, g2]; exact Or.inl ⟨rfl, rfl⟩
    · rw [g1, g2]
      dsimp only
      cases o with
      | none =>
        cases o' with
        | none => exact Or.inl ⟨rfl, rfl⟩
        | some b => cases g3
      | some a =>
        cases o' with
        | none => cases g3
        | some b => exact Or.inr ⟨a, b, rfl, rfl, g3⟩
theorem xl_T_P {n : Nat} {T T' : xf_T xd_V} {M : xv_M xd_V} (h : xl_T T T' = true) (hR : xf_R n T M) : xl_P M (xf_ls n T') := by
  refine ⟨by rw [hR.1]; simp [xf_ls], fun k o' hk => ?_⟩
  unfold xf_ls at hk
  rw [List.getElem?_map] at hk
  have hkn : k < n := by
    cases hr : (List.range n)[k]? with
    | none => rw [hr] at hk; cases hk
    | some q => have := (List.getElem?_eq_some_iff.mp hr).1; rw [List.length_range] at this; exact this
  rw [List.getElem?_range hkn, Option.map_some] at hk
  have hl : k < M.length := by rw [hR.1]; exact hkn
  rcases xl_T_at h k with ⟨h1, -⟩ | ⟨o, o2, h1, h2, h3⟩
  · rw [hR.2 k, List.getElem?_eq_getElem hl] at h1; cases h1
  · rw [h2] at hk
    cases Option.some.inj hk
    exact ⟨o, by rw [← hR.2 k]; exact h1, h3⟩
def xl_is (L : xv_L xd_V) (ts : Nat) (lo hi : Int) : Bool := match L[ts]? with
  | some (some (.inl (.inr q))) => xd_eqx q.1 lo && xd_eqx q.2 hi
  | _ => false
theorem xl_is_eq {L : xv_L xd_V} {ts : Nat} {lo hi : Int} (h : xl_is L ts lo hi = true) : L[ts]? = some (some (.inl (.inr (lo, hi)))) := by
  unfold xl_is at h
  split at h
  · rename_i q hq
    obtain ⟨h1, h2⟩ := Bool.and_eq_true_iff.mp h
    obtain ⟨a, b⟩ := q
    have e1 : a = lo := xd_eqx_eq h1
    have e2 : b = hi := xd_eqx_eq h2
    rw [hq, e1, e2]
  · cases h
/-- the loop from its head (at h) on, its bound (the local ts) between lo and hi: if it is lo, the method ends with less than (np, Tp) says; if it is more, the head is met again -/
noncomputable def xl_ch (F FS : List (Nat × xf_F xd_V)) (call : xf_K xd_V) (fuel h ts : Nat) (hi : Int) (np : Nat) (Tp : xf_T xd_V) (N : Nat) : Int → xv_L xd_V → Nat → xf_T xd_V → Nat → Nat → Bool :=
  Nat.rec (motive := fun _ => Int → xv_L xd_V → Nat → xf_T xd_V → Nat → Nat → Bool) (fun _ _ _ _ _ _ => false)
    (fun _ ih lo L n T c s => (match xf_lp F call fuel (xf_to F h) (L.set ts (some (.inl (.inl lo)))) [] n T c s with
        | some (.inl (none, n', T')) => Nat.beq n' np && xl_T T' Tp
        | _ => false) && (bif xd_le hi lo then true else xd_fi (Int.add lo 1) (fun l1 => match xl_seg F FS call fuel h (L.set ts (some (.inl (.inr (l1, hi))))) [] n T c s with
        | some (.inr (L', [], (n', T'), c', s')) => xl_is L' ts l1 hi && ih l1 L' n' T' c' s'
        | _ => false))) N
section XL3
variable {l : Launch} {D : xv_D xd_V} {fv : xf_fv xd_V} {Dg : va_G} {cl : List vw_C} {tys : List (ClassId × FieldType)} {at_ : List Nat} {nest : List (String × Nat × MethodName × String)} {tb : List Jvm.Cond} {ct : List (List (FieldType × Bool))} {ms : List xv_N} {ys : List xm_Z} {kx : xk_C} {kcc : ByteArray}
set_option maxHeartbeats 4000000 in
theorem xl_ch_ok (hfv : ∀ (r : xd_V) (k : xd_V → Option (xf_P xd_V)), fv r k = k r) (hD : xv_ok D xd_g) (hall : xc_all tb nest cl ct at_ kx.1 kx.2.2.2.1 kcc ms ys) (hchar : xk_Ch l tb kcc kx) (hY : xc_tys cl at_ tys) {d : Nat} {call : xf_K xd_V} {call' : Nat → List (xv_V xd_V) → xv_M xd_V → Option (xv_R xd_V)} (hcall : ∀ (j : Nat) (as : List (xv_V xd_V)) (n : Nat) (T : xf_T xd_V) (v : Option (xv_V xd_V)) (n' : Nat) (T' : xf_T xd_V), call j as n T = some (v, n', T') → ∀ M, xf_R n T M → ∃ M', call' j as M = some (v, M') ∧ xf_R n' T' M') (hcon : ∀ (j : Nat) (as : List (xv_V xd_V)) (M : xv_M xd_V) (r : xv_R xd_V), call' j as M = some r → xm_Con l xd_g tys Dg cl at_ nest kx tb ms ys d j as M r)
    {y : xv_N} {z : xm_Z} {p : Program} {e : Env} {R : Room} {s : State} {m : MethodId} {args : Array Value} {below : List Frame} {meth : Method} {c : Code} {A : Nat → Prop} {φ0 : List Nat} (hfix : xw_fix Dg cl tys at_ nest kx tb ct ys d y z p R s m args meth c A) (hkF : xk_F kx φ0) (hret : meth.sig.returnType = z.2.2) (hlocks : meth.locks = false)
    {h ts fuel np : Nat} {hi : Int} {Tp : xf_T xd_V} (h0 : ¬ h = 100000) (hw : xf_wf y.2.2.2 = true) {q : xv_I} {pre cs : List xv_I} (hq : y.2.2.2 = pre ++ q :: cs) (hh : q.1 = h) :
    ∀ (N : Nat) (lo : Int) (L : xv_L xd_V) (n : Nat) (T : xf_T xd_V) (cc ss : Nat), xl_ch (y.2.2.2.map (xf_mk D fv ct at_ kx.1 ms y 100000)) (y.2.2.2.map (xf_mk D fv ct at_ kx.1 ms y h)) call fuel h ts hi np Tp N lo L n T cc ss = true → xl_is L ts lo hi = true → lo ≤ hi → ∀ M, xf_R n T M →
      xw_st p l e R s m args below meth c (MQ below (xm_Q (xk_c xd_g kx) xd_g tys Dg cl (none, xf_ls np Tp) φ0 A) args s y.2.2.1.1 y.2.2.1.2 A) xd_g Dg cl tys kx A φ0 y h L [] M cc ss := by
  have et : xv_to y.2.2.2 h = q :: cs := by rw [← hh, hq]; exact xf_to_suf (by rw [← hq]; exact hw)
  have hsub : ∀ x ∈ q :: cs, x ∈ y.2.2.2 := fun x hx => by rw [hq]; exact List.mem_append_right _ hx
  intro N
  induction N with
  | zero => intro lo L n T cc ss h9; cases h9
  | succ N ih =>
    intro lo L n T cc ss h9 his hlh M hR hc1 hc2 t ws H locs ls st hm hP hD0 hS hl hs
    have h9 : ((match xf_lp (y.2.2.2.map (xf_mk D fv ct at_ kx.1 ms y 100000)) call fuel (xf_to (y.2.2.2.map (xf_mk D fv ct at_ kx.1 ms y 100000)) h) (L.set ts (some (.inl (.inl lo)))) [] n T cc ss with
        | some (.inl (none, n', T')) => Nat.beq n' np && xl_T T' Tp
        | _ => false) && (bif xd_le hi lo then true else xd_fi (Int.add lo 1) (fun l1 => match xl_seg (y.2.2.2.map (xf_mk D fv ct at_ kx.1 ms y 100000)) (y.2.2.2.map (xf_mk D fv ct at_ kx.1 ms y h)) call fuel h (L.set ts (some (.inl (.inr (l1, hi))))) [] n T cc ss with
        | some (.inr (L', [], (n', T'), c', s')) => xl_is L' ts l1 hi && xl_ch (y.2.2.2.map (xf_mk D fv ct at_ kx.1 ms y 100000)) (y.2.2.2.map (xf_mk D fv ct at_ kx.1 ms y h)) call fuel h ts hi np Tp N l1 L' n' T' c' s'
        | _ => false))) = true := h9
    obtain ⟨g1, g2⟩ := Bool.and_eq_true_iff.mp h9
    have hts := xl_is_eq his
    obtain ⟨x, hx, n0, rfl, hg⟩ := xr_l_at hl hts
    obtain ⟨b1, b2⟩ := hg.1 ((xd_le_iff _ _).mpr hlh)
    have hval : ∀ x' : Int32, ls[ts]? = some (.val (.int x')) → x' = n0 := fun x' h2 => by
      have h3 := Option.some.inj (h2.symm.trans hx)
      cases h3
      rfl
    by_cases e1 : n0.toInt = lo
    · have hl' := xl_set (v' := .inl lo) hl hts (fun x' _ h2 => by rw [hval x' h2]; exact e1)
      rw [xf_to_map, et] at g1
      split at g1
      · rename_i n' T' hrun
        obtain ⟨k1, k2⟩ := Bool.and_eq_true_iff.mp g1
        have hn' := Nat.eq_of_beq_eq_true k1
        subst hn'
        obtain ⟨bb, hb1, hb2⟩ := xf_lp_ok (D := D) (fv := fv) (ct := ct) (at_ := at_) (sct := kx.1) (ms := ms) hfv hcall (stop := 100000) hw fuel pre cs q hq (by rw [hh]; exact h0) _ _ _ _ _ _ _ ⟨hc1, hc2⟩ hrun M hR
        rcases hb2 with ⟨v1, n1, T1, M1, e5, rfl, hR1⟩ | ⟨_, _, _, _, _, _, _, e5, _⟩
        · have e6 := Sum.inl.inj e5
          cases e6
          rw [hh] at hb1
          refine xs_lp hD hall hchar hY hcon hfix hkF (fun q' hq' i pc L S cells slots k3 k4 => ?_) (fun q' hq' => by cases hq') fuel h (q :: cs) _ _ _ cc ss hb1 hsub hc1 hc2 t ws H locs ls st hm hP hD0 hS hl' hs
          cases hq'
          intro hc1 hc2 t ws H locs ls st hm hP hD0 hS hl hs
          obtain ⟨hx2, hb2, -, -, -, -, -, -, -, -, hbod⟩ := hfix
          exact xs_end hD hx2 hb2 (by rw [hret]; exact hbod.1.symm) hlocks k3 k4 (xl_m (xl_T_P k2 hR1) hm) hP hD0 hS hs hc1 hc2
        · cases e5
      · cases g1
    · have hlt : lo < n0.toInt := by omega
      have hf : xd_le hi lo = false := (xd_le_false _ _).mpr (by omega)
      rw [hf, cond_false, xd_fi_eq] at g2
      have hl' := xl_set (v' := .inr (Int.add lo 1, hi)) hl hts (fun x' _ h2 => by
        rw [hval x' h2]
        have e7 : Int.add lo 1 = lo + 1 := rfl
        exact ⟨fun _ => ⟨by show Int.add lo 1 ≤ _; omega, b2⟩, fun q9 => by
          have q9 : xd_le (Int.add lo 1) hi = false := q9
          have := (xd_le_false _ _).mp q9
          omega⟩)
      split at g2
      · rename_i L' n' T' c' s' hrun
        obtain ⟨k1, k2⟩ := Bool.and_eq_true_iff.mp g2
        obtain ⟨bb, hb1, hb2⟩ := xl_seg_ok (D := D) (fv := fv) (ct := ct) (at_ := at_) (sct := kx.1) (ms := ms) hfv hcall h0 hw hq hh fuel _ _ _ _ _ _ _ ⟨hc1, hc2⟩ hrun M hR
        rcases hb2 with ⟨_, _, _, _, e5, _⟩ | ⟨L2, S2, n2, T2, c2, s2, M2, e5, rfl, hR2⟩
        · cases e5
        · cases e5
          refine xs_lp hD hall hchar hY hcon hfix hkF (fun q' hq' => by cases hq') (fun q' hq' => ?_) (fuel + 1) h (q :: cs) _ _ _ cc ss hb1 hsub hc1 hc2 t ws H locs ls st hm hP hD0 hS hl' hs
          cases hq'
          exact ih (Int.add lo 1) _ _ _ _ _ k2 k1 (by show lo + 1 ≤ hi; omega) M2 hR2
      · cases g2
end XL3
end
section
/-- WHAT IS KNOWN OF A LOOP's method: entry, the first end (the bound is lo), what is said of the memory then (pw), the check -/
noncomputable def xl_go (F FS : List (Nat × xf_F xd_V)) (maxl h ts fuel : Nat) (call : xf_K xd_V) (pw : xf_T xd_V → Option (xf_T xd_V)) (as : List (xv_V xd_V)) (M : xv_M xd_V) : Option (xv_R xd_V) :=
  xf_tt M 0 xf_T0 (fun T => bif Nat.ble (xv_cats as) maxl then match xf_lp FS call fuel FS (xv_in as maxl) [] M.length T 0 0 with
    | some (.inr (L, [], (n, T), c, s)) => match L[ts]? with
      | some (some (.inl (.inr q))) => match xf_lp F call fuel (xf_to F h) (L.set ts (some (.inl (.inl q.1)))) [] n T c s with
        | some (.inl (none, np, T')) => match pw T' with
          | some Tp => bif xd_le q.1 q.2 && xl_is L ts q.1 q.2 && xl_ch F FS call fuel h ts q.2 np Tp 400 q.1 L n T c s then xf_tt (xf_ls np Tp) 0 xf_T0 (fun _ => some (none, xf_ls np Tp)) else none
          | none => none
        | _ => none
      | _ => none
    | _ => none
  else none)
section XL4
variable {l : Launch} {D : xv_D xd_V} {fv : xf_fv xd_V} {Dg : va_G} {cl : List vw_C} {tys : List (ClassId × FieldType)} {at_ : List Nat} {nest : List (String × Nat × MethodName × String)} {tb : List Jvm.Cond} {ct : List (List (FieldType × Bool))} {ms : List xv_N} {ys : List xm_Z} {kx : xk_C} {kcc : ByteArray}
theorem xl_go_ok (hfv : ∀ (r : xd_V) (k : xd_V → Option (xf_P xd_V)), fv r k = k r) (hD : xv_ok D xd_g) (hall : xc_all tb nest cl ct at_ kx.1 kx.2.2.2.1 kcc ms ys) (hchar : xk_Ch l tb kcc kx) (hY : xc_tys cl at_ tys) {d : Nat} {call : xf_K xd_V} {call' : Nat → List (xv_V xd_V) → xv_M xd_V → Option (xv_R xd_V)} (hcall : ∀ (j : Nat) (as : List (xv_V xd_V)) (n : Nat) (T : xf_T xd_V) (v : Option (xv_V xd_V)) (n' : Nat) (T' : xf_T xd_V), call j as n T = some (v, n', T') → ∀ M, xf_R n T M → ∃ M', call' j as M = some (v, M') ∧ xf_R n' T' M') (hcon : ∀ (j : Nat) (as : List (xv_V xd_V)) (M : xv_M xd_V) (r : xv_R xd_V), call' j as M = some r → xm_Con l xd_g tys Dg cl at_ nest kx tb ms ys d j as M r)
    {j h ts fuel : Nat} {y0 : xv_N} (hy0 : ms[j]? = some y0) (h0 : ¬ h = 100000) (h00 : ¬ 0 = h) (hw : xf_wf y0.2.2.2 = true) {q : xv_I} {pre cs : List xv_I} (hq : y0.2.2.2 = pre ++ q :: cs) (hh : q.1 = h) {i0 : Instr} {cs0 : List xv_I} (hs0 : y0.2.2.2 = (0, i0) :: cs0) {pw : xf_T xd_V → Option (xf_T xd_V)} {as : List (xv_V xd_V)} {M : xv_M xd_V} {r : xv_R xd_V}
    (hgo : xl_go (y0.2.2.2.map (xf_mk D fv ct at_ kx.1 ms y0 100000)) (y0.2.2.2.map (xf_mk D fv ct at_ kx.1 ms y0 h)) y0.2.1.2.1 h ts fuel call pw as M = some r) :
    xm_Con l xd_g tys Dg cl at_ nest kx tb ms ys (d + 1) j as M r := by
  obtain ⟨T, h1, hR⟩ := xf_tt_ok M [] 0 xf_T0 _ r hgo xf_T0_R
  rw [List.nil_append, Nat.zero_add] at hR
  cases hc : Nat.ble (xv_cats as) y0.2.1.2.1 <;> simp only [hc, cond_true, cond_false] at h1
  · cases h1
  split at h1
  · rename_i L n T1 c1 s1 hrun
    split at h1
    · rename_i b hb
      split at h1
      · rename_i np T2 hrun2
        split at h1
        · rename_i Tp hTp
          cases hck : (xd_le b.1 b.2 && xl_is L ts b.1 b.2 && xl_ch (y0.2.2.2.map (xf_mk D fv ct at_ kx.1 ms y0 100000)) (y0.2.2.2.map (xf_mk D fv ct at_ kx.1 ms y0 h)) call fuel h ts b.2 np Tp 400 b.1 L n T1 c1 s1) <;> simp only [hck, cond_true, cond_false] at h1
          · cases h1
          obtain ⟨k1, k2⟩ := Bool.and_eq_true_iff.mp hck
          obtain ⟨k3, k4⟩ := Bool.and_eq_true_iff.mp k1
          obtain ⟨T9, h9, -⟩ := xf_tt_k (γ := Unit) _ _ _ _ _ h1
          cases Option.some.inj h9
          refine xm_of hall (fun y z hy hz => ?_)
          intro p e s m args below meth c A φ0 hfix hkF hret hlocks
          cases Option.some.inj (hy.symm.trans hy0)
          refine ⟨Nat.le_of_ble_eq_true hc, ?_⟩
          have hlp := xf_lp_ok (D := D) (fv := fv) (ct := ct) (at_ := at_) (sct := kx.1) (ms := ms) hfv hcall (stop := h) hw fuel [] cs0 (0, i0) hs0 h00
          rw [← hs0] at hlp
          obtain ⟨bb, hb1, hb2⟩ := hlp _ _ _ _ _ _ _ ⟨Nat.zero_le _, Nat.zero_le _⟩ hrun M hR
          rcases hb2 with ⟨_, _, _, _, e5, _⟩ | ⟨L2, S2, n2, T2, c2, s2, M2, e5, rfl, hR2⟩
          · cases e5
          · cases e5
            refine xs_lp hD hall hchar hY hcon hfix hkF (fun q' hq' => by cases hq') (fun q' hq' => ?_) fuel 0 _ _ _ _ 0 0 hb1 (fun x hx => hx)
            cases hq'
            exact xl_ch_ok hfv hD hall hchar hY hcall hcon hfix hkF hret hlocks h0 hw hq hh 400 b.1 _ _ _ _ _ k2 k4 ((xd_le_iff _ _).mp k3) M2 hR2
        · cases h1
      · cases h1
    · cases h1
  · cases h1
end XL4
theorem xl_bif {α : Type} {b : Bool} {x : Option α} {r : α} (h : (bif b then x else none) = some r) : x = some r := by
  cases b
  · cases h
  · exact h
/-- the same for the fast machine -/
noncomputable def xl_fx (ext : List (xv_V xd_V) → xv_M xd_V → Option (xv_R xd_V)) (as : List (xv_V xd_V)) (n : Nat) (T : xf_T xd_V) : Option (Option (xv_V xd_V) × Nat × xf_T xd_V) := match ext as (xf_ls n T) with
  | some r => xf_tt r.2 0 xf_T0 (fun T' => xf_nat r.2.length (fun m => some (r.1, m, T')))
  | none => none
theorem xl_fx_ok {ext : List (xv_V xd_V) → xv_M xd_V → Option (xv_R xd_V)} {as : List (xv_V xd_V)} {n : Nat} {T : xf_T xd_V} {v : Option (xv_V xd_V)} {n' : Nat} {T' : xf_T xd_V} (h : xl_fx ext as n T = some (v, n', T')) {M : xv_M xd_V} (hR : xf_R n T M) : ∃ M', ext as M = some (v, M') ∧ xf_R n' T' M' := by
  unfold xl_fx at h
  rw [xf_ls_eq hR] at h
  split at h
  · rename_i r hr
    obtain ⟨T1, h1, h2⟩ := xf_tt_ok r.2 [] 0 xf_T0 _ _ h xf_T0_R
    rw [xf_nat_eq] at h1
    cases Option.some.inj h1
    refine ⟨r.2, hr, ?_⟩
    rw [List.nil_append, Nat.zero_add] at h2
    exact h2
  · cases h
theorem xl_fx_none {F FS : List (Nat × xf_F xd_V)} {maxl h ts fuel : Nat} {call : xf_K xd_V} {pw : xf_T xd_V → Option (xf_T xd_V)} {as : List (xv_V xd_V)} {n : Nat} {T : xf_T xd_V} (hn : xl_fx (xl_go F FS maxl h ts fuel call pw) as n T = none) {M : xv_M xd_V} (hR : xf_R n T M) : xl_go F FS maxl h ts fuel call pw as M = none := by
  unfold xl_fx at hn
  rw [xf_ls_eq hR] at hn
  cases hg : xl_go F FS maxl h ts fuel call pw as M with
  | none => rfl
  | some r =>
    rw [hg] at hn
    dsimp only at hn
    obtain ⟨T1, h1, -⟩ := xf_tt_k (γ := Unit) M 0 xf_T0 _ r hg
    have key : ∃ T', xf_tt r.2 0 xf_T0 (fun T' => xf_nat r.2.length (fun m => some (r.1, m, T'))) = some (r.1, r.2.length, T') := by
      cases hc : Nat.ble (xv_cats as) maxl <;> simp only [hc, cond_true, cond_false] at h1
      · cases h1
      split at h1
      · split at h1
        · split at h1
          · split at h1
            · have h1 := xl_bif h1
              obtain ⟨T9, h9, h10⟩ := xf_tt_k (γ := Option (xv_V xd_V) × Nat × xf_T xd_V) _ _ _ _ _ h1
              cases Option.some.inj h9
              exact ⟨T9, by rw [h10, xf_nat_eq]⟩
            · cases h1
          · cases h1
        · cases h1
      · cases h1
    obtain ⟨T', hT'⟩ := key
    rw [hT'] at hn
    cases hn
end
section
/-! THE TABLES ARE RIGHT, by checks that are worked out -/
def xw_T (cl : List vw_C) (c : Nat) : u_T := match cl[c]? with
  | some r => r.2.1
  | none => fun _ => ("", "", "", false)
def xw_C (cl : List vw_C) (c : Nat) : String := match cl[c]? with
  | some r => r.1
  | none => ""
def xw_y (ys : List xm_Z) (j : Nat) : MethodName := match ys[j]? with
  | some z => z.1
  | none => ⟨"", "", ""⟩
/-- the words that a class's links want -/
def xw_F (cl : List vw_C) (own : String) (K : xv_K) : List Jvm.Cond := K.1.map fun q => Jvm.Cond.fieldLink own q.1 (xw_T cl q.2.1 q.2.2).1 (xw_T cl q.2.1 q.2.2).2.1 (xw_T cl q.2.1 q.2.2).2.2.1
def xw_N (cl : List vw_C) (at_ : List Nat) (own : String) (K : xv_K) : List Jvm.Cond := (K.2.2.1.filter fun q => Nat.blt q.2 2000).map fun q => bif Nat.blt q.2 1000 then Jvm.Cond.classLink own q.1 (xw_C cl q.2) else Jvm.Cond.classLink own (q.1 - 70000) (xw_C cl (at_.getD (q.2 - 1000) 999))
def xw_I (own : String) (K : xv_K) : List Jvm.Cond := K.2.2.2.1.map fun q => Jvm.Cond.constant own q.1 q.2
def xw_L (own : String) (K : xv_K) : List Jvm.Cond := K.2.2.2.2.map fun q => Jvm.Cond.constantLong own q.1 q.2
def xw_M (ys : List xm_Z) (own : String) (K : xv_K) : List Jvm.Cond := (K.2.1.filter fun q => !Nat.beq q.2.1 2).map fun q => Jvm.Cond.methodLink own q.1 (bif Nat.beq q.2.1 4 then xk_y else bif Nat.beq q.2.1 5 then Lib.objectInit else bif Nat.beq q.2.1 6 then arraycopyName else xw_y ys q.2.2)
def xw_K (cl : List vw_C) (at_ : List Nat) (ys : List xm_Z) (own : String) (K : xv_K) : List Jvm.Cond := xw_F cl own K ++ (xw_N cl at_ own K ++ (xw_I own K ++ (xw_L own K ++ xw_M ys own K)))
/-- the words that a method wants; kd: 0 virtual, 1 a constructor, 3 static -/
def xw_Y (z : xm_Z) (kd : Nat) : List Jvm.Cond := Jvm.Cond.initialized z.1.cls :: (bif Nat.beq kd 3 then [Jvm.Cond.static z.1] else bif Nat.beq kd 1 then [Jvm.Cond.instanceMethod z.1] else [Jvm.Cond.instanceMethod z.1, Jvm.Cond.selects z.1.cls z.1 z.1])
def xw_fOk (cl : List vw_C) (ct : List (List (FieldType × Bool))) (q : Nat × Nat × Nat) : Bool := match ct[q.2.1]?, cl[q.2.1]? with
  | some fs, some r => Nat.blt q.2.2 fs.length && Nat.beq r.2.2 fs.length
  | _, _ => false
def xw_nOk (cl : List vw_C) (at_ : List Nat) (sct : List (List Int32)) (strs : List (String × Nat × String × Nat)) (own : String) (q : Nat × Nat) : Bool := bif Nat.blt q.2 1000 then cl[q.2]?.isSome else bif Nat.blt q.2 1003 then (match at_[q.2 - 1000]? with
    | some cj => cl[cj]?.isSome
    | none => false) else Nat.ble 2000 q.2 && Nat.blt (q.2 - 2000) sct.length && strs.any (fun r => decide (r.1 = own) && Nat.beq r.2.1 q.1 && Nat.beq r.2.2.2 (q.2 - 2000))
def xw_mOk (nest : List (String × Nat × MethodName × String)) (ys : List xm_Z) (kds : List Nat) (own : String) (q : Nat × Nat × Nat) : Bool := bif Nat.ble 4 q.2.1 then Nat.ble q.2.1 6 else match ys[q.2.2]?, kds[q.2.2]? with
  | some z, some kd => bif Nat.beq q.2.1 0 then Nat.beq kd 0 else bif Nat.beq q.2.1 3 then Nat.beq kd 3 else Nat.beq kd 1 && z.2.2.isNone && decide (z.1.name = "<init>") && (bif Nat.beq q.2.1 1 then true else nest.any (fun r => decide (r.1 = own) && Nat.beq r.2.1 q.1 && decide (r.2.2.1 = z.1)))
  | _, _ => false
/-- a class's links stand -/
def xw_kOk (nest : List (String × Nat × MethodName × String)) (cl : List vw_C) (ct : List (List (FieldType × Bool))) (at_ : List Nat) (sct : List (List Int32)) (strs : List (String × Nat × String × Nat)) (ys : List xm_Z) (kds : List Nat) (own : String) (K : xv_K) : Bool :=
  K.1.all (xw_fOk cl ct) && (K.2.2.1.all (xw_nOk cl at_ sct strs own) && K.2.1.all (xw_mOk nest ys kds own))
def xw_dOk (cc : ByteArray) (q : xv_I) : Bool := match decode cc q.1 with
  | .ok r => decide (r.1 = q.2) && (xv_sw q.2 || Nat.beq r.2 (xv_len q.2))
  | _ => false
theorem xv_find_mem {α : Type} : ∀ {l : List (Nat × α)} {i : Nat} {a : α}, xv_find l i = some a → (i, a) ∈ l
  | [], _, _, h => by cases h
  | q :: l, i, a, h => by
    simp only [xv_find] at h
    cases hc : Nat.beq q.1 i <;> simp only [hc, cond_true, cond_false] at h
    · exact List.mem_cons_of_mem _ (xv_find_mem h)
    · cases Option.some.inj h
      rw [← Nat.eq_of_beq_eq_true hc]
      exact List.mem_cons_self
section XW1
variable {tb : List Jvm.Cond} {nest : List (String × Nat × MethodName × String)} {cl : List vw_C} {ct : List (List (FieldType × Bool))} {at_ : List Nat} {sct : List (List Int32)} {strs : List (String × Nat × String × Nat)} {ys : List xm_Z} {kds : List Nat} {own : String} {K : xv_K}
theorem xw_fld (hk : ∀ w ∈ xw_K cl at_ ys own K, w ∈ tb) (h : xw_kOk nest cl ct at_ sct strs ys kds own K = true) : xc_fld tb cl ct own K := by
  intro i ck hck
  have hm := xv_find_mem hck
  have h1 := List.all_eq_true.mp (Bool.and_eq_true_iff.mp h).1 _ hm
  have hw : Jvm.Cond.fieldLink own i (xw_T cl ck.1 ck.2).1 (xw_T cl ck.1 ck.2).2.1 (xw_T cl ck.1 ck.2).2.2.1 ∈ tb := hk _ (List.mem_append_left _ (List.mem_map.mpr ⟨_, hm, rfl⟩))
  unfold xw_fOk at h1
  dsimp only at h1
  split at h1
  · rename_i fs r hfs hr
    obtain ⟨g1, g2⟩ := Bool.and_eq_true_iff.mp h1
    obtain ⟨C, T, N⟩ := r
    have e2 : N = fs.length := Nat.eq_of_beq_eq_true g2
    subst e2
    have hlt : ck.2 < fs.length := Nat.le_of_ble_eq_true g1
    have hT : xw_T cl ck.1 = T := by simp only [xw_T, hr]
    rw [hT] at hw
    exact ⟨fs, fs[ck.2], C, T, hfs, List.getElem?_eq_getElem hlt, hr, hw⟩
  · cases h1
theorem xw_new (hk : ∀ w ∈ xw_K cl at_ ys own K, w ∈ tb) (h : xw_kOk nest cl ct at_ sct strs ys kds own K = true) : xc_new tb cl at_ own K := by
  intro i ci hci
  have hm := xv_find_mem hci
  have h1 := List.all_eq_true.mp (Bool.and_eq_true_iff.mp (Bool.and_eq_true_iff.mp h).2).1 _ hm
  have hw : ∀ w, w ∈ xw_N cl at_ own K → w ∈ tb := fun w hw => hk _ (List.mem_append_right _ (List.mem_append_left _ hw))
  unfold xw_nOk at h1
  dsimp only at h1
  refine ⟨fun hlt => ?_, fun hge hlt => ?_⟩
  · have e1 : Nat.blt ci 1000 = true := Nat.ble_eq_true_of_le hlt
    have e2 : Nat.blt ci 2000 = true := Nat.ble_eq_true_of_le (by omega)
    rw [e1, cond_true] at h1
    cases hr : cl[ci]? with
    | none => rw [hr] at h1; cases h1
    | some r =>
      obtain ⟨C, T, N⟩ := r
      refine ⟨C, T, N, rfl, hw _ (List.mem_map.mpr ⟨(i, ci), List.mem_filter.mpr ⟨hm, e2⟩, ?_⟩)⟩
      simp only [e1, cond_true, xw_C, hr]
  · have e1 : Nat.blt ci 1000 = false := by
      cases e : Nat.blt ci 1000
      · rfl
      · have : ci < 1000 := Nat.le_of_ble_eq_true e
        omega
    have e2 : Nat.blt ci 2000 = true := Nat.ble_eq_true_of_le (by omega)
    have e3 : Nat.blt ci 1003 = true := Nat.ble_eq_true_of_le hlt
    rw [e1, e3, cond_false, cond_true] at h1
    cases ha : at_[ci - 1000]? with
    | none => rw [ha] at h1; cases h1
    | some cj =>
      rw [ha] at h1
      dsimp only at h1
      cases hr : cl[cj]? with
      | none => rw [hr] at h1; cases h1
      | some r =>
        obtain ⟨C, T, N⟩ := r
        refine ⟨cj, C, T, N, rfl, hr, hw _ (List.mem_map.mpr ⟨(i, ci), List.mem_filter.mpr ⟨hm, e2⟩, ?_⟩)⟩
        simp only [e1, cond_false, xw_C, List.getD_eq_getElem?_getD, ha, Option.getD_some, hr]
theorem xw_cst (hk : ∀ w ∈ xw_K cl at_ ys own K, w ∈ tb) : xc_cst tb own K :=
  ⟨fun i v h => hk _ (List.mem_append_right _ (List.mem_append_right _ (List.mem_append_left _ (List.mem_map.mpr ⟨_, xv_find_mem h, rfl⟩)))),
   fun i v h => hk _ (List.mem_append_right _ (List.mem_append_right _ (List.mem_append_right _ (List.mem_append_left _ (List.mem_map.mpr ⟨_, xv_find_mem h, rfl⟩)))))⟩
theorem xw_str (h : xw_kOk nest cl ct at_ sct strs ys kds own K = true) : xc_str sct strs own K := by
  intro i n hn h2000
  have hm := xv_find_mem hn
  have h1 := List.all_eq_true.mp (Bool.and_eq_true_iff.mp (Bool.and_eq_true_iff.mp h).2).1 _ hm
  unfold xw_nOk at h1
  dsimp only at h1
  have e1 : Nat.blt n 1000 = false := by
    cases e : Nat.blt n 1000
    · rfl
    · have : n < 1000 := Nat.le_of_ble_eq_true e
      omega
  have e3 : Nat.blt n 1003 = false := by
    cases e : Nat.blt n 1003
    · rfl
    · have : n < 1003 := Nat.le_of_ble_eq_true e
      omega
  rw [e1, e3, cond_false, cond_false] at h1
  obtain ⟨g1, g2⟩ := Bool.and_eq_true_iff.mp h1
  obtain ⟨g3, g4⟩ := Bool.and_eq_true_iff.mp g1
  obtain ⟨r, hr, g5⟩ := List.any_eq_true.mp g2
  obtain ⟨g6, g7⟩ := Bool.and_eq_true_iff.mp g5
  obtain ⟨g8, g9⟩ := Bool.and_eq_true_iff.mp g6
  obtain ⟨a, b, tx, m⟩ := r
  refine ⟨Nat.le_of_ble_eq_true g4, tx, ?_⟩
  have e5 : a = own := of_decide_eq_true g8
  have e6 : b = i := Nat.eq_of_beq_eq_true g9
  have e7 : m = n - 2000 := Nat.eq_of_beq_eq_true g7
  rw [← e5, ← e6, ← e7]
  exact hr
theorem xw_mth (hk : ∀ w ∈ xw_K cl at_ ys own K, w ∈ tb) (h : xw_kOk nest cl ct at_ sct strs ys kds own K = true) (hY : ∀ (j : Nat) (z : xm_Z) (kd : Nat), ys[j]? = some z → kds[j]? = some kd → (kd = 0 → Jvm.Cond.instanceMethod z.1 ∈ tb ∧ Jvm.Cond.selects z.1.cls z.1 z.1 ∈ tb) ∧ (kd = 1 → Jvm.Cond.instanceMethod z.1 ∈ tb) ∧ (kd = 3 → Jvm.Cond.static z.1 ∈ tb)) : xc_mth tb nest ys own K := by
  intro i k j hj
  have hm := xv_find_mem hj
  have h1 := List.all_eq_true.mp (Bool.and_eq_true_iff.mp (Bool.and_eq_true_iff.mp h).2).2 _ hm
  have hw : ∀ w, w ∈ xw_M ys own K → w ∈ tb := fun w hw => hk _ (List.mem_append_right _ (List.mem_append_right _ (List.mem_append_right _ (List.mem_append_right _ hw))))
  have hl : ¬ k = 2 → Jvm.Cond.methodLink own i (bif Nat.beq k 4 then xk_y else bif Nat.beq k 5 then Lib.objectInit else bif Nat.beq k 6 then arraycopyName else xw_y ys j) ∈ tb := fun hne => hw _ (List.mem_map.mpr ⟨(i, k, j), List.mem_filter.mpr ⟨hm, by rw [xf_nbeq (b := 2) hne]; rfl⟩, rfl⟩)
  unfold xw_mOk at h1
  dsimp only at h1
  have small : ∀ {k0 : Nat}, k = k0 → k0 < 4 → ∃ z kd, ys[j]? = some z ∧ kds[j]? = some kd ∧ (bif Nat.beq k 0 then Nat.beq kd 0 else bif Nat.beq k 3 then Nat.beq kd 3 else Nat.beq kd 1 && z.2.2.isNone && decide (z.1.name = "<init>") && (bif Nat.beq k 1 then true else nest.any (fun r => decide (r.1 = own) && Nat.beq r.2.1 i && decide (r.2.2.1 = z.1)))) = true := by
    intro k0 e hlt
    have e4 : Nat.ble 4 k = false := by
      cases e5 : Nat.ble 4 k
      · rfl
      · have := Nat.le_of_ble_eq_true e5
        omega
    rw [e4, cond_false] at h1
    split at h1
    · rename_i z kd hz hkd
      exact ⟨z, kd, hz, hkd, h1⟩
    · cases h1
  have yw : ∀ {z : xm_Z}, ys[j]? = some z → xw_y ys j = z.1 := fun hz => by simp only [xw_y, hz]
  refine ⟨fun e => ?_, fun e => ?_, fun e => ?_, fun e => ?_, fun e => ?_, fun e => ?_, fun e => ?_⟩
  · obtain ⟨z, kd, hz, hkd, h2⟩ := small e (by decide)
    subst e
    have hkd0 : kd = 0 := Nat.eq_of_beq_eq_true h2
    have hl2 := hl (by decide)
    rw [show Nat.beq 0 4 = false from rfl, show Nat.beq 0 5 = false from rfl, show Nat.beq 0 6 = false from rfl, cond_false, cond_false, cond_false, yw hz] at hl2
    exact ⟨z, hz, hl2, ((hY j z kd hz hkd).1 hkd0).1, ((hY j z kd hz hkd).1 hkd0).2⟩
  · obtain ⟨z, kd, hz, hkd, h2⟩ := small e (by decide)
    subst e
    have hl2 := hl (by decide)
    rw [show Nat.beq 1 4 = false from rfl, show Nat.beq 1 5 = false from rfl, show Nat.beq 1 6 = false from rfl, cond_false, cond_false, cond_false, yw hz] at hl2
    rw [show Nat.beq 1 0 = false from rfl, show Nat.beq 1 3 = false from rfl, show Nat.beq 1 1 = true from rfl, cond_false, cond_false, cond_true, Bool.and_true] at h2
    obtain ⟨g1, g2⟩ := Bool.and_eq_true_iff.mp h2
    obtain ⟨g3, g4⟩ := Bool.and_eq_true_iff.mp g1
    exact ⟨z, hz, hl2, (hY j z kd hz hkd).2.1 (Nat.eq_of_beq_eq_true g3), of_decide_eq_true g2, Option.isNone_iff_eq_none.mp g4⟩
  · obtain ⟨z, kd, hz, hkd, h2⟩ := small e (by decide)
    subst e
    rw [show Nat.beq 2 0 = false from rfl, show Nat.beq 2 3 = false from rfl, show Nat.beq 2 1 = false from rfl, cond_false, cond_false, cond_false] at h2
    obtain ⟨g0, g5⟩ := Bool.and_eq_true_iff.mp h2
    obtain ⟨g1, g2⟩ := Bool.and_eq_true_iff.mp g0
    obtain ⟨g3, g4⟩ := Bool.and_eq_true_iff.mp g1
    obtain ⟨r, hr, g6⟩ := List.any_eq_true.mp g5
    obtain ⟨g7, g8⟩ := Bool.and_eq_true_iff.mp g6
    obtain ⟨g9, g10⟩ := Bool.and_eq_true_iff.mp g7
    obtain ⟨a, b, m, host⟩ := r
    have e5 : a = own := of_decide_eq_true g9
    have e6 : b = i := Nat.eq_of_beq_eq_true g10
    have e7 : m = z.1 := of_decide_eq_true g8
    refine ⟨z, host, hz, ?_, (hY j z kd hz hkd).2.1 (Nat.eq_of_beq_eq_true g3), of_decide_eq_true g2, Option.isNone_iff_eq_none.mp g4⟩
    rw [← e5, ← e6, ← e7]
    exact hr
  · obtain ⟨z, kd, hz, hkd, h2⟩ := small e (by decide)
    subst e
    have hl2 := hl (by decide)
    rw [show Nat.beq 3 4 = false from rfl, show Nat.beq 3 5 = false from rfl, show Nat.beq 3 6 = false from rfl, cond_false, cond_false, cond_false, yw hz] at hl2
    exact ⟨z, hz, hl2, (hY j z kd hz hkd).2.2 (Nat.eq_of_beq_eq_true h2)⟩
  · subst e
    exact hl (by decide)
  · subst e
    exact hl (by decide)
  · subst e
    exact hl (by decide)
/-- a method's own part -/
def xw_oOk (cl : List vw_C) (y : xv_N) (z : xm_Z) : Bool :=
  plainName z.1.cls && decide (z.1.cls ≠ "java/lang/invoke/MethodHandle") && decide (z.1.cls ≠ "java/lang/invoke/VarHandle") && decide ((parseMethodDescriptor z.1.desc).map (fun d => d.parameters.length) = some y.2.1.1) && Nat.ble y.2.1.2.1 25 && decide (xv_ret y.2.1.2.2.1 = z.2.2) && (!Nat.beq y.2.1.2.2.2 1 || decide (z.1.name = "<init>")) && (match cl[y.1.1]? with
    | some r => decide (r.1 = z.1.cls)
    | none => true)
theorem xw_bod {y : xv_N} {z : xm_Z} (hk : ∀ w ∈ xw_K cl at_ ys z.1.cls y.1.2, w ∈ tb) (h : xw_kOk nest cl ct at_ sct strs ys kds z.1.cls y.1.2 = true) (hY : ∀ (j : Nat) (z : xm_Z) (kd : Nat), ys[j]? = some z → kds[j]? = some kd → (kd = 0 → Jvm.Cond.instanceMethod z.1 ∈ tb ∧ Jvm.Cond.selects z.1.cls z.1 z.1 ∈ tb) ∧ (kd = 1 → Jvm.Cond.instanceMethod z.1 ∈ tb) ∧ (kd = 3 → Jvm.Cond.static z.1 ∈ tb)) (ho : xw_oOk cl y z = true) (hd : y.2.2.2.all (xw_dOk z.2.1) = true) : xc_bod tb nest cl ct at_ sct strs ys y z := by
  simp only [xw_oOk, Bool.and_eq_true_iff] at ho
  obtain ⟨⟨⟨⟨⟨⟨⟨o1, o2⟩, o3⟩, o4⟩, o5⟩, o6⟩, o7⟩, o8⟩ := ho
  refine ⟨of_decide_eq_true o6, fun e => ?_, fun C T N hr => ?_, fun q hq => ?_, xw_fld hk h, xw_new hk h, xw_cst hk, xw_str h, xw_mth hk h hY⟩
  · rw [e, show Nat.beq 1 1 = true from rfl, Bool.not_true, Bool.false_or] at o7
    exact of_decide_eq_true o7
  · rw [hr] at o8
    exact of_decide_eq_true o8
  · have h1 := List.all_eq_true.mp hd q hq
    unfold xw_dOk at h1
    split at h1
    · rename_i r hr
      obtain ⟨g1, g2⟩ := Bool.and_eq_true_iff.mp h1
      obtain ⟨i, len⟩ := r
      have e : i = q.2 := of_decide_eq_true g1
      subst e
      refine ⟨len, hr, ?_⟩
      rcases Bool.or_eq_true_iff.mp g2 with g | g
      · exact Or.inl g
      · exact Or.inr (Nat.eq_of_beq_eq_true g)
    · cases h1
theorem xw_one {y : xv_N} {z : xm_Z} {kd : Nat} (hc : Jvm.Cond.code z.1 z.2.1 y.2.1.2.1 z.2.2 ∈ tb) (hy : ∀ w ∈ xw_Y z kd, w ∈ tb) (hk : ∀ w ∈ xw_K cl at_ ys z.1.cls y.1.2, w ∈ tb) (h : xw_kOk nest cl ct at_ sct strs ys kds z.1.cls y.1.2 = true) (hY : ∀ (j : Nat) (z : xm_Z) (kd : Nat), ys[j]? = some z → kds[j]? = some kd → (kd = 0 → Jvm.Cond.instanceMethod z.1 ∈ tb ∧ Jvm.Cond.selects z.1.cls z.1 z.1 ∈ tb) ∧ (kd = 1 → Jvm.Cond.instanceMethod z.1 ∈ tb) ∧ (kd = 3 → Jvm.Cond.static z.1 ∈ tb)) (ho : xw_oOk cl y z = true) (hd : y.2.2.2.all (xw_dOk z.2.1) = true) : xc_one tb nest cl ct at_ sct strs ys y z := by
  have hb := xw_bod hk h hY ho hd
  simp only [xw_oOk, Bool.and_eq_true_iff] at ho
  obtain ⟨⟨⟨⟨⟨⟨⟨o1, o2⟩, o3⟩, o4⟩, o5⟩, o6⟩, o7⟩, o8⟩ := ho
  exact ⟨o1, hc, hy _ List.mem_cons_self, ⟨of_decide_eq_true o2, of_decide_eq_true o3, of_decide_eq_true o4⟩, Nat.le_of_ble_eq_true o5, hb⟩
theorem xw_kind {z : xm_Z} {kd : Nat} (hy : ∀ w ∈ xw_Y z kd, w ∈ tb) : (kd = 0 → Jvm.Cond.instanceMethod z.1 ∈ tb ∧ Jvm.Cond.selects z.1.cls z.1 z.1 ∈ tb) ∧ (kd = 1 → Jvm.Cond.instanceMethod z.1 ∈ tb) ∧ (kd = 3 → Jvm.Cond.static z.1 ∈ tb) := by
  refine ⟨fun e => ?_, fun e => ?_, fun e => ?_⟩
  · subst e
    exact ⟨hy _ (List.mem_cons_of_mem _ List.mem_cons_self), hy _ (List.mem_cons_of_mem _ (List.mem_cons_of_mem _ List.mem_cons_self))⟩
  · subst e
    exact hy _ (List.mem_cons_of_mem _ List.mem_cons_self)
  · subst e
    exact hy _ (List.mem_cons_of_mem _ List.mem_cons_self)
end XW1
end
