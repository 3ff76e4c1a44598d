abbrev xm_Z : Type := MethodName × ByteArray × Option FieldType
def xv_ret : Nat → Option FieldType
  | 0 => none
  | 1 => some .int
  | 2 => some .long
  | _ => some .boolean
/-- the constant texts: their bytes, their addresses, the addresses of their bytes, where they are named (class, entry, text, number); and then the constant arrays of ints: their numbers, lengths, contents -/
abbrev xk_C : Type := List (List Int32) × (Nat → Nat) × (Nat → Nat) × List (String × Nat × String × Nat) × List Nat × (Nat → Nat) × (Nat → Nat → Int32)
/-- the statics that charAt reads -/
def xk_St (A : Nat → Prop) (U : State) (H : Heap) : Prop := va_Z "java/lang/String" "COMPACT_STRINGS" "Z" (.int 1) A U H ∧ va_Zq "jdk/internal/util/Preconditions" "SIOOBE_FORMATTER" "Ljava/util/function/BiFunction;" A U H ∧ vx_Zq Bundle.tN "UNASSIGNED_STACK" Bundle.steD A U H ∧ vx_Zq Bundle.tN "SUPPRESSED_SENTINEL" Bundle.listD A U H
/-- the texts and the statics -/
def xk_T (kx : xk_C) (A : Nat → Prop) (U : State) (H : Heap) : Prop := vk_S kx.1.length (kx.1.map List.length) kx.1 kx.2.1 kx.2.2.1 A U H ∧ xk_St A U H
theorem xk_T.moved {kx : xk_C} {A : Nat → Prop} {u U : State} {H : Heap} (hvm : u.vm.Alike U.vm) (h : xk_T kx A u H) : xk_T kx A U H := ⟨vk_S.moved hvm h.1, va_Z.moved hvm h.2.1, va_Zq.moved hvm h.2.2.1, vx_Zq.moved hvm h.2.2.2.1, vx_Zq.moved hvm h.2.2.2.2⟩
theorem xk_T.kept {kx : xk_C} {A : Nat → Prop} {U : State} {H H1 : Heap} (h : xk_T kx A U H) (hq : ∀ a : Nat, a < H.size → ¬ A a → H1[a]? = H[a]?) : xk_T kx A U H1 := ⟨vk_S.kept h.1 hq, va_Z.kept h.2.1 hq, va_Zq.kept h.2.2.1 hq, vx_Zq.kept h.2.2.2.1 hq, vx_Zq.kept h.2.2.2.2 hq⟩
theorem xk_T.narrow {kx : xk_C} {A B : Nat → Prop} {U : State} {H : Heap} (h : xk_T kx A U H) (hAB : ∀ q, B q → A q) : xk_T kx B U H := ⟨vk_S.narrow h.1 hAB, va_Z.narrow h.2.1 hAB, va_Zq.narrow h.2.2.1 hAB, vx_Zq.narrow h.2.2.2.1 hAB, vx_Zq.narrow h.2.2.2.2 hAB⟩
def xk_W (kx : xk_C) (A : Nat → Prop) (U : State) (H : Heap) : Prop := xk_T kx A U H ∧ (∀ k ∈ kx.2.2.2.2.1, va_X (kx.2.1 k) (kx.2.2.2.2.2.1 k) (kx.2.2.2.2.2.2 k) U H ∧ kx.2.1 k < H.size ∧ ¬ A (kx.2.1 k)) ∧ va_Z "EggGarden" "BINDING" "[I" (.ref (kx.2.1 2)) A U H
/-- a constant array's cell -/
def xk_c {V : Type} (g : V → Value → Prop) (kx : xk_C) (k : Nat) (o : xv_O V) : Prop := k ∈ kx.2.2.2.2.1 ∧ o.2.length = kx.2.2.2.2.2.1 k ∧ ∀ (j : Nat) (v : xv_V V), o.2[j]? = some v → ∃ a, v = .inl a ∧ g a (.int (kx.2.2.2.2.2.2 k j))
def xk_R (kx : xk_C) (U : State) : Prop := ∀ q ∈ kx.2.2.2.1, vk_R q.1 q.2.1 q.2.2.1 (kx.2.1 q.2.2.2) U
def xk_F (kx : xk_C) (φ : List Nat) : Prop := (∀ n, n < kx.1.length → φ[n]? = some (kx.2.1 n)) ∧ ∀ k ∈ kx.2.2.2.2.1, φ[k]? = some (kx.2.1 k)
def xk_y : MethodName := ⟨"java/lang/String", "charAt", "(I)C"⟩
def xk_rm : Room := { frames := 4, cells := 0, slots := 0, locals := 160 }
/-- charAt of a constant text -/
def xk_Ch (l : Launch) (tb : List Jvm.Cond) (kcc : ByteArray) (kx : xk_C) : Prop := ∀ (A : Nat → Prop) (n k : Nat) (cs : List Int32) (b x : Int32), kx.1[n]? = some cs → cs[k]? = some b → x.toNatClampNeg = k → ¬ x < 0 →
  Met l xk_y (.code xk_y kcc 2 (some .char) :: tb) xk_rm (va_Pc [.ref (kx.2.1 n), .int x] (fun U => xk_T kx A U U.heap)) (QcRead (b &&& 255)) 0 0 (fun _ => False)
theorem xk_F.mono {kx : xk_C} {φ t : List Nat} (h : xk_F kx φ) : xk_F kx (φ ++ t) := ⟨fun n hn => by
  have h1 := h.1 n hn
  rw [List.getElem?_append_left (List.getElem?_eq_some_iff.mp h1).1]
  exact h1, fun n hn => by
  have h1 := h.2 n hn
  rw [List.getElem?_append_left (List.getElem?_eq_some_iff.mp h1).1]
  exact h1⟩
theorem xk_W.moved {kx : xk_C} {A : Nat → Prop} {u U : State} {H : Heap} (hvm : u.vm.Alike U.vm) (h : xk_W kx A u H) : xk_W kx A U H := ⟨h.1.moved hvm, fun k hk => ⟨va_X.moved hvm (h.2.1 k hk).1, (h.2.1 k hk).2⟩, va_Z.moved hvm h.2.2⟩
theorem xk_W.kept {kx : xk_C} {A : Nat → Prop} {U : State} {H0 H : Heap} {locs : List Loc} (h : xk_W kx A U H0) (hS : va_S A H0 H locs) : xk_W kx A U H := ⟨h.1.kept hS.2.1, fun k hk => ⟨va_X.kept (h.2.1 k hk).1 (hS.2.1 _ (h.2.1 k hk).2.1 (h.2.1 k hk).2.2), Nat.lt_of_lt_of_le (h.2.1 k hk).2.1 hS.1, (h.2.1 k hk).2.2⟩, va_Z.kept h.2.2 hS.2.1⟩
theorem xk_W.narrow {kx : xk_C} {A B : Nat → Prop} {U : State} {H : Heap} (h : xk_W kx A U H) (hAB : ∀ q, B q → A q) : xk_W kx B U H := ⟨h.1.narrow hAB, fun k hk => ⟨(h.2.1 k hk).1, (h.2.1 k hk).2.1, fun z => (h.2.1 k hk).2.2 (hAB _ z)⟩, va_Z.narrow h.2.2 hAB⟩
def xk_x1 : String := "java/lang/IndexOutOfBoundsException"
def xk_x2 : String := "java/util/NoSuchElementException"
/-- what the throws of cell need of the tables -/
def xk_E (U : State) : Prop := (va_Nw (.castable xk_x1 xk_x1) U ∧ va_Nw (.castable xk_x2 xk_x2) U) ∧ (va_Nw (.declares (Bundle.initS "java/lang/RuntimeException")) U ∧ va_Nw (.declares (Bundle.initS "java/lang/Exception")) U ∧ va_Nw (.declares (Bundle.initS Bundle.tN)) U) ∧ va_Nc xk_x2 xk_x1 U ∧ va_Nw (.fieldLinkNest "EggGarden$Formula" 104 "EggGarden" "BINDING" "[I" "EggGarden") U
theorem xk_E.warm {s U : State} (hW : s.WarmedH U.vm) (h : xk_E s) : xk_E U := ⟨⟨va_Nw.warmC hW h.1.1, va_Nw.warmC hW h.1.2⟩, ⟨va_Nw.warmD hW h.2.1.1, va_Nw.warmD hW h.2.1.2.1, va_Nw.warmD hW h.2.1.2.2⟩, va_Nc.moved hW.alike h.2.2.1, va_Nw.warmF hW h.2.2.2⟩
theorem xk_E.same {s U : State} (hv : s.vm = U.vm) (h : xk_E s) : xk_E U := ⟨⟨va_Nw.same rfl hv h.1.1, va_Nw.same rfl hv h.1.2⟩, ⟨va_Nw.same rfl hv h.2.1.1, va_Nw.same rfl hv h.2.1.2.1, va_Nw.same rfl hv h.2.1.2.2⟩, va_Nc.moved (by rw [hv]; exact Vm.Alike.refl U.vm) h.2.2.1, va_Nw.same rfl hv h.2.2.2⟩
def xm_K (Dg : va_G) (cl : List vw_C) (tys : List (ClassId × FieldType)) (at_ : List Nat) (nest : List (String × Nat × MethodName × String)) (kx : xk_C) (U : State) : Prop :=
  va_K Dg cl tys U ∧ xc_ao cl at_ U ∧ (∀ q ∈ nest, va_Nw (.methodLinkNest q.1 q.2.1 q.2.2.1 q.2.2.2) U) ∧ xk_R kx U ∧ xk_E U
theorem xm_K.warm {Dg : va_G} {cl : List vw_C} {tys : List (ClassId × FieldType)} {at_ : List Nat} {nest : List (String × Nat × MethodName × String)} {kx : xk_C} {s U : State} (hW : s.WarmedH U.vm) (h : xm_K Dg cl tys at_ nest kx s) : xm_K Dg cl tys at_ nest kx U :=
  ⟨va_K.moved hW.alike h.1, fun n cj C T N h1 h2 => va_AO.moved hW.alike (h.2.1 n cj C T N h1 h2), fun q hq => va_Nw.warmM hW (h.2.2.1 q hq), fun q hq => vk_R.warm hW (h.2.2.2.1 q hq), h.2.2.2.2.warm hW⟩
theorem xm_K.calling {Dg : va_G} {cl : List vw_C} {tys : List (ClassId × FieldType)} {at_ : List Nat} {nest : List (String × Nat × MethodName × String)} {kx : xk_C} {U : State} {g : JFrame} {mk : MethodId} {a : Array Value} (h : xm_K Dg cl tys at_ nest kx U) : xm_K Dg cl tys at_ nest kx (U.calling g mk a) :=
  ⟨va_K.moved (u := U) (U := U.calling g mk a) (Vm.Alike.refl U.vm) h.1, fun n cj C T N h1 h2 => va_AO.moved (u := U) (U := U.calling g mk a) (Vm.Alike.refl U.vm) (h.2.1 n cj C T N h1 h2), fun q hq => va_Nw.same rfl rfl (h.2.2.1 q hq), fun q hq => vk_R.same rfl (h.2.2.2.1 q hq), h.2.2.2.2.same rfl⟩
def xm_rm (d : Nat) (y : xv_N) : Room := { frames := d + 5, cells := y.2.2.1.1, slots := y.2.2.1.2, locals := 44 * (d + 5) }
def xm_A {V : Type} (g : V → Value → Prop) (φ : List Nat) : Option (xv_V V) → Option Value → Prop
  | none, v => v = none
  | some a, v => ∃ x : Value, v = some x ∧ xr_v g φ a x
def xm_Q {V : Type} (C : Nat → xv_O V → Prop) (g : V → Value → Prop) (tys : List (ClassId × FieldType)) (Dg : va_G) (cl : List vw_C) (r : xv_R V) (φ : List Nat) (A : Nat → Prop) : Array Value → State → Outcome → State → Prop := fun _ st oc t =>
  (∃ (v : Option Value) (ts : List Nat) (ws' : va_W), oc = .returned v ∧ xm_A g (φ ++ ts) r.1 v ∧ xr_m C g (φ ++ ts) tys r.2 ws' ∧ va_P Dg cl ws' t.heap ∧ va_D A ws') ∧ va_F A st t
def xm_P (Dg : va_G) (cl : List vw_C) (tys : List (ClassId × FieldType)) (at_ : List Nat) (nest : List (String × Nat × MethodName × String)) (kx : xk_C) (ws : va_W) (sz : Nat) (vals : List Value) : Array Value → State → Prop :=
  va_Pc vals (fun U => U.heap.size = sz ∧ va_P Dg cl ws U.heap ∧ xm_K Dg cl tys at_ nest kx U ∧ va_D (fun _ => True) ws ∧ xk_W kx (va_A ws sz) U U.heap)
/-- THE CONTRACT of the method j out of the pure machine's run: at most d frames -/
def xm_Con (l : Launch) {V : Type} (g : V → Value → Prop) (tys : List (ClassId × FieldType)) (Dg : va_G) (cl : List vw_C) (at_ : List Nat) (nest : List (String × Nat × MethodName × String)) (kx : xk_C) (tb : List Jvm.Cond) (ms : List xv_N) (ys : List xm_Z) (d j : Nat) (as : List (xv_V V)) (M : xv_M V) (r : xv_R V) : Prop :=
  ∀ (y : xv_N) (z : xm_Z), ms[j]? = some y → ys[j]? = some z → ∀ (φ : List Nat) (ws : va_W) (vals : List Value) (sz : Nat), xr_m (xk_c g kx) g φ tys M ws → xr_s g φ as vals → xk_F kx φ →
    Met l z.1 (.code z.1 z.2.1 y.2.1.2.1 z.2.2 :: tb) (xm_rm d y) (xm_P Dg cl tys at_ nest kx ws sz vals) (xm_Q (xk_c g kx) g tys Dg cl r φ (va_A ws sz)) y.2.2.1.1 y.2.2.1.2 (va_A ws sz)
def xc_dec (cc : ByteArray) (q : xv_I) : Prop := ∃ len, decode cc q.1 = .ok (q.2, len) ∧ (xv_sw q.2 = true ∨ len = xv_len q.2)
def xc_mth (tb : List Jvm.Cond) (nest : List (String × Nat × MethodName × String)) (ys : List xm_Z) (own : String) (K : xv_K) : Prop := ∀ i k j : Nat, xv_find K.2.1 i = some (k, j) →
  (k = 0 → ∃ z, ys[j]? = some z ∧ Jvm.Cond.methodLink own i z.1 ∈ tb ∧ Jvm.Cond.instanceMethod z.1 ∈ tb ∧ Jvm.Cond.selects z.1.cls z.1 z.1 ∈ tb) ∧
  (k = 1 → ∃ z, ys[j]? = some z ∧ Jvm.Cond.methodLink own i z.1 ∈ tb ∧ Jvm.Cond.instanceMethod z.1 ∈ tb ∧ z.1.name = "<init>" ∧ z.2.2 = none) ∧
  (k = 2 → ∃ z host, ys[j]? = some z ∧ (own, i, z.1, host) ∈ nest ∧ Jvm.Cond.instanceMethod z.1 ∈ tb ∧ z.1.name = "<init>" ∧ z.2.2 = none) ∧
  (k = 3 → ∃ z, ys[j]? = some z ∧ Jvm.Cond.methodLink own i z.1 ∈ tb ∧ Jvm.Cond.static z.1 ∈ tb) ∧
  (k = 4 → Jvm.Cond.methodLink own i xk_y ∈ tb) ∧ (k = 5 → Jvm.Cond.methodLink own i Lib.objectInit ∈ tb) ∧ (k = 6 → Jvm.Cond.methodLink own i arraycopyName ∈ tb)
def xc_str (sct : List (List Int32)) (strs : List (String × Nat × String × Nat)) (own : String) (K : xv_K) : Prop := ∀ i n : Nat, xv_find K.2.2.1 i = some n → 2000 ≤ n → n - 2000 < sct.length ∧ ∃ tx, (own, i, tx, n - 2000) ∈ strs
def xc_cst (tb : List Jvm.Cond) (own : String) (K : xv_K) : Prop := (∀ (i : Nat) (v : Int32), xv_find K.2.2.2.1 i = some v → Jvm.Cond.constant own i v ∈ tb) ∧ ∀ (i : Nat) (v : Int64), xv_find K.2.2.2.2 i = some v → Jvm.Cond.constantLong own i v ∈ tb
def xc_nat (tb : List Jvm.Cond) (kcc : ByteArray) : Prop := (Jvm.Cond.instanceMethod xk_y ∈ tb ∧ Jvm.Cond.selects "java/lang/String" xk_y xk_y ∈ tb ∧ Jvm.Cond.initialized "java/lang/String" ∈ tb ∧ Jvm.Cond.code xk_y kcc 2 (some .char) ∈ tb) ∧ Jvm.Cond.instanceMethod Lib.objectInit ∈ tb ∧ Jvm.Cond.code Lib.objectInit ⟨#[0xb1]⟩ 1 none ∈ tb ∧ Jvm.Cond.native arraycopyName ∈ tb ∧ Jvm.Cond.static arraycopyName ∈ tb ∧ Jvm.Cond.initialized "java/lang/System" ∈ tb
/-- the body of a method: its instructions and links -/
def xc_bod (tb : List Jvm.Cond) (nest : List (String × Nat × MethodName × String)) (cl : List vw_C) (ct : List (List (FieldType × Bool))) (at_ : List Nat) (sct : List (List Int32)) (strs : List (String × Nat × String × Nat)) (ys : List xm_Z) (y : xv_N) (z : xm_Z) : Prop :=
  xv_ret y.2.1.2.2.1 = z.2.2 ∧ (y.2.1.2.2.2 = 1 → z.1.name = "<init>") ∧ (∀ (C : String) (T : u_T) (N : Nat), cl[y.1.1]? = some (C, T, N) → C = z.1.cls) ∧
  (∀ q ∈ y.2.2.2, xc_dec z.2.1 q) ∧ xc_fld tb cl ct z.1.cls y.1.2 ∧ xc_new tb cl at_ z.1.cls y.1.2 ∧ xc_cst tb z.1.cls y.1.2 ∧ xc_str sct strs z.1.cls y.1.2 ∧ xc_mth tb nest ys z.1.cls y.1.2
/-- a method of the table is what its row says -/
def xc_one (tb : List Jvm.Cond) (nest : List (String × Nat × MethodName × String)) (cl : List vw_C) (ct : List (List (FieldType × Bool))) (at_ : List Nat) (sct : List (List Int32)) (strs : List (String × Nat × String × Nat)) (ys : List xm_Z) (y : xv_N) (z : xm_Z) : Prop :=
  plainName z.1.cls = true ∧ Jvm.Cond.code z.1 z.2.1 y.2.1.2.1 z.2.2 ∈ tb ∧ Jvm.Cond.initialized z.1.cls ∈ tb ∧
  (z.1.cls ≠ "java/lang/invoke/MethodHandle" ∧ z.1.cls ≠ "java/lang/invoke/VarHandle" ∧ (parseMethodDescriptor z.1.desc).map (fun d => d.parameters.length) = some y.2.1.1) ∧
  y.2.1.2.1 ≤ 25 ∧ xc_bod tb nest cl ct at_ sct strs ys y z
/-- all tables -/
def xc_all (tb : List Jvm.Cond) (nest : List (String × Nat × MethodName × String)) (cl : List vw_C) (ct : List (List (FieldType × Bool))) (at_ : List Nat) (sct : List (List Int32)) (strs : List (String × Nat × String × Nat)) (kcc : ByteArray) (ms : List xv_N) (ys : List xm_Z) : Prop :=
  (∀ w ∈ tb, goodWord w = true) ∧ xc_cls tb cl ct ∧ xc_arr tb ∧ xc_nat tb kcc ∧ ∀ (j : Nat) (y : xv_N), ms[j]? = some y → ∃ z, ys[j]? = some z ∧ xc_one tb nest cl ct at_ sct strs ys y z
theorem xc_good {tb : List Jvm.Cond} (h : ∀ w ∈ tb, goodWord w = true) {w0 w1 : Jvm.Cond} (h1 : w1 ∈ tb) : GoodIn (w0 :: tb) (w1 :: tb) := by
  intro w hw
  have hm : w ∈ tb := by
    rcases List.mem_cons.mp hw with q | q
    · rw [q]; exact h1
    · exact q
  exact ⟨List.mem_cons_of_mem _ hm, good_of_word (h w hm)⟩
section XSU
variable {p : Program} {l : Launch} {e : Env} {R : Room} {s : State} {m : MethodId} {args : Array Value} {below : List Frame} {meth : Method} {c : Code} {H : Heap} {locs : List Loc} {cells slots : Nat} {Q : State → Prop}
variable {cc : ByteArray} {pc : Nat} {V : Type} {C : Nat → xv_O V → Prop} {D : xv_D V} {g : V → Value → Prop} {φ : List Nat} {M : xv_M V} {S : List (xv_V V)} {ls : Array Slot} {st : List Value}
variable {Dg : va_G} {cl : List vw_C} {tys : List (ClassId × FieldType)} {A : Nat → Prop} {H0 : Heap} {ws : va_W} {at_ : List Nat} {nest : List (String × Nat × MethodName × String)} {kx : xk_C} {kcc : ByteArray}
/-- behind a call -/
theorem xs_after {r : xv_R V} {rest st0 : List Value} {a : Array Value} {mc ms : Nat} (hr : va_Run p l e R s m args below meth c H locs cells slots mc ms (F0 m pc ls st0) rest (xm_Q C g tys Dg cl r φ (va_A ws H.size) a) (va_A ws H.size)) (hD0 : va_D A ws) (hS : va_S A H0 H locs) (hA : ∀ q, H0.size ≤ q → A q)
    (kk : ∀ (v : Option Value) (ts : List Nat) (ws' : va_W) (H1 : Heap) (locs1 : List Loc), xm_A g (φ ++ ts) r.1 v → xr_m C g (φ ++ ts) tys r.2 ws' → va_P Dg cl ws' H1 → va_D A ws' → va_S A H0 H1 locs1 → W p l e R s m args below meth c H1 locs1 (cells + mc) (slots + ms) Q (F0 m (pc + 3) ls (v.toList ++ rest))) :
    W p l e R s m args below meth c H locs cells slots Q (F0 m pc ls st0) := by
  have hAA : ∀ q, va_A ws H.size q → A q := fun q hq => by
    rcases hq with ⟨k, E, hk⟩ | hq
    · exact hD0.2 k _ hk
    · exact hA q (Nat.le_trans hS.1 hq)
  intro T hT X
  obtain ⟨v, st₀, t, T', L, h0, X', hL, e1, e2, ⟨⟨v', ts, ws', hv, h1, h2, h3, h4⟩, hz, hk⟩, st⟩ := hr T hT X
  cases hv
  rw [h0] at hz hk
  obtain ⟨t2, a1, b1⟩ := kk v ts ws' T'.heap (locs ++ L) h1 h2 (by rw [e1]; exact h3) (h4.weaken (fun _ _ _ z => hAA _ z))
    ⟨Nat.le_trans hS.1 (by rw [e1]; exact hz), fun q g1 g2 => by rw [e1, hk q (Nat.lt_of_lt_of_le g1 hS.1) (fun z => g2 (hAA q z))]; exact hS.2.1 q g1 g2, fun q hq => by
      rcases List.mem_append.mp hq with h | h
      · exact hS.2.2 q h
      · exact hAA _ (hL q h)⟩ T' rfl X'
  exact ⟨t2, st t2 a1, b1⟩
theorem xm_blind {ws : va_W} {sz : Nat} {vals : List Value} : FrameBlind (xm_P Dg cl tys at_ nest kx ws sz vals) := fun a U g mk q => ⟨q.1, q.2.1, q.2.2.1, q.2.2.2.1.calling, q.2.2.2.2.1, xk_W.moved (u := U) (U := U.calling g mk a) (Vm.Alike.refl U.vm) q.2.2.2.2.2⟩
theorem xm_pre {ws : va_W} {vals : List Value} (hK : xm_K Dg cl tys at_ nest kx s) (hkw : xk_W kx A s s.heap) (hP : va_P Dg cl ws H) (hD0 : va_D A ws) (hS : va_S A s.heap H locs) (hA : ∀ q, s.heap.size ≤ q → A q) : ∀ U : State, U.heap = H → s.WarmedH U.vm → xm_P Dg cl tys at_ nest kx ws H.size vals vals.toArray U := fun U hU hW =>
  ⟨rfl, by rw [hU], by rw [hU]; exact hP, hK.warm hW, hD0.weaken (fun _ _ _ _ => trivial), by
    rw [hU]
    refine xk_W.moved hW.alike (xk_W.narrow (xk_W.kept hkw hS) (fun q hq => ?_))
    rcases hq with ⟨k, E, hk⟩ | hq
    · exact hD0.2 k _ hk
    · exact hA q (Nat.le_trans hS.1 hq)⟩
set_option maxHeartbeats 4000000 in
/-- CALLS -/
theorem xs_call {own : String} {ys : List xm_Z} {ms : List xv_N} {K : xv_K} {tb : List Jvm.Cond} {ct : List (List (FieldType × Bool))} {w0 : Jvm.Cond} {d nL : Nat} (hx : p.tables.exec = Jvm.exec) (hb : c.code = cc) (hml : c.maxLocals = nL) (hls : ls.size = nL) (hown : s.vm.findClass own = some m.cls) (hts : ∀ w ∈ (w0 :: tb), w.before args s = true)
    {sct : List (List Int32)} {strs : List (String × Nat × String × Nat)} (hall : xc_all tb nest cl ct at_ sct strs kcc ms ys) (hMt : xc_mth tb nest ys own K) (hK : xm_K Dg cl tys at_ nest kx s) (hkw : xk_W kx A s s.heap) (hkF : xk_F kx φ) (hRf : d + 6 ≤ R.frames) (hRl : 44 * (d + 6) ≤ R.locals) (hA : ∀ q, s.heap.size ≤ q → A q)
    {i : Instr} {j : Nat} {as Rs : List (xv_V V)} (h : xv_arg ms K M S i = some (j, as, Rs)) {z : xv_N} (hz : ms[j]? = some z) {r : xv_R V} (hcon : xm_Con l g tys Dg cl at_ nest kx tb ms ys d j as M r) (hdg : decode cc pc = .ok (i, xv_len i))
    (hm : xr_m (xk_c g kx) g φ tys M ws) (hP : va_P Dg cl ws H) (hD0 : va_D A ws) (hS : va_S A s.heap H locs) (hs : xr_s g φ S st) (hc1 : cells + z.2.2.1.1 ≤ R.cells) (hc2 : slots + z.2.2.1.2 ≤ R.slots)
    (kk : ∀ (t : List Nat) (ws' : va_W) (H' : Heap) (locs' : List Loc) (st' : List Value), xr_m (xk_c g kx) g (φ ++ t) tys r.2 ws' → va_P Dg cl ws' H' → va_D A ws' → va_S A s.heap H' locs' → xr_s g (φ ++ t) (r.1.toList ++ Rs) st' → W p l e R s m args below meth c H' locs' (cells + z.2.2.1.1) (slots + z.2.2.1.2) Q (F0 m (pc + 3) ls st')) :
    W p l e R s m args below meth c H locs cells slots Q (F0 m pc ls st) := by
  have htb : ∀ w ∈ tb, w ∈ (w0 :: tb) := fun w hw => List.mem_cons_of_mem _ hw
  obtain ⟨y, hy, hp1, hcode, hini, hd, hml2, hret, -, hcn, -⟩ := hall.2.2.2.2 j z hz
  have hG : GoodIn (w0 :: tb) (Jvm.Cond.code y.1 y.2.1 z.2.1.2.1 y.2.2 :: tb) := xc_good hall.1 hcode
  have hroom : (xm_rm d z).frames + 1 ≤ R.frames ∧ 8 + (z.2.1.2.1 + 11) + (xm_rm d z).locals ≤ R.locals := ⟨hRf, by show 8 + (z.2.1.2.1 + 11) + 44 * (d + 5) ≤ R.locals; omega⟩
  have fin : ∀ {rest : List Value} {a : Array Value}, xr_s g φ Rs rest → va_Run p l e R s m args below meth c H locs cells slots z.2.2.1.1 z.2.2.1.2 (F0 m pc ls st) rest (xm_Q (xk_c g kx) g tys Dg cl r φ (va_A ws H.size) a) (va_A ws H.size) → W p l e R s m args below meth c H locs cells slots Q (F0 m pc ls st) := fun hrs hrun =>
    xs_after hrun hD0 hS hA (fun v ts ws' H1 locs1 h1 h2 h3 h4 h5 => by
      refine kk ts ws' H1 locs1 _ h2 h3 h4 h5 ?_
      cases hr1 : r.1 with
      | none =>
        rw [hr1] at h1
        rw [show v = none from h1]
        exact xr_s_mono hrs
      | some av =>
        rw [hr1] at h1
        obtain ⟨x, rfl, hxv⟩ := h1
        exact ⟨x, _, rfl, hxv, xr_s_mono hrs⟩)
  cases i
  all_goals (first | (simp only [xv_arg, reduceCtorEq] at h; done) | skip)
  case invokevirtual i =>
    simp only [xv_arg] at h
    split at h
    · rename_i j' hj
      split at h
      · rename_i y' hy'
        split at h
        · rename_i a R1 hdrop
          split at h
          · rename_i o ho
            cases h1 : Nat.beq o.1 (8 + y'.1.1) <;> simp only [h1, Bool.true_and, Bool.false_and, cond_true, cond_false] at h
            · cases h
            cases h2 : Nat.ble (xv_cats R1) 8 <;> simp only [h2, cond_true, cond_false] at h
            · cases h
            obtain ⟨rfl, rfl, rfl⟩ := by simpa using h
            cases Option.some.inj (hy'.symm.trans hz)
            obtain ⟨z2, hz2, hl1, hl2, hl3⟩ := (hMt i 0 _ hj).1 rfl
            cases Option.some.inj (hz2.symm.trans hy)
            have hsd := xr_s_drop z.2.1.1 hs
            rw [hdrop] at hsd
            obtain ⟨_, rest, hst, ⟨q, hq, rfl⟩, hrs⟩ := hsd
            have hlen : (st.take z.2.1.1).reverse.length = z.2.1.1 := by
              rw [List.length_reverse, List.length_take]
              have hl : (st.drop z.2.1.1).length = rest.length + 1 := by rw [hst]; rfl
              rw [List.length_drop] at hl
              omega
            have hstk : st = ((st.take z.2.1.1).reverse).reverse ++ .ref q :: rest := by rw [List.reverse_reverse, ← hst, List.take_append_drop]
            obtain ⟨ia, E, hE, he, -⟩ := xr_m_at hm ho hq (by have := Nat.eq_of_beq_eq_true h1; omega) (by have := Nat.eq_of_beq_eq_true h1; omega)
            obtain ⟨fs, rfl, -⟩ := xr_e_obj he (Nat.eq_of_beq_eq_true h1)
            obtain ⟨⟨C, T, N⟩, hr1, -⟩ := hP ia _ hE
            have hC := hcn C T N hr1
            subst hC
            have hcat := xr_s_cats hrs
            have h8 := Nat.le_of_ble_eq_true h2
            refine fin (a := (Value.ref q :: (st.take z.2.1.1).reverse).toArray) hrs (va_runV (C := y.1.cls) (As := (st.take z.2.1.1).reverse) (rest := rest) ⟨hx, hb, hml, hown, hts⟩ (hcon z y hz hy φ ws (.ref q :: (st.take z.2.1.1).reverse) H.size hm ⟨_, _, rfl, ⟨q, hq, rfl⟩, xr_s_rev (xr_s_take _ hs)⟩ hkF) ⟨callB_of z.2.1.1 hts hG rfl rfl rfl (hts _ (htb _ hini)) (hts _ (htb _ hl1)) hd hroom, hts _ (htb _ hl2), hts _ (htb _ hl3)⟩ ⟨xm_blind, va_recv hK.1 hP hr1 hE, xm_pre hK hkw hP hD0 hS hA⟩ rfl hlen hls hstk ?_ hdg ⟨hc1, hc2⟩)
            show 2 * 0 + _ ≤ 8
            rw [hcat]
            omega
          · cases h
        · cases h
      · cases h
    · cases h
  case invokespecial i =>
    simp only [xv_arg] at h
    split at h
    · rename_i k j' hj
      cases hk : (Nat.beq k 1 || Nat.beq k 2) <;> simp only [hk, cond_true, cond_false] at h
      · cases h
      split at h
      · rename_i y' hy'
        split at h
        · rename_i a R1 hdrop
          cases h2 : Nat.ble (xv_cats R1) 8 <;> simp only [h2, cond_true, cond_false] at h
          · cases h
          obtain ⟨rfl, rfl, rfl⟩ := by simpa using h
          cases Option.some.inj (hy'.symm.trans hz)
          have hsd := xr_s_drop z.2.1.1 hs
          rw [hdrop] at hsd
          obtain ⟨_, rest, hst, ⟨q, hq, rfl⟩, hrs⟩ := hsd
          have hlen : (st.take z.2.1.1).reverse.length = z.2.1.1 := by
            rw [List.length_reverse, List.length_take]
            have hl : (st.drop z.2.1.1).length = rest.length + 1 := by rw [hst]; rfl
            rw [List.length_drop] at hl
            omega
          have hstk : st = ((st.take z.2.1.1).reverse).reverse ++ .ref q :: rest := by rw [List.reverse_reverse, ← hst, List.take_append_drop]
          have hcat := xr_s_cats hrs
          have h8 := Nat.le_of_ble_eq_true h2
          rcases Bool.or_eq_true_iff.mp hk with hk1 | hk1
          · obtain ⟨z2, hz2, hl1, hl2, hl3, hl4⟩ := (hMt i k _ hj).2.1 (Nat.eq_of_beq_eq_true hk1)
            cases Option.some.inj (hz2.symm.trans hy)
            obtain ⟨zn, zb, zr⟩ := y
            obtain rfl : zr = none := hl4
            refine fin (a := (Value.ref q :: (st.take z.2.1.1).reverse).toArray) hrs (va_runI (As := (st.take z.2.1.1).reverse) (rest := rest) ⟨hx, hb, hml, hown, hts⟩ (hcon z (zn, zb, none) hz hy φ ws (.ref q :: (st.take z.2.1.1).reverse) H.size hm ⟨_, _, rfl, ⟨q, hq, rfl⟩, xr_s_rev (xr_s_take _ hs)⟩ hkF) ⟨callB_of z.2.1.1 hts hG rfl rfl rfl (hts _ (htb _ hini)) (hts _ (htb _ hl1)) hd hroom, hl3, hts _ (htb _ hl2)⟩ ⟨xm_blind, xm_pre hK hkw hP hD0 hS hA⟩ rfl hlen hls hstk ?_ hdg ⟨hc1, hc2⟩)
            show 2 * 0 + _ ≤ 8
            rw [hcat]
            omega
          · obtain ⟨z2, host, hz2, hl1, hl2, hl3, hl4⟩ := (hMt i k _ hj).2.2.1 (Nat.eq_of_beq_eq_true hk1)
            cases Option.some.inj (hz2.symm.trans hy)
            obtain ⟨zn, zb, zr⟩ := y
            obtain rfl : zr = none := hl4
            refine fin (a := (Value.ref q :: (st.take z.2.1.1).reverse).toArray) hrs (va_runIN (host := host) (As := (st.take z.2.1.1).reverse) (rest := rest) ⟨hx, hb, hml, hown, hts⟩ (hcon z (zn, zb, none) hz hy φ ws (.ref q :: (st.take z.2.1.1).reverse) H.size hm ⟨_, _, rfl, ⟨q, hq, rfl⟩, xr_s_rev (xr_s_take _ hs)⟩ hkF) ⟨va_cnB z.2.1.1 hts hG rfl rfl rfl (hK.2.2.1 _ hl1) (hts _ (htb _ hini)) hd hroom, hl3, hts _ (htb _ hl2)⟩ ⟨xm_blind, xm_pre hK hkw hP hD0 hS hA⟩ rfl hlen hls hstk ?_ hdg ⟨hc1, hc2⟩)
            show 2 * 0 + _ ≤ 8
            rw [hcat]
            omega
        · cases h
      · cases h
    · cases h
  case invokestatic i =>
    simp only [xv_arg] at h
    split at h
    · rename_i j' hj
      split at h
      · rename_i y' hy'
        cases h1 : Nat.ble y'.2.1.1 S.length <;> simp only [h1, Bool.true_and, Bool.false_and, cond_true, cond_false] at h
        · cases h
        cases h2 : Nat.ble (xv_cats (S.drop y'.2.1.1)) 8 <;> simp only [h2, cond_true, cond_false] at h
        · cases h
        obtain ⟨rfl, rfl, rfl⟩ := by simpa using h
        cases Option.some.inj (hy'.symm.trans hz)
        obtain ⟨z2, hz2, hl1, hl2⟩ := (hMt i 3 _ hj).2.2.2.1 rfl
        cases Option.some.inj (hz2.symm.trans hy)
        have hrs := xr_s_drop z.2.1.1 hs
        have hsl := xr_s_len hs
        have hle := Nat.le_of_ble_eq_true h1
        have hlen : (st.take z.2.1.1).reverse.length = z.2.1.1 := by
          rw [List.length_reverse, List.length_take]
          omega
        have hstk : st = ((st.take z.2.1.1).reverse).reverse ++ st.drop z.2.1.1 := by rw [List.reverse_reverse, List.take_append_drop]
        have hcat := xr_s_cats hrs
        have h8 := Nat.le_of_ble_eq_true h2
        refine fin (a := ((st.take z.2.1.1).reverse).toArray) hrs (va_runS (As := (st.take z.2.1.1).reverse) (rest := st.drop z.2.1.1) ⟨hx, hb, hml, hown, hts⟩ (hcon z y hz hy φ ws ((st.take z.2.1.1).reverse) H.size hm (xr_s_rev (xr_s_take _ hs)) hkF) ⟨callB_of z.2.1.1 hts hG rfl rfl rfl (hts _ (htb _ hini)) (hts _ (htb _ hl1)) hd hroom, hts _ (htb _ hl2)⟩ ⟨xm_blind, xm_pre hK hkw hP hD0 hS hA⟩ rfl hlen hls hstk ?_ hdg ⟨hc1, hc2⟩)
        show 2 * 0 + _ ≤ 8
        rw [hcat]
        omega
      · cases h
    · cases h
end XSU
