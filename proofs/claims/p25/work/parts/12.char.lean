abbrev xq_cCA : ByteArray := prog_22_method_56_code
def xq_yCA : MethodName := ⟨"java/lang/String", "charAt", "(I)C"⟩
abbrev xq_cIL : ByteArray := prog_22_method_154_code
def xq_yIL : MethodName := ⟨"java/lang/String", "isLatin1", "()Z"⟩
abbrev xq_cLA : ByteArray := prog_23_method_2_code
def xq_yLA : MethodName := ⟨"java/lang/StringLatin1", "charAt", "([BI)C"⟩
abbrev xq_cCK : ByteArray := prog_22_method_155_code
def xq_yCK : MethodName := ⟨"java/lang/String", "checkIndex", "(II)V"⟩
abbrev xq_cPC : ByteArray := prog_30_method_11_code
def xq_yPC : MethodName := ⟨"jdk/internal/util/Preconditions", "checkIndex", "(IILjava/util/function/BiFunction;)I"⟩
theorem xq_dCA_0 : decode xq_cCA 0 = .ok (.aload_n 0, 1) := by decide +kernel
theorem xq_dCA_1 : decode xq_cCA 1 = .ok (.invokevirtual 492, 3) := by decide +kernel
theorem xq_dCA_4 : decode xq_cCA 4 = .ok (.ifCond .eq 12, 3) := by decide +kernel
theorem xq_dCA_7 : decode xq_cCA 7 = .ok (.aload_n 0, 1) := by decide +kernel
theorem xq_dCA_8 : decode xq_cCA 8 = .ok (.getfield 9, 3) := by decide +kernel
theorem xq_dCA_11 : decode xq_cCA 11 = .ok (.iload_n 1, 1) := by decide +kernel
theorem xq_dCA_12 : decode xq_cCA 12 = .ok (.invokestatic 495, 3) := by decide +kernel
theorem xq_dCA_15 : decode xq_cCA 15 = .ok (.ireturn, 1) := by decide +kernel
theorem xq_dIL_0 : decode xq_cIL 0 = .ok (.getstatic 38, 3) := by decide +kernel
theorem xq_dIL_3 : decode xq_cIL 3 = .ok (.ifCond .eq 14, 3) := by decide +kernel
theorem xq_dIL_6 : decode xq_cIL 6 = .ok (.aload_n 0, 1) := by decide +kernel
theorem xq_dIL_7 : decode xq_cIL 7 = .ok (.getfield 15, 3) := by decide +kernel
theorem xq_dIL_10 : decode xq_cIL 10 = .ok (.ifCond .ne 7, 3) := by decide +kernel
theorem xq_dIL_13 : decode xq_cIL 13 = .ok (.iconst 1, 1) := by decide +kernel
theorem xq_dIL_14 : decode xq_cIL 14 = .ok (.goto 4, 3) := by decide +kernel
theorem xq_dIL_17 : decode xq_cIL 17 = .ok (.iconst 0, 1) := by decide +kernel
theorem xq_dIL_18 : decode xq_cIL 18 = .ok (.ireturn, 1) := by decide +kernel
theorem xq_dLA_0 : decode xq_cLA 0 = .ok (.iload_n 1, 1) := by decide +kernel
theorem xq_dLA_1 : decode xq_cLA 1 = .ok (.aload_n 0, 1) := by decide +kernel
theorem xq_dLA_2 : decode xq_cLA 2 = .ok (.arraylength, 1) := by decide +kernel
theorem xq_dLA_3 : decode xq_cLA 3 = .ok (.invokestatic 9, 3) := by decide +kernel
theorem xq_dLA_6 : decode xq_cLA 6 = .ok (.aload_n 0, 1) := by decide +kernel
theorem xq_dLA_7 : decode xq_cLA 7 = .ok (.iload_n 1, 1) := by decide +kernel
theorem xq_dLA_8 : decode xq_cLA 8 = .ok (.baload, 1) := by decide +kernel
theorem xq_dLA_9 : decode xq_cLA 9 = .ok (.sipush 255, 3) := by decide +kernel
theorem xq_dLA_12 : decode xq_cLA 12 = .ok (.iand, 1) := by decide +kernel
theorem xq_dLA_13 : decode xq_cLA 13 = .ok (.i2c, 1) := by decide +kernel
theorem xq_dLA_14 : decode xq_cLA 14 = .ok (.ireturn, 1) := by decide +kernel
theorem xq_dCK_0 : decode xq_cCK 0 = .ok (.iload_n 0, 1) := by decide +kernel
theorem xq_dCK_1 : decode xq_cCK 1 = .ok (.iload_n 1, 1) := by decide +kernel
theorem xq_dCK_2 : decode xq_cCK 2 = .ok (.getstatic 1053, 3) := by decide +kernel
theorem xq_dCK_5 : decode xq_cCK 5 = .ok (.invokestatic 1059, 3) := by decide +kernel
theorem xq_dCK_8 : decode xq_cCK 8 = .ok (.pop, 1) := by decide +kernel
theorem xq_dCK_9 : decode xq_cCK 9 = .ok (.return_, 1) := by decide +kernel
theorem xq_dPC_0 : decode xq_cPC 0 = .ok (.iload_n 0, 1) := by decide +kernel
theorem xq_dPC_1 : decode xq_cPC 1 = .ok (.ifCond .lt 8, 3) := by decide +kernel
theorem xq_dPC_4 : decode xq_cPC 4 = .ok (.iload_n 0, 1) := by decide +kernel
theorem xq_dPC_5 : decode xq_cPC 5 = .ok (.iload_n 1, 1) := by decide +kernel
theorem xq_dPC_6 : decode xq_cPC 6 = .ok (.if_icmp .lt 10, 3) := by decide +kernel
theorem xq_dPC_16 : decode xq_cPC 16 = .ok (.iload_n 0, 1) := by decide +kernel
theorem xq_dPC_17 : decode xq_cPC 17 = .ok (.ireturn, 1) := by decide +kernel
def xq_Zn : String := "Ljava/util/function/BiFunction;"
/-- the words that charAt's walk wants -/
def xq_ws : List Jvm.Cond := [.initialized "java/lang/String", .initialized "java/lang/StringLatin1", .initialized "jdk/internal/util/Preconditions", .fieldLink "java/lang/String" 38 "java/lang/String" "COMPACT_STRINGS" "Z", .fieldLink "java/lang/String" 15 "java/lang/String" "coder" "B", .fieldLink "java/lang/String" 9 "java/lang/String" "value" "[B", .methodLink "java/lang/String" 492 xq_yIL, .instanceMethod xq_yIL, .selects "java/lang/String" xq_yIL xq_yIL, .methodLink "java/lang/String" 495 xq_yLA, .static xq_yLA, .methodLink "java/lang/StringLatin1" 9 xq_yCK, .static xq_yCK, .fieldLink "java/lang/String" 1053 "jdk/internal/util/Preconditions" "SIOOBE_FORMATTER" "Ljava/util/function/BiFunction;", .methodLink "java/lang/String" 1059 xq_yPC, .static xq_yPC, .code xq_yIL xq_cIL 1 (some .boolean), .code xq_yLA xq_cLA 2 (some .char), .code xq_yCK xq_cCK 2 none, .code xq_yPC xq_cPC 3 (some .int)]
def xq_V : Array Value → State → Outcome → State → Prop := fun _ st o t => o = .returned none ∧ t.heap = st.heap
def xq_rm (f w : Nat) : Room := { frames := f, cells := 0, slots := 0, locals := w }
section XQ
variable {p : Program} {l : Launch} {e : Env} {R : Room} {s : State} {m : MethodId} {args : Array Value} {below : List Frame} {meth : Method} {c : Code} {H : Heap} {locs : List Loc} {cells slots : Nat} {Q : State → Prop} {g : JFrame} {rest : List Value} {a : Array Value}
theorem xq_callN (hr : CallRun p l e R s m args below meth c H locs cells slots 0 0 g rest (xq_V a) (fun _ => False)) (kk : W p l e R s m args below meth c H locs cells slots Q { g with pc := g.pc + 3, stack := rest }) : W p l e R s m args below meth c H locs cells slots Q g := by
  intro T hT X
  obtain ⟨v, st₀, t, T', L, h0, X', hL, e1, ⟨hv, hh⟩, st⟩ := hr T hT X
  cases hv
  obtain ⟨t2, a1, b1⟩ := kk T' (by rw [e1, hh, h0]) (Stand.forget X' (fun q h => (hL q h).elim))
  exact ⟨t2, st t2 a1, b1⟩
end XQ
section XQ2
variable {l : Launch} {tb : List Jvm.Cond}
theorem xq_PC (v : Value) (hv : v = .null ∨ ∃ t : Nat, v = .ref t) {x n : Int32} (h0 : ¬ x < 0) (h1 : x < n) : Met l xq_yPC (.code xq_yPC xq_cPC 3 (some .int) :: tb) (xq_rm 1 22) (va_Pc [.int x, .int n, v] (fun _ => True)) (QcRead x) 0 0 (fun _ => False) := by
  refine Met.ofW (cc := xq_cPC) (maxL := 3) (ret := some .int) (by decide) rfl ?_
  intro p e s m args below meth c s₁ B hml hpc
  obtain ⟨rfl, -⟩ := hpc
  have hx := B.exec
  have hb := B.bytes
  have hlen : (lg_sl [.int x, .int n, v]).length = 3 := by rcases hv with rfl | ⟨t, rfl⟩ <;> rfl
  have hl := lv_entry [.int x, .int n, v] (n := 3) (by rw [hlen]; exact Nat.le_refl _)
  rw [lg_entry_eq]
  generalize (lg_sl [Value.int x, Value.int n, v] ++ List.replicate (3 - (lg_sl [Value.int x, Value.int n, v]).length) Slot.unset).toArray = ls at hl ⊢
  have hl : lv_has ls 3 (lv_args 0 [.int x, .int n, v]) := hl
  refine lv_iload_n (x := x) hx hb xq_dPC_0 rfl (lv_at hl 0 rfl) ?_
  refine lv_if_lt hx hb (tgt := 9) xq_dPC_1 rfl (fun q => absurd q h0) (fun _ => ?_)
  refine lv_iload_n (x := x) hx hb xq_dPC_4 rfl (lv_at hl 0 rfl) ?_
  refine lv_iload_n (x := n) hx hb xq_dPC_5 rfl (lv_at hl 1 rfl) ?_
  refine lv_icmp_lt hx hb (tgt := 16) xq_dPC_6 rfl (fun _ => ?_) (fun q => absurd h1 q)
  refine lv_iload_n (x := x) hx hb xq_dPC_16 rfl (lv_at hl 0 rfl) ?_
  exact W.iret hx hb B.returns (fun t ht _ => ⟨rfl, ht⟩) (fun q hq => absurd hq List.not_mem_nil) xq_dPC_17
theorem xq_CK (hg : ∀ w ∈ tb, goodWord w = true) (hin : ∀ w ∈ xq_ws, w ∈ tb) (A : Nat → Prop) {x n : Int32} (h0 : ¬ x < 0) (h1 : x < n) : Met l xq_yCK (.code xq_yCK xq_cCK 2 none :: tb) (xq_rm 2 44) (va_Pc [.int x, .int n] (fun U => va_Zq "jdk/internal/util/Preconditions" "SIOOBE_FORMATTER" "Ljava/util/function/BiFunction;" A U U.heap)) xq_V 0 0 (fun _ => False) := by
  refine Met.ofW (cc := xq_cCK) (maxL := 2) (ret := none) (by decide) rfl ?_
  intro p e s m args below meth c s₁ B hml hpc
  obtain ⟨rfl, hZ⟩ := hpc
  have hx := B.exec
  have hb := B.bytes
  have hown : s.vm.findClass "java/lang/String" = some m.cls := findClass_of_methodNamed B.named
  have hts := atoms_spec (ws := .code xq_yCK xq_cCK 2 none :: tb) B.pre
  have ht : ∀ w ∈ xq_ws, w.before #[Value.int x, .int n] s = true := fun w hw => hts w (List.mem_cons_of_mem _ (hin w hw))
  have hl := lv_entry [.int x, .int n] (n := 2) (Nat.le_refl _)
  rw [lg_entry_eq]
  generalize (lg_sl [Value.int x, Value.int n] ++ List.replicate (2 - (lg_sl [Value.int x, Value.int n]).length) Slot.unset).toArray = ls at hl ⊢
  have hl : lv_has ls 2 [(0, .int x), (1, .int n)] := hl
  have hG : GoodIn (.code xq_yCK xq_cCK 2 none :: tb) (.code xq_yPC xq_cPC 3 (some .int) :: tb) := xc_good hg (hin _ (List.mem_of_getElem? (i := 19) rfl))
  have go : ∀ v : Value, (v = .null ∨ ∃ t : Nat, v = .ref t) → va_Z "jdk/internal/util/Preconditions" "SIOOBE_FORMATTER" "Ljava/util/function/BiFunction;" v A s s.heap → W p l e (xq_rm 2 44) s m #[.int x, .int n] below meth c s.heap [] 0 0 (MQ below xq_V #[.int x, .int n] s 0 0 (fun _ => False)) (F0 m 0 ls []) := by
    intro v hv hZ
    refine lv_iload_n (x := x) hx hb xq_dCK_0 rfl (lv_at hl 0 rfl) ?_
    refine lv_iload_n (x := n) hx hb xq_dCK_1 rfl (lv_at hl 1 rfl) ?_
    refine va_gets hx hb hZ va_S.rf hown (ht _ (List.mem_of_getElem? (i := 13) rfl)) (fun _ h9 => h9) xq_dCK_2 ?_
    refine W.callR (W.runS (As := [.int x, .int n, v]) (rest := []) ⟨hx, hb, hml, hown, hts⟩ (xq_PC v hv h0 h1) ⟨callB_of 3 hts hG rfl rfl rfl (ht _ (List.mem_of_getElem? (i := 2) rfl)) (ht _ (List.mem_of_getElem? (i := 14) rfl)) (by decide +kernel) ⟨Nat.le_of_ble_eq_true rfl, Nat.le_of_ble_eq_true rfl⟩, ht _ (List.mem_of_getElem? (i := 15) rfl)⟩ ⟨fun a U g mk q => ⟨q.1, trivial⟩, fun U hU hW => ⟨rfl, trivial⟩⟩ rfl rfl hl.1 rfl (Nat.le_of_ble_eq_true rfl) xq_dCK_5 ⟨Nat.le_refl _, Nat.le_refl _⟩) ?_
    refine lv_pop (pc := 8) hx hb xq_dCK_8 rfl ?_
    exact W.vret hx hb B.returns (fun t ht _ => ⟨rfl, ht⟩) (fun q hq => absurd hq List.not_mem_nil) xq_dCK_9
  rcases hZ with h | ⟨t, h⟩
  · exact go .null (Or.inl rfl) h
  · exact go (.ref t) (Or.inr ⟨t, rfl⟩) h
theorem xq_LA (hg : ∀ w ∈ tb, goodWord w = true) (hin : ∀ w ∈ xq_ws, w ∈ tb) (A : Nat → Prop) {t N : Nat} {f : Nat → Value} {x b : Int32} (h0 : ¬ x < 0) (hk : x.toNatClampNeg < N) (hN : N < 2 ^ 31) (hf : f x.toNatClampNeg = .int b) (hc1 : ((b &&& 255).toUInt32 % 65536).toInt32 = b &&& 255) (hc2 : narrow .char (.int (b &&& 255)) = .int (b &&& 255)) :
    Met l xq_yLA (.code xq_yLA xq_cLA 2 (some .char) :: tb) (xq_rm 3 70) (va_Pc [.ref t, .int x] (fun U => va_T .byte t N f A U U.heap ∧ va_Zq "jdk/internal/util/Preconditions" "SIOOBE_FORMATTER" "Ljava/util/function/BiFunction;" A U U.heap)) (QcRead (b &&& 255)) 0 0 (fun _ => False) := by
  refine Met.ofW (cc := xq_cLA) (maxL := 2) (ret := some .char) (by decide) rfl ?_
  intro p e s m args below meth c s₁ B hml hpc
  obtain ⟨rfl, hT, hZ⟩ := hpc
  have hx := B.exec
  have hb := B.bytes
  have hown : s.vm.findClass "java/lang/StringLatin1" = some m.cls := findClass_of_methodNamed B.named
  have hts := atoms_spec (ws := .code xq_yLA xq_cLA 2 (some .char) :: tb) B.pre
  have ht : ∀ w ∈ xq_ws, w.before #[Value.ref t, .int x] s = true := fun w hw => hts w (List.mem_cons_of_mem _ (hin w hw))
  have hl := lv_entry [.ref t, .int x] (n := 2) (Nat.le_refl _)
  rw [lg_entry_eq]
  generalize (lg_sl [Value.ref t, Value.int x] ++ List.replicate (2 - (lg_sl [Value.ref t, Value.int x]).length) Slot.unset).toArray = ls at hl ⊢
  have hl : lv_has ls 2 [(0, .ref t), (1, .int x)] := hl
  have hG : GoodIn (.code xq_yLA xq_cLA 2 (some .char) :: tb) (.code xq_yCK xq_cCK 2 none :: tb) := xc_good hg (hin _ (List.mem_of_getElem? (i := 18) rfl))
  have hlt : x < Int32.ofNat N := by
    rw [Int32.lt_iff_toInt_lt, Int32.toInt_ofNat_of_lt hN]
    have h2 : ¬ x.toInt < 0 := fun q => h0 (Int32.lt_iff_toInt_lt.mpr q)
    have h3 : x.toNatClampNeg = x.toInt.toNat := rfl
    omega
  refine lv_iload_n (x := x) hx hb xq_dLA_0 rfl (lv_at hl 1 rfl) ?_
  refine lv_aload_n (x := t) hx hb xq_dLA_1 rfl (lv_at hl 0 rfl) ?_
  refine va_tlen hx hb hT va_S.rf rfl xq_dLA_2 ?_
  refine xq_callN (W.runS (As := [.int x, .int (Int32.ofNat N)]) (rest := []) ⟨hx, hb, hml, hown, hts⟩ (xq_CK hg hin A h0 hlt) ⟨callB_of 2 hts hG rfl rfl rfl (ht _ (List.mem_of_getElem? (i := 0) rfl)) (ht _ (List.mem_of_getElem? (i := 11) rfl)) (by decide +kernel) ⟨Nat.le_of_ble_eq_true rfl, Nat.le_of_ble_eq_true rfl⟩, ht _ (List.mem_of_getElem? (i := 12) rfl)⟩ ⟨fun a U g mk q => ⟨q.1, va_Zq.moved (u := U) (U := U.calling g mk a) (Vm.Alike.refl U.vm) q.2⟩, fun U hU hW => ⟨rfl, by show va_Zq _ _ _ A U U.heap; rw [hU]; exact va_Zq.moved hW.alike hZ⟩⟩ rfl rfl hl.1 rfl (Nat.le_of_ble_eq_true rfl) xq_dLA_3 ⟨Nat.le_refl _, Nat.le_refl _⟩) ?_
  refine lv_aload_n (pc := 6) (x := t) hx hb xq_dLA_6 rfl (lv_at hl 0 rfl) ?_
  refine lv_iload_n (x := x) hx hb xq_dLA_7 rfl (lv_at hl 1 rfl) ?_
  refine va_tb hx hb hT va_S.rf (fun q => q.elim h0 (fun q => absurd hk (Nat.not_lt.mpr q))) hf xq_dLA_8 ?_
  refine lv_sipush (v := 255) hx hb xq_dLA_9 (by decide) ?_
  refine lv_iand hx hb xq_dLA_12 ?_
  refine lv_i2c (v := b &&& 255) hx hb xq_dLA_13 hc1 ?_
  exact W.zret hx hb B.returns hc2 (fun t ht _ => ⟨rfl, ht⟩) (fun q hq => absurd hq List.not_mem_nil) xq_dLA_14
theorem xq_IL (hin : ∀ w ∈ xq_ws, w ∈ tb) (A : Nat → Prop) {a : Nat} : Met l xq_yIL (.code xq_yIL xq_cIL 1 (some .boolean) :: tb) (xq_rm 1 22) (va_Pc [.ref a] (fun U => va_Z "java/lang/String" "COMPACT_STRINGS" "Z" (.int 1) A U U.heap ∧ va_OF "java/lang/String" "coder" "B" (.int 0) a A U U.heap)) (QcRead 1) 0 0 (fun _ => False) := by
  refine Met.ofW (cc := xq_cIL) (maxL := 1) (ret := some .boolean) (by decide) rfl ?_
  intro p e s m args below meth c s₁ B hml hpc
  obtain ⟨rfl, hZ, hO⟩ := hpc
  have hx := B.exec
  have hb := B.bytes
  have hown : s.vm.findClass "java/lang/String" = some m.cls := findClass_of_methodNamed B.named
  have hts := atoms_spec (ws := .code xq_yIL xq_cIL 1 (some .boolean) :: tb) B.pre
  have ht : ∀ w ∈ xq_ws, w.before #[Value.ref a] s = true := fun w hw => hts w (List.mem_cons_of_mem _ (hin w hw))
  have hl := lv_entry [.ref a] (n := 1) (Nat.le_refl _)
  rw [lg_entry_eq]
  generalize (lg_sl [Value.ref a] ++ List.replicate (1 - (lg_sl [Value.ref a]).length) Slot.unset).toArray = ls at hl ⊢
  have hl : lv_has ls 1 [(0, .ref a)] := hl
  refine va_gets hx hb hZ va_S.rf hown (ht _ (List.mem_of_getElem? (i := 3) rfl)) (fun _ h9 => h9) xq_dIL_0 ?_
  refine lv_if_eq hx hb (tgt := 17) xq_dIL_3 rfl (fun q => absurd q (by decide)) (fun _ => ?_)
  refine lv_aload_n (x := a) hx hb xq_dIL_6 rfl (lv_at hl 0 rfl) ?_
  refine vk_getf hx hb hO va_S.rf hown (ht _ (List.mem_of_getElem? (i := 4) rfl)) (fun _ h9 => h9) xq_dIL_7 ?_
  refine lv_if_ne hx hb (tgt := 17) xq_dIL_10 rfl (fun q => absurd rfl q) (fun _ => ?_)
  refine lv_iconst (v := 1) hx hb xq_dIL_13 (by decide) ?_
  refine lv_goto hx hb (tgt := 18) xq_dIL_14 rfl ?_
  exact W.zret hx hb B.returns rfl (fun t ht _ => ⟨rfl, ht⟩) (fun q hq => absurd hq List.not_mem_nil) xq_dIL_18
/-- CHARAT of a constant text -/
theorem xq_char {kx : xk_C} (hg : ∀ w ∈ tb, goodWord w = true) (hin : ∀ w ∈ xq_ws, w ∈ tb) (hby : ∀ cs ∈ kx.1, cs.length < 2 ^ 31 ∧ ∀ b ∈ cs, ((b &&& 255).toUInt32 % 65536).toInt32 = b &&& 255 ∧ narrow .char (.int (b &&& 255)) = .int (b &&& 255)) : xk_Ch l tb xq_cCA kx := by
  intro A n k cs b x hn hk hxk hx0
  refine Met.ofW (cc := xq_cCA) (maxL := 2) (ret := some .char) (by decide) rfl ?_
  intro p e s m args below meth c s₁ B hml hpc
  obtain ⟨rfl, hS, hZ, hZq, -⟩ := hpc
  have hlt : n < kx.1.length := (List.getElem?_eq_some_iff.mp hn).1
  obtain ⟨-, hO1, hO2, hT⟩ := hS.1 n hlt
  have hrc := vk_recv (H := s.heap) (locs := []) hS hlt va_S.rf
  have hx := B.exec
  have hb := B.bytes
  have hown : s.vm.findClass "java/lang/String" = some m.cls := findClass_of_methodNamed B.named
  have hts := atoms_spec (ws := .code xk_y xq_cCA 2 (some .char) :: tb) B.pre
  have ht : ∀ w ∈ xq_ws, w.before #[Value.ref (kx.2.1 n), .int x] s = true := fun w hw => hts w (List.mem_cons_of_mem _ (hin w hw))
  obtain ⟨hb1, hb2⟩ := hby cs (List.mem_of_getElem? hn)
  obtain ⟨hc1, hc2⟩ := hb2 b (List.mem_of_getElem? hk)
  have hkl : k < cs.length := (List.getElem?_eq_some_iff.mp hk).1
  have hlen : (kx.1.map List.length).getD n 0 = cs.length := by rw [List.getD_eq_getElem?_getD, List.getElem?_map, hn]; rfl
  have hbyt : kx.1.getD n [] = cs := by rw [List.getD_eq_getElem?_getD, hn]; rfl
  rw [hlen, hbyt] at hT
  have hl := lv_entry [.ref (kx.2.1 n), .int x] (n := 2) (Nat.le_refl _)
  rw [lg_entry_eq]
  generalize (lg_sl [Value.ref (kx.2.1 n), Value.int x] ++ List.replicate (2 - (lg_sl [Value.ref (kx.2.1 n), Value.int x]).length) Slot.unset).toArray = ls at hl ⊢
  have hl : lv_has ls 2 [(0, .ref (kx.2.1 n)), (1, .int x)] := hl
  have hG1 : GoodIn (.code xk_y xq_cCA 2 (some .char) :: tb) (.code xq_yIL xq_cIL 1 (some .boolean) :: tb) := xc_good hg (hin _ (List.mem_of_getElem? (i := 16) rfl))
  have hG2 : GoodIn (.code xk_y xq_cCA 2 (some .char) :: tb) (.code xq_yLA xq_cLA 2 (some .char) :: tb) := xc_good hg (hin _ (List.mem_of_getElem? (i := 17) rfl))
  refine lv_aload_n (x := kx.2.1 n) hx hb xq_dCA_0 rfl (lv_at hl 0 rfl) ?_
  refine W.callR (W.runV (C := "java/lang/String") (As := []) (rest := []) ⟨hx, hb, hml, hown, hts⟩ (xq_IL hin A) ⟨callB_of 0 hts hG1 rfl rfl rfl (ht _ (List.mem_of_getElem? (i := 0) rfl)) (ht _ (List.mem_of_getElem? (i := 6) rfl)) (by decide +kernel) ⟨Nat.le_of_ble_eq_true rfl, Nat.le_of_ble_eq_true rfl⟩, ht _ (List.mem_of_getElem? (i := 7) rfl), ht _ (List.mem_of_getElem? (i := 8) rfl)⟩ ⟨fun a U g mk q => ⟨q.1, va_Z.moved (u := U) (U := U.calling g mk a) (Vm.Alike.refl U.vm) q.2.1, va_OF.moved (u := U) (U := U.calling g mk a) (Vm.Alike.refl U.vm) q.2.2⟩, hrc, fun U hU hW => ⟨rfl, by show va_Z _ _ _ _ A U U.heap; rw [hU]; exact va_Z.moved hW.alike hZ, by show va_OF _ _ _ _ _ A U U.heap; rw [hU]; exact va_OF.moved hW.alike hO1⟩⟩ rfl rfl hl.1 rfl (Nat.le_of_ble_eq_true rfl) xq_dCA_1 ⟨Nat.le_refl _, Nat.le_refl _⟩) ?_
  refine lv_if_eq (pc := 4) hx hb (tgt := 16) xq_dCA_4 rfl (fun q => absurd q (by decide)) (fun _ => ?_)
  refine lv_aload_n (x := kx.2.1 n) hx hb xq_dCA_7 rfl (lv_at hl 0 rfl) ?_
  refine vk_getf hx hb hO2 va_S.rf hown (ht _ (List.mem_of_getElem? (i := 5) rfl)) (fun _ h9 => h9) xq_dCA_8 ?_
  refine lv_iload_n (x := x) hx hb xq_dCA_11 rfl (lv_at hl 1 rfl) ?_
  refine W.callR (W.runS (As := [.ref (kx.2.2.1 n), .int x]) (rest := []) ⟨hx, hb, hml, hown, hts⟩ (xq_LA (t := kx.2.2.1 n) (N := cs.length) (f := fun j => Value.int (cs.getD j 0)) hg hin A hx0 (by rw [hxk]; exact hkl) hb1 (by rw [hxk]; show Value.int (cs.getD k 0) = _; rw [List.getD_eq_getElem?_getD, hk]; rfl) hc1 hc2) ⟨callB_of 2 hts hG2 rfl rfl rfl (ht _ (List.mem_of_getElem? (i := 1) rfl)) (ht _ (List.mem_of_getElem? (i := 9) rfl)) (by decide +kernel) ⟨Nat.le_of_ble_eq_true rfl, Nat.le_of_ble_eq_true rfl⟩, ht _ (List.mem_of_getElem? (i := 10) rfl)⟩ ⟨fun a U g mk q => ⟨q.1, va_T.moved (u := U) (U := U.calling g mk a) (Vm.Alike.refl U.vm) q.2.1, va_Zq.moved (u := U) (U := U.calling g mk a) (Vm.Alike.refl U.vm) q.2.2⟩, fun U hU hW => ⟨rfl, by show va_T _ _ _ _ A U U.heap; rw [hU]; exact va_T.moved hW.alike hT, by show va_Zq _ _ _ A U U.heap; rw [hU]; exact va_Zq.moved hW.alike hZq⟩⟩ rfl rfl hl.1 rfl (Nat.le_of_ble_eq_true rfl) xq_dCA_12 ⟨Nat.le_refl _, Nat.le_refl _⟩) ?_
  exact W.zret (pc := 15) hx hb B.returns hc2 (fun t ht _ => ⟨rfl, ht⟩) (fun q hq => absurd hq List.not_mem_nil) xq_dCA_15
end XQ2
