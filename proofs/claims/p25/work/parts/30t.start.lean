def zt_bind : List Int32 := [0, 0, 0, 5, 5, 6, 6, 4, 4, 4, 4, 4, 4, 1, 2, 3, 0, 0]
def zt_kx (ad adV : Nat → Nat) (L : Nat) (xs : Nat → Int32) : xk_C := (zt_sct, ad, adV, zt_strs, [1, 2], (fun k => bif Nat.beq k 2 then 18 else L), (fun k j => bif Nat.beq k 2 then zt_bind.getD j 0 else xs j))
/-- a static array of numbers that is known whole -/
theorem zt_arrK {args : Array Value} {s : State} {tm : Term} {N : Nat} {f : Nat → Int32} (hN : N < 2 ^ 31) (harr : (Cond.arrayOf tm .int).before args s = true) (hlen : (Term.length tm).eval args s none [] s = some (.int (Int32.ofNat N))) (hel : ∀ j : Nat, j < N → (Term.elem tm (.int (Int32.ofNat j))).eval args s none [] s = some (.int (f j))) : ∃ t : Nat, tm.eval args s none [] s = some (.ref t) ∧ va_X t N f s s.heap ∧ t < s.heap.size := by
  obtain ⟨t, ht, cell, h1, h2, h3, h4, h5, h6, -⟩ := va_Tof (f := fun j => .int (f j)) (A := fun q => s.heap.size ≤ q) hN harr hlen hel (fun a h => by omega)
  obtain ⟨b, cell2, hb, harr2, hv⟩ := Term.length_spec hlen
  have hsz : cell2.slots.size < 2 ^ 31 := by
    have hl := hlen
    simp only [Term.eval, hb, harr2, Option.bind_eq_bind, Option.bind_some] at hl
    by_cases hlt : cell2.slots.size < 2147483648
    · exact hlt
    · simp [hlt] at hl
  cases ht.symm.trans hb
  obtain ⟨hc2, -⟩ := State.arrayAt?_spec harr2
  cases h1.symm.trans hc2
  refine ⟨t, ht, ⟨cell, h1, h2, h3, ?_, h6⟩, (Array.getElem?_eq_some_iff.mp h1).1⟩
  have e : Int32.ofNat cell.slots.size = Int32.ofNat N := h5
  have e1 := congrArg Int32.toInt e
  rw [Int32.toInt_ofNat_small hsz, Int32.toInt_ofNat_small hN] at e1
  exact Int.ofNat.inj e1
set_option maxRecDepth 100000 in
theorem zt_fl : ((flatC (Jvm.Cond.and given_1 narrow_1)).drop 96).take 198 = (List.range 198).map (fun j => Jvm.Cond.eq (.elem (Jvm.Term.field (Jvm.Term.string "EggGarden$Tokens" 18) "java/lang/String" "value" "[B") (.int (Int32.ofNat j))) (.int ((zt_sct.getD 0 []).getD j 0))) := by decide +kernel
theorem zt_fl_at (j : Nat) (hj : j < 198) : Jvm.Cond.eq (.elem (Jvm.Term.field (Jvm.Term.string "EggGarden$Tokens" 18) "java/lang/String" "value" "[B") (.int (Int32.ofNat j))) (.int ((zt_sct.getD 0 []).getD j 0)) ∈ flatC (Jvm.Cond.and given_1 narrow_1) := by
  have h : Jvm.Cond.eq (.elem (Jvm.Term.field (Jvm.Term.string "EggGarden$Tokens" 18) "java/lang/String" "value" "[B") (.int (Int32.ofNat j))) (.int ((zt_sct.getD 0 []).getD j 0)) ∈ ((flatC (Jvm.Cond.and given_1 narrow_1)).drop 96).take 198 := by
    rw [zt_fl]
    exact List.mem_map.mpr ⟨j, List.mem_range.mpr hj, rfl⟩
  exact List.mem_of_mem_drop (List.mem_of_mem_take h)
theorem zt_nw {args : Array Value} {s : State} (hts : ∀ w ∈ lw_tbl, w.before args s = true) : ∀ q ∈ zt_nest, va_Nw (.methodLinkNest q.1 q.2.1 q.2.2.1 q.2.2.2) s := by
  unfold zt_nest
  refine List.forall_mem_cons.mpr ⟨va_Nw.of rfl (hts _ (xw_tab_in 2 _ (List.mem_of_getElem? (i := 214) rfl))), ?_⟩
  refine List.forall_mem_cons.mpr ⟨va_Nw.of rfl (hts _ (xw_tab_in 2 _ (List.mem_of_getElem? (i := 219) rfl))), ?_⟩
  refine List.forall_mem_cons.mpr ⟨va_Nw.of rfl (hts _ (xw_tab_in 3 _ (List.mem_of_getElem? (i := 12) rfl))), ?_⟩
  refine List.forall_mem_cons.mpr ⟨va_Nw.of rfl (hts _ (xw_tab_in 1 _ (List.mem_of_getElem? (i := 151) rfl))), ?_⟩
  refine List.forall_mem_cons.mpr ⟨va_Nw.of rfl (hts _ (xw_tab_in 1 _ (List.mem_of_getElem? (i := 185) rfl))), ?_⟩
  refine List.forall_mem_cons.mpr ⟨va_Nw.of rfl (hts _ (xw_tab_in 1 _ (List.mem_of_getElem? (i := 47) rfl))), ?_⟩
  refine List.forall_mem_cons.mpr ⟨va_Nw.of rfl (hts _ (xw_tab_in 1 _ (List.mem_of_getElem? (i := 41) rfl))), ?_⟩
  exact fun _ h => absurd h List.not_mem_nil
/-- WHERE THE LAW BEGINS -/
theorem zt_start {p : Program} {s : State} {m : MethodId} {meth : Method} {c : Code} {b L : Nat} {xs : Nat → Int32} (C0 : lw_At p s m meth c b L xs) : ∃ (Dg : va_G) (tys : List (ClassId × FieldType)) (ad adV : Nat → Nat), ad 1 = b ∧  xc_tys zt_cl zt_at tys ∧ xm_K Dg zt_cl tys zt_at zt_nest (zt_kx ad adV L xs) s ∧ xk_W (zt_kx ad adV L xs) (fun q => s.heap.size ≤ q) s s.heap := by
  obtain ⟨hx, hb, hr, hml, hown, hts, hX, hbl, hlk, hgv⟩ := C0
  have htb : ∀ w ∈ zt_tb, w.before #[Value.ref b] s = true := fun w hw => hts w (zt_tb_ok w hw).1
  have hfl := flat_of_before _ hgv
  have hA : ∀ a : Nat, a < s.heap.size → ¬ (s.heap.size ≤ a) := fun a h => by omega
  have h1 : ∀ ci : Nat, ∃ q : ClassId × (Nat → Nat), ∀ r, zt_cl[ci]? = some r → u_Kn s r.1 r.2.1 r.2.2 q.1 q.2 := by
    intro ci
    cases hf : zt_ct[ci]? with
    | none =>
      refine ⟨(0, fun _ => 0), fun r hr => ?_⟩
      have e1 := List.getElem?_eq_none_iff.mp hf
      have e2 := (List.getElem?_eq_some_iff.mp hr).1
      have e3 : zt_cl.length = zt_ct.length := rfl
      omega
    | some fs =>
      obtain ⟨C, T, hcl, hu, -, -, hi, -⟩ := zt_cls ci fs hf
      obtain ⟨cC, iS, hK⟩ := u_known htb hu (htb _ hi)
      exact ⟨(cC, iS), fun r hr => by cases Option.some.inj (hcl.symm.trans hr); exact hK⟩
  obtain ⟨D, hD⟩ := Classical.axiomOfChoice h1
  obtain ⟨cI, kI, pI, i1, i2, i3⟩ := Cond.arrayClass_spec (htb _ zt_arr.1)
  obtain ⟨cJ, kJ, pJ, j1, j2, j3⟩ := Cond.arrayClass_spec (htb _ zt_arr.2.1)
  obtain ⟨cZ, kZ, pZ, z1, z2, z3⟩ := Cond.arrayClass_spec (htb _ zt_arr.2.2)
  have hoE : (Jvm.Cond.arrayOver (.object "EggGarden$Egg")).before #[Value.ref b] s = true := hts _ (xw_tab_in 1 _ (List.mem_of_getElem? (i := 147) rfl))
  have hoC : (Jvm.Cond.arrayOver (.object "EggGarden$Child")).before #[Value.ref b] s = true := hts _ (xw_tab_in 1 _ (List.mem_of_getElem? (i := 149) rfl))
  obtain ⟨pE, cE, kE, e1, -, e2, e3, e4⟩ := Cond.arrayOver_spec hoE
  obtain ⟨pC, cC, kC, f1, -, f2, f3, f4⟩ := Cond.arrayOver_spec hoC
  have hAr : ∀ {cA : ClassId} {kA : Class} {comp : ClassId} {ty : FieldType}, s.vm.classes[cA]? = some kA → kA.kind = .array comp ty → ArrOfT s cA ty := fun {cA kA comp ty} g2 g3 n z => ⟨fun k h => (by cases h), kA, g2, comp, g3⟩
  obtain ⟨adK, adV, hS, hev⟩ := vk_Sof (args := #[Value.ref b]) (s := s) (N := 1) (tm := fun _ => Jvm.Term.string "EggGarden$Tokens" 18) (len := [198]) (byt := zt_sct) (A := fun q => s.heap.size ≤ q)
    (fun i hi => by obtain rfl : i = 0 := by omega
                    decide) (fun i hi => hfl _ (List.mem_of_getElem? (i := 92) (by decide +kernel))) (fun i hi => hfl _ (List.mem_of_getElem? (i := 93) (by decide +kernel))) (fun i hi => hfl _ (List.mem_of_getElem? (i := 94) (by decide +kernel)))
    (fun i hi => by obtain rfl : i = 0 := by omega
                    exact hfl _ (List.mem_of_getElem? (i := 95) (by decide +kernel)))
    (fun i hi j hj => by obtain rfl : i = 0 := by omega
                         exact hfl _ (zt_fl_at j hj))
    (fun i j hi hj hne => absurd (show i = j by omega) hne) hA
  obtain ⟨a2, _, _, _, ev2, -⟩ := Cond.exactly_spec (args := #[Value.ref b]) (first := s) (o := none) (s := s) (idx := []) (t := Jvm.Term.string "EggGarden" 124) (cls := "java/lang/String") (hfl _ (List.mem_of_getElem? (i := 294) (by decide +kernel)))
  obtain ⟨a3, _, _, _, ev3, -⟩ := Cond.exactly_spec (args := #[Value.ref b]) (first := s) (o := none) (s := s) (idx := []) (t := Jvm.Term.string "EggGarden" 144) (cls := "java/lang/String") (hfl _ (List.mem_of_getElem? (i := 311) (by decide +kernel)))
  obtain ⟨aB, evB, hXB, hBl⟩ := zt_arrK (tm := Jvm.Term.static "EggGarden" "BINDING" "[I") (N := 18) (f := fun j => zt_bind.getD j 0) (by decide) (hfl _ (List.mem_of_getElem? (i := 10) (by decide +kernel))) (va_eqt (hfl _ (List.mem_of_getElem? (i := 11) (by decide +kernel)))) (fun j hj => by
    have h : ∀ k, k < 18 → (Jvm.Cond.eq (.elem (Jvm.Term.static "EggGarden" "BINDING" "[I") (.int (Int32.ofNat k))) (.int (zt_bind.getD k 0))) ∈ flatC (Jvm.Cond.and given_1 narrow_1) := by
      intro k hk
      have h : ((flatC (Jvm.Cond.and given_1 narrow_1)).drop 12).take 18 = (List.range 18).map (fun j => Jvm.Cond.eq (.elem (Jvm.Term.static "EggGarden" "BINDING" "[I") (.int (Int32.ofNat j))) (.int (zt_bind.getD j 0))) := by decide +kernel
      have h2 : (Jvm.Cond.eq (.elem (Jvm.Term.static "EggGarden" "BINDING" "[I") (.int (Int32.ofNat k))) (.int (zt_bind.getD k 0))) ∈ ((flatC (Jvm.Cond.and given_1 narrow_1)).drop 12).take 18 := by
        rw [h]
        exact List.mem_map.mpr ⟨k, List.mem_range.mpr hk, rfl⟩
      exact List.mem_of_mem_drop (List.mem_of_mem_take h2)
    exact va_eqt (hfl _ (h j hj)))
  refine ⟨(fun c => (D c).1, fun c => (D c).2), [(cI, .int), (cJ, .long), (cZ, .boolean), (cI, .int), (cE, .object "EggGarden$Egg"), (cC, .object "EggGarden$Child")], fun n => if n = 0 then adK 0 else if n = 2 then aB else if n = 12 then a2 else if n = 13 then a3 else b, adV, rfl, ?_, ?_, ?_⟩
  · refine ⟨⟨_, rfl⟩, ⟨_, rfl⟩, ⟨_, rfl⟩, fun n cj C T N h2 h3 => ?_, fun k q hk hq => ?_⟩
    · match n, h2 with
      | 0, h2 =>
        cases Option.some.inj (show some 1 = some cj from h2)
        cases Option.some.inj (show some (RX1, TX1, 4) = some (C, T, N) from h3)
        exact ⟨_, rfl⟩
      | 1, h2 =>
        cases Option.some.inj (show some 0 = some cj from h2)
        cases Option.some.inj (show some (RX0, TX0, 8) = some (C, T, N) from h3)
        exact ⟨_, rfl⟩
      | n + 2, h2 => exact absurd (show (none : Option Nat) = some cj from h2) (by simp)
    · match k, hk, hq with
      | 4, _, hq => cases Option.some.inj hq; exact ⟨_, rfl⟩
      | 5, _, hq => cases Option.some.inj hq; exact ⟨_, rfl⟩
      | n + 6, _, hq => exact absurd (show (none : Option (ClassId × FieldType)) = some q from hq) (by simp)
  · refine ⟨⟨fun ci q hq => hD ci q hq, fun k q hq => ?_⟩, fun n cj C T N h2 h3 => ?_, zt_nw hts, fun q hq => ?_, ⟨va_Nw.of rfl (hts _ (xw_tab_in 6 _ (List.mem_of_getElem? (i := 183) rfl))), va_Nw.of rfl (hts _ (xw_tab_in 7 _ (List.mem_of_getElem? (i := 17) rfl)))⟩, ⟨va_Nw.of rfl (hts _ (xw_tab_in 6 _ (List.mem_of_getElem? (i := 185) rfl))), va_Nw.of rfl (hts _ (xw_tab_in 6 _ (List.mem_of_getElem? (i := 187) rfl))), va_Nw.of rfl (hts _ (xw_tab_in 6 _ (List.mem_of_getElem? (i := 189) rfl)))⟩, va_Nc.of (hfl _ (List.mem_of_getElem? (i := 45) (by decide +kernel))), va_Nw.of rfl (hts _ (xw_tab_in 3 _ (List.mem_of_getElem? (i := 221) rfl)))⟩
    · match k, hq with
      | 0, hq => cases Option.some.inj hq; exact ⟨hAr i2 i3, i1⟩
      | 1, hq => cases Option.some.inj hq; exact ⟨hAr j2 j3, j1⟩
      | 2, hq => cases Option.some.inj hq; exact ⟨hAr z2 z3, z1⟩
      | 3, hq => cases Option.some.inj hq; exact ⟨hAr i2 i3, i1⟩
      | 4, hq => cases Option.some.inj hq; exact ⟨hAr e2 e3, kE, pE, e2, e3, e1, e4⟩
      | 5, hq => cases Option.some.inj hq; exact ⟨hAr f2 f3, kC, pC, f2, f3, f1, f4⟩
      | n + 6, hq => exact absurd (show (none : Option (ClassId × FieldType)) = some q from hq) (by simp)
    · match n, h2 with
      | 0, h2 =>
        cases Option.some.inj (show some 1 = some cj from h2)
        cases Option.some.inj (show some (RX1, TX1, 4) = some (C, T, N) from h3)
        exact va_AO.of hoE
      | 1, h2 =>
        cases Option.some.inj (show some 0 = some cj from h2)
        cases Option.some.inj (show some (RX0, TX0, 8) = some (C, T, N) from h3)
        exact va_AO.of hoC
      | n + 2, h2 => exact absurd (show (none : Option Nat) = some cj from h2) (by simp)
    · have hq : q ∈ zt_strs := hq
      unfold zt_strs at hq
      rcases List.mem_cons.mp hq with rfl | hq
      · exact vk_R.of (A := #[Value.ref b]) (hts _ (xw_tab_in 2 _ (List.mem_of_getElem? (i := 75) rfl))) (hev 0 (by decide))
      · rcases List.mem_cons.mp hq with rfl | hq
        · exact vk_R.of (A := #[Value.ref b]) (hts _ (xw_tab_in 6 _ (List.mem_of_getElem? (i := 221) rfl))) ev2
        · obtain rfl := List.mem_singleton.mp hq
          exact vk_R.of (A := #[Value.ref b]) (hts _ (xw_tab_in 7 _ (List.mem_of_getElem? (i := 24) rfl))) ev3
  · refine ⟨⟨⟨fun i hi => ?_, fun i j hi hj _ => ?_⟩, va_Zof (hts _ (xw_tab_in 2 _ (List.mem_of_getElem? (i := 85) rfl))) (htb _ (zt_wj_tb _ (List.mem_of_getElem? (i := 0) rfl))) (va_eqi (hfl _ (List.mem_of_getElem? (i := 4) (by decide +kernel)))) hA, va_Zqof (hts _ (xw_tab_in 2 _ (List.mem_of_getElem? (i := 93) rfl))) (htb _ (zt_wj_tb _ (List.mem_of_getElem? (i := 2) rfl))) (hfl _ (List.mem_of_getElem? (i := 5) (by decide +kernel))) hA, vx_Zqof (hts _ (xw_tab_in 6 _ (List.mem_of_getElem? (i := 208) rfl))) (hts _ (xw_tab_in 1 _ (List.mem_of_getElem? (i := 20) rfl))) (hfl _ (List.mem_of_getElem? (i := 30) (by decide +kernel))) hA, vx_Zqof (hts _ (xw_tab_in 6 _ (List.mem_of_getElem? (i := 210) rfl))) (hts _ (xw_tab_in 1 _ (List.mem_of_getElem? (i := 20) rfl))) (hfl _ (List.mem_of_getElem? (i := 31) (by decide +kernel))) hA⟩, fun k hk => ?_, ?_⟩
    · have hi : i < 1 := hi
      obtain rfl : i = 0 := by omega
      exact hS.1 0 (by decide)
    · have hi : i < 1 := hi
      have hj : j < 1 := hj
      omega
    · rcases List.mem_cons.mp (show k ∈ [1, 2] from hk) with rfl | hk
      · exact ⟨hX, hbl, fun q => by have q : s.heap.size ≤ b := q; omega⟩
      · obtain rfl := List.mem_singleton.mp hk
        exact ⟨hXB, hBl, fun q => by have q : s.heap.size ≤ aB := q; omega⟩
    · exact va_Zof (hts _ (xw_tab_in 3 _ (List.mem_of_getElem? (i := 222) rfl))) (hts _ (xw_tab_in 1 _ (List.mem_of_getElem? (i := 1) rfl))) evB hA
