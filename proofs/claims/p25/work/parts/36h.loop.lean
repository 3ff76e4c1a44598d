theorem zt_gin : GoodIn zt_tb (va_wsS "EggGardenLaw" 39 zt_zh.1 zt_hws) := by
  have hm : ∀ w ∈ va_wsS "EggGardenLaw" 39 zt_zh.1 zt_hws, w ∈ zt_tb := by
    intro w hw
    rcases List.mem_append.mp (show w ∈ [Cond.methodLink "EggGardenLaw" 39 zt_zh.1, Cond.static zt_zh.1, Cond.initialized zt_zh.1.cls] ++ zt_hws from hw) with h | h
    · rcases List.mem_cons.mp h with rfl | h
      · exact zt_wv3_tb _ (List.mem_of_getElem? (i := 5) rfl)
      · rcases List.mem_cons.mp h with rfl | h
        · exact zt_wv3_tb _ (List.mem_of_getElem? (i := 6) rfl)
        · obtain rfl := List.mem_singleton.mp h
          exact zt_wv3_tb _ (List.mem_of_getElem? (i := 4) rfl)
    · rcases List.mem_cons.mp (show w ∈ Cond.codeWith zt_zh.1 method_3_code 5 (some .int) zt_hh :: zt_tb from h) with rfl | h
      · exact zt_wv3_tb _ (List.mem_of_getElem? (i := 7) rfl)
      · exact h
  exact fun w hw => ⟨hm w hw, good_of_word (zt_tb_ok w (hm w hw)).2⟩
theorem zt_d370 : decode code 370 = .ok (.invokestatic 39, 3) := by decide +kernel
theorem zt_dpop : ∀ pc ∈ [529, 552], decode code pc = .ok (.pop2, 1) := by decide +kernel
theorem zt_okl (i : Int) : zu_okL zt_kd [(3, 1), (5, 3), (40, 190), (53, 233), (0, i), (2, 0), (2, 0)] := by
  intro w hw k hk
  rcases List.mem_cons.mp hw with rfl | hw
  · cases Nat.add_right_cancel (show 0 + 3 = k + 3 from hk); exact ⟨by decide, rfl⟩
  rcases List.mem_cons.mp hw with rfl | hw
  · cases Nat.add_right_cancel (show 2 + 3 = k + 3 from hk); exact ⟨by decide, rfl⟩
  rcases List.mem_cons.mp hw with rfl | hw
  · cases Nat.add_right_cancel (show 37 + 3 = k + 3 from hk); exact ⟨by decide, rfl⟩
  rcases List.mem_cons.mp hw with rfl | hw
  · cases Nat.add_right_cancel (show 50 + 3 = k + 3 from hk); exact ⟨by decide, rfl⟩
  rcases List.mem_cons.mp hw with rfl | hw
  · exact absurd (show 0 = k + 3 from hk) (by omega)
  rcases List.mem_cons.mp hw with rfl | hw
  · exact absurd (show 2 = k + 3 from hk) (by omega)
  obtain rfl := List.mem_singleton.mp hw
  exact absurd (show 2 = k + 3 from hk) (by omega)
section ZTW
variable {p : Program} {l : Launch} {e : Env} {s : State} {m : MethodId} {below : List Frame} {meth : Method} {c : Code} {b L : Nat} {xs : Nat → Int32} {Dg : va_G} {tys : List (ClassId × FieldType)} {ad adV : Nat → Nat}
theorem zt_forg {cells slots : Nat} {i r v : Int} {σ : zu_m} (h : zt_K p l e s m below meth c b L xs Dg tys ad adV cells slots 1454 [(3, 1), (5, 3), (40, 190), (53, 233), (0, i), (2, 0), (2, 0)] [] σ) : zt_K p l e s m below meth c b L xs Dg tys ad adV cells slots 1454 [(3, 1), (5, 3), (40, 190), (53, 233), (0, i), (0, r), (0, v)] [] σ := fun hL hS hc1 hc2 t ws H locs ls st hm hP hD hS' hl hs => h (zt_okl i) hS hc1 hc2 t ws H locs ls st hm hP hD hS' (by
  obtain ⟨g1, lv, g2, g3⟩ := hl
  refine ⟨rfl, lv, g2, fun j v hj => ?_⟩
  match j, hj with
  | 0, hj => cases Option.some.inj (Option.some.inj (show some (some (.inr (.inr (some 1)))) = some (some v) from hj)); exact g3 0 (.inr (.inr (some 1))) rfl
  | 1, hj => cases Option.some.inj (Option.some.inj (show some (some (.inr (.inr (some 3)))) = some (some v) from hj)); exact g3 1 (.inr (.inr (some 3))) rfl
  | 2, hj => cases Option.some.inj (Option.some.inj (show some (some (.inr (.inr (some 190)))) = some (some v) from hj)); exact g3 2 (.inr (.inr (some 190))) rfl
  | 3, hj => cases Option.some.inj (Option.some.inj (show some (some (.inr (.inr (some 233)))) = some (some v) from hj)); exact g3 3 (.inr (.inr (some 233))) rfl
  | 4, hj => cases Option.some.inj (Option.some.inj (show some (some (.inl i)) = some (some v) from hj)); exact g3 4 (.inl i) rfl
  | 5, hj => cases Option.some.inj (show some none = some (some v) from hj)
  | 6, hj => cases Option.some.inj (show some none = some (some v) from hj)
  | n + 7, hj => simp at hj) hs
theorem zt_pop2 (C0 : lw_At p s m meth c b L xs) {cells slots pc : Nat} {i v : Int} {σ : zu_m} (hpc : pc ∈ [529, 552]) (h : zt_K p l e s m below meth c b L xs Dg tys ad adV cells slots (pc + 1) [(3, 1), (5, 3), (40, 190), (53, 233), (0, i), (2, 0), (2, 0)] [] σ) : zt_K p l e s m below meth c b L xs Dg tys ad adV cells slots pc [(3, 1), (5, 3), (40, 190), (53, 233), (0, i), (2, 0), (2, 0)] [(1, v)] σ := fun hL hS hc1 hc2 t ws H locs ls st hm hP hD hS' hl hs => by
  obtain ⟨hx, hb, hr, hml, hown, hts, hX, hbl, hlk, hgv⟩ := C0
  have hs : xr_s zc_g ([ad 0, b, ad 2] ++ t) [.inr (.inl v)] st := hs
  obtain ⟨x, r0, rfl, ⟨n0, rfl, hg0⟩, hrest⟩ := hs
  obtain rfl : r0 = [] := hrest
  exact lv_pop2_2 hx hb (zt_dpop pc hpc) rfl (h hL (fun w hw => by simp at hw) hc1 hc2 t ws H locs ls [] hm hP hD hS' hl rfl)
set_option maxRecDepth 100000 in
set_option maxHeartbeats 4000000 in
/-- the call of the helper -/
theorem zt_c370 (C0 : lw_At p s m meth c b L xs) (hname : meth.name = "law") (had : ad 1 = b) (hY : xc_tys zt_cl zt_at tys) (hK : xm_K Dg zt_cl tys zt_at zt_nest (zt_kx ad adV L xs) s) (hkw : xk_W (zt_kx ad adV L xs) (fun q => s.heap.size ≤ q) s s.heap) {cells slots : Nat} (hcap : cells + 1 ≤ 601024 ∧ slots + 6 ≤ 7293034) {i p0 p1 r : Int} {σ σ' : zu_m} (hC : zh_C l Dg tys ad adV L xs 6 r p0 p1 σ σ')
    (hnext : zt_K p l e s m below meth c b L xs Dg tys ad adV (cells + 1) (slots + 6) 373 [(3, 1), (5, 3), (40, 190), (53, 233), (0, i), (2, 0), (2, 0)] [(0, r)] σ') : zt_K p l e s m below meth c b L xs Dg tys ad adV cells slots 370 [(3, 1), (5, 3), (40, 190), (53, 233), (0, i), (2, 0), (2, 0)] [(53, 233), (0, p1), (0, p0), (5, 3)] σ := by
  have hkF := zt_hkF (adV := adV) (L := L) (xs := xs) had
  obtain ⟨hx, hb, hr, hml, hown, hts, hX, hbl, hlk, hgv⟩ := C0
  have htb : ∀ w ∈ zt_tb, w.before #[Value.ref b] s = true := fun w hw => hts w (zt_tb_ok w hw).1
  intro hoL hoS hc1 hc2 t ws H locs ls st hm hP hD0 hS hl hs
  have hs : xr_s zc_g ([ad 0, b, ad 2] ++ t) [.inr (.inr (some 233)), .inl p1, .inl p0, .inr (.inr (some 3))] st := hs
  obtain ⟨_, r0, rfl, ⟨qo, hqo, rfl⟩, _, r1, rfl, ⟨n1, rfl, hg1⟩, _, r2, rfl, ⟨n0, rfl, hg0⟩, _, r3, rfl, ⟨qx, hqx, rfl⟩, hrest⟩ := hs
  obtain rfl : r3 = [] := hrest
  have hlsz : ls.size = 7 := by
    obtain ⟨-, lv, hlv, -⟩ := hl
    exact hlv.1
  unfold zh_C at hC
  have hrunS := vx_runSX (own := "EggGardenLaw") (index := 39) (hh := zt_hh) (bytes := method_3_code) (maxL := 5) (ret := some .int) (mc := 1) (ms := 6) (n := 4) (cc := code) (nL := 7) (R := room_1) (As := [.ref qx, .int n0, .int n1, .ref qo]) (rest := []) (locs := locs) (cells := cells) (slots := slots) (below := below) (e := e) (p := p) (meth := meth) (g := F0 m 370 ls (.ref qo :: .int n1 :: .int n0 :: .ref qx :: []))
    ⟨hx, hb, hml, hown, htb⟩ (hC _ _ [.ref qx, .int n0, .int n1, .ref qo] H.size hm ⟨_, _, rfl, ⟨qx, hqx, rfl⟩, _, _, rfl, ⟨n0, rfl, hg0⟩, _, _, rfl, ⟨n1, rfl, hg1⟩, _, _, rfl, ⟨qo, hqo, rfl⟩, rfl⟩ hkF.mono)
    (vx_cwSW (hh := zt_hh) 4 htb zt_gin rfl rfl rfl (by decide +kernel) ⟨by decide, by decide⟩)
    ⟨xm_blind, xm_pre hK hkw hP hD0 hS (fun q hq => hq)⟩ rfl rfl hlsz rfl (show 2 * 0 + 0 ≤ 8 by decide) zt_d370 hcap
  have hAA : ∀ q, va_A ws H.size q → s.heap.size ≤ q := fun q hq => by
    rcases hq with ⟨k, E9, hk⟩ | hq
    · exact hD0.2 k _ hk
    · exact Nat.le_trans hS.1 hq
  intro T hT9 X
  rcases hrunS T hT9 X with ⟨v, st₀, t', T', Lc, h0, X', hL, e1, e2, ⟨⟨v', ts, ws', hv, q1, q2, q3, q4⟩, hF⟩, st9⟩ | ⟨_, _, _, _, _, _, _, _, _, _, _, _, hfalse, _⟩
  · cases hv
    obtain ⟨z9, rfl, hz9⟩ := q1
    obtain ⟨k1, k2, k3⟩ := vx_keep h0 e1 hS (fun q _ hq => hAA q hq) hAA hL hF
    have m3 := q2
    dsimp only at m3
    rw [List.append_assoc] at m3
    have hl3 := xr_l_mono (t := ts) hl
    rw [List.append_assoc] at hl3
    have hz3 := hz9
    rw [List.append_assoc] at hz3
    obtain ⟨t2, g1, g2⟩ := hnext hoL (fun w hw => by
      obtain rfl := List.mem_singleton.mp hw
      exact ⟨fun k hk => absurd (show 0 = k + 3 from hk) (by omega), (show (0 : Nat) ≠ 2 by decide)⟩) hcap.1 hcap.2 (t ++ ts) ws' T'.heap (locs ++ Lc) ls [z9] m3 (by rw [e1]; exact q3) (q4.weaken (fun _ _ _ z => hAA _ z)) k3 hl3 ⟨_, _, rfl, hz3, rfl⟩ T' rfl X'
    exact ⟨t2, st9 t2 g1, g2⟩
  · exact hfalse.elim
theorem zt_w370 (C0 : lw_At p s m meth c b L xs) (hname : meth.name = "law") (had : ad 1 = b) (hY : xc_tys zt_cl zt_at tys) (hK : xm_K Dg zt_cl tys zt_at zt_nest (zt_kx ad adV L xs) s) (hkw : xk_W (zt_kx ad adV L xs) (fun q => s.heap.size ≤ q) s s.heap) (hlt : l.stackTraces = false) {cells slots : Nat} (hcap : cells + 1 ≤ 601024 ∧ slots + 6 ≤ 7293034) {i p0 p1 : Int} {σ : zu_m} (hN : zt_INV σ)
    (hnext : ∀ (r : Int) (σ' : zu_m), zt_INV σ' → zt_K p l e s m below meth c b L xs Dg tys ad adV (cells + 1) (slots + 6) 373 [(3, 1), (5, 3), (40, 190), (53, 233), (0, i), (2, 0), (2, 0)] [(0, r)] σ') : zt_K p l e s m below meth c b L xs Dg tys ad adV cells slots 370 [(3, 1), (5, 3), (40, 190), (53, 233), (0, i), (2, 0), (2, 0)] [(53, 233), (0, p1), (0, p0), (5, 3)] σ := by
  by_cases h0 : p0 < 0 ∨ σ 50 2 ≤ p0
  · exact zt_c370 C0 hname had hY hK hkw hcap (zh_helpX hY (d := 4) (E := xk_x1) (hpc := 13) (fun hm hs hkF => zh_cell hY (d := 4) (stop := 11) (zh_rA h0) (xh_throw1 hlt) hm hs hkF) xh_catch1 ⟨zt_dhx.1, ⟨1, zt_dhx.2.1, by decide⟩, zt_dhx.2.2.1⟩) (hnext 1 σ hN)
  by_cases h1 : p1 < 0 ∨ 3 < p1
  · exact zt_c370 C0 hname had hY hK hkw hcap (zh_helpX hY (d := 4) (E := xk_x2) (hpc := 17) (fun hm hs hkF => zh_cell hY (d := 4) (stop := 98) (zh_rB (by omega) (by omega) h1) (xh_throw2 hlt) hm hs hkF) xh_catch2 ⟨zt_dhx.2.2.2.1, ⟨2, zt_dhx.2.2.2.2.1, by decide⟩, zt_dhx.2.2.2.2.2⟩) (hnext 2 σ hN)
  · obtain ⟨v, σ2, hr, hN'⟩ := zh_norm (L := L) (p0 := p0) (p1 := p1) hN (by omega) (by omega) ⟨by omega, by omega⟩
    exact zt_c370 C0 hname had hY hK hkw hcap (zh_help0 hY hr) (hnext 0 _ hN')
set_option maxHeartbeats 4000000 in
/-- THE LOOP -/
theorem zt_loop (C0 : lw_At p s m meth c b L xs) (hname : meth.name = "law") (had : ad 1 = b) (hY : xc_tys zt_cl zt_at tys) (hK : xm_K Dg zt_cl tys zt_at zt_nest (zt_kx ad adV L xs) s) (hkw : xk_W (zt_kx ad adV L xs) (fun q => s.heap.size ≤ q) s s.heap) (hlt : l.stackTraces = false) (hn : L ≤ 3072) : ∀ (k : Nat) (i : Int) (cells slots : Nat) (m' : zu_m), 0 ≤ i → i ≤ (L : Int) → (L : Int) - i < (k : Int) → (cells : Int) ≤ 231 + i → (slots : Int) ≤ 6999 + i → zt_INV m' → zt_K p l e s m below meth c b L xs Dg tys ad adV cells slots 23 [(3, 1), (5, 3), (40, 190), (53, 233), (0, i), (2, 0), (2, 0)] [] m' := by
  intro k
  induction k with
  | zero => intro i cells slots m' h0 hiL hk; exfalso; omega
  | succ k ih =>
    intro i cells slots m' h0 hiL hk hcs hss hN
    refine zt_hstep C0 hname had hY hK hkw [23, 40, 208, 281, 306, 331, 356, 370, 396, 433, 470, 507, 529, 552, 556, 605, 618, 655, 680, 705, 730, 755, 792, 865, 902, 939, 964, 977, 1002, 1028, 1041, 1078, 1103, 1128, 1205, 1230, 1255, 1280, 1341, 1390, 1403, 1416, 1429, 1454] 400 23 _ _ _ ?_
    refine zw_eq (zlr_23 L _ _ i m') ?_
    rw [Nat.ble_eq_true_of_le (show L ≤ 4096 by omega), cond_true]
    have w := zu_w32_id (z := (L : Int) - 6) (by omega) (by omega)
    refine zw_ite (fun h1 => zw_b (Or.inr rfl) (zw_some rfl)) (fun h1 => ?_)
    have hi1 : i ≤ (L : Int) - 6 := by omega
    have w6 := zu_w32_id (z := i + 6) (by omega) (by omega)
    have hst : zt_HS L (zt_K p l e s m below meth c b L xs Dg tys ad adV) := fun cells slots stops q pc Lz Sz σ h => zt_hstep C0 hname had hY hK hkw stops q pc Lz Sz σ h
    have hp2 : ∀ (cells slots pc : Nat) (i v : Int) (m' : zu_m), pc ∈ [529, 552] → zt_K p l e s m below meth c b L xs Dg tys ad adV cells slots (pc + 1) [(3, 1), (5, 3), (40, 190), (53, 233), (0, i), (2, 0), (2, 0)] [] m' → zt_K p l e s m below meth c b L xs Dg tys ad adV cells slots pc [(3, 1), (5, 3), (40, 190), (53, 233), (0, i), (2, 0), (2, 0)] [(1, v)] m' := fun cells slots pc i v m' hpc h => zt_pop2 C0 hpc h
    have j1 : ∀ {c' s' : Nat}, (c' : Int) ≤ 231 + (i + 6) → (s' : Int) ≤ 6999 + (i + 6) → ∀ m', zt_INV m' → zt_K p l e s m below meth c b L xs Dg tys ad adV c' s' 1454 [(3, 1), (5, 3), (40, 190), (53, 233), (0, i), (2, 0), (2, 0)] [] m' := fun hc' hs' m' hN' => zt_hstep C0 hname had hY hK hkw [23, 40, 208, 281, 306, 331, 356, 370, 396, 433, 470, 507, 529, 552, 556, 605, 618, 655, 680, 705, 730, 755, 792, 865, 902, 939, 964, 977, 1002, 1028, 1041, 1078, 1103, 1128, 1205, 1230, 1255, 1280, 1341, 1390, 1403, 1416, 1429, 1454] 400 1454 _ _ _ (zw_eq (zlr_1454 L _ _ i m') (zw_kex (ih _ _ _ _ (by omega) (by omega) (by omega) (by omega) (by omega) hN')))
    refine zw_if ⟨by omega, by omega⟩ (zw_kex ?_)
    refine zt_hstep C0 hname had hY hK hkw [23, 40, 208, 281, 306, 331, 356, 370, 396, 433, 470, 507, 529, 552, 556, 605, 618, 655, 680, 705, 730, 755, 792, 865, 902, 939, 964, 977, 1002, 1028, 1041, 1078, 1103, 1128, 1205, 1230, 1255, 1280, 1341, 1390, 1403, 1416, 1429, 1454] 400 40 _ _ _ ?_
    refine zw_eq (zlr_40 L _ _ i _ m') ?_
    refine zw_ite (fun _ => zw_kex (zlw_208 hst hp2 hN h0 hi1 hn (j1 (by omega) (by omega)))) (fun _ => ?_)
    refine zw_ite (fun _ => zw_kex (zlw_281 hst hp2 hN h0 hi1 hn (j1 (by omega) (by omega)))) (fun _ => ?_)
    refine zw_ite (fun _ => zw_kex (zlw_306 hst hp2 hN h0 hi1 hn (j1 (by omega) (by omega)))) (fun _ => ?_)
    refine zw_ite (fun _ => zw_kex (zlw_331 hst hp2 hN h0 hi1 hn (j1 (by omega) (by omega)))) (fun _ => ?_)
    refine zw_ite (fun _ => zw_kex ?_) (fun _ => ?_)
    · refine zt_hstep C0 hname had hY hK hkw [23, 40, 208, 281, 306, 331, 356, 370, 396, 433, 470, 507, 529, 552, 556, 605, 618, 655, 680, 705, 730, 755, 792, 865, 902, 939, 964, 977, 1002, 1028, 1041, 1078, 1103, 1128, 1205, 1230, 1255, 1280, 1341, 1390, 1403, 1416, 1429, 1454] 400 356 _ _ _ ?_
      refine zw_eq (zlr_356 L _ _ i m') ?_
      have w1 := zu_w32_id (z := i + 1) (by omega) (by omega)
      have w2 := zu_w32_id (z := i + 2) (by omega) (by omega)
      refine zw_if ⟨by omega, by omega⟩ ?_
      refine zw_if ⟨by omega, by omega⟩ ?_
      exact zw_kex (zt_w370 C0 hname had hY hK hkw hlt ⟨by omega, by omega⟩ hN (fun r σ' hN' => zlw_373 hst hp2 hN' h0 hi1 hn (j1 (by omega) (by omega)) (fun r v m h => zt_forg h)))
    refine zw_ite (fun _ => zw_kex (zlw_396 hst hp2 hN h0 hi1 hn (j1 (by omega) (by omega)))) (fun _ => ?_)
    refine zw_ite (fun _ => zw_kex (zlw_433 hst hp2 hN h0 hi1 hn (j1 (by omega) (by omega)))) (fun _ => ?_)
    refine zw_ite (fun _ => zw_kex (zlw_470 hst hp2 hN h0 hi1 hn (j1 (by omega) (by omega)))) (fun _ => ?_)
    refine zw_ite (fun _ => zw_kex (zlw_507 hst hp2 hN h0 hi1 hn (j1 (by omega) (by omega)))) (fun _ => ?_)
    refine zw_ite (fun _ => zw_kex (zlw_556 hst hp2 hN h0 hi1 hn (j1 (by omega) (by omega)))) (fun _ => ?_)
    refine zw_ite (fun _ => zw_kex (zlw_605 hst hp2 hN h0 hi1 hn (j1 (by omega) (by omega)))) (fun _ => ?_)
    refine zw_ite (fun _ => zw_kex (zlw_618 hst hp2 hN h0 hi1 hn (j1 (by omega) (by omega)))) (fun _ => ?_)
    refine zw_ite (fun _ => zw_kex (zlw_655 hst hp2 hN h0 hi1 hn (j1 (by omega) (by omega)))) (fun _ => ?_)
    refine zw_ite (fun _ => zw_kex (zlw_680 hst hp2 hN h0 hi1 hn (j1 (by omega) (by omega)))) (fun _ => ?_)
    refine zw_ite (fun _ => zw_kex (zlw_705 hst hp2 hN h0 hi1 hn (j1 (by omega) (by omega)))) (fun _ => ?_)
    refine zw_ite (fun _ => zw_kex (zlw_730 hst hp2 hN h0 hi1 hn (j1 (by omega) (by omega)))) (fun _ => ?_)
    refine zw_ite (fun _ => zw_kex (zlw_755 hst hp2 hN h0 hi1 hn (j1 (by omega) (by omega)))) (fun _ => ?_)
    refine zw_ite (fun _ => zw_kex (zlw_792 hst hp2 hN h0 hi1 hn (j1 (by omega) (by omega)))) (fun _ => ?_)
    refine zw_ite (fun _ => zw_kex (zlw_865 hst hp2 hN h0 hi1 hn (j1 (by omega) (by omega)))) (fun _ => ?_)
    refine zw_ite (fun _ => zw_kex (zlw_902 hst hp2 hN h0 hi1 hn (j1 (by omega) (by omega)))) (fun _ => ?_)
    refine zw_ite (fun _ => zw_kex (zlw_939 hst hp2 hN h0 hi1 hn (j1 (by omega) (by omega)))) (fun _ => ?_)
    refine zw_ite (fun _ => zw_kex (zlw_964 hst hp2 hN h0 hi1 hn (j1 (by omega) (by omega)))) (fun _ => ?_)
    refine zw_ite (fun _ => zw_kex (zlw_977 hst hp2 hN h0 hi1 hn (j1 (by omega) (by omega)))) (fun _ => ?_)
    refine zw_ite (fun _ => zw_kex (zlw_1002 hst hp2 hN h0 hi1 hn (j1 (by omega) (by omega)))) (fun _ => ?_)
    refine zw_ite (fun _ => zw_kex (zlw_1028 hst hp2 hN h0 hi1 hn (j1 (by omega) (by omega)))) (fun _ => ?_)
    refine zw_ite (fun _ => zw_kex (zlw_1041 hst hp2 hN h0 hi1 hn (j1 (by omega) (by omega)))) (fun _ => ?_)
    refine zw_ite (fun _ => zw_kex (zlw_1078 hst hp2 hN h0 hi1 hn (j1 (by omega) (by omega)))) (fun _ => ?_)
    refine zw_ite (fun _ => zw_kex (zlw_1103 hst hp2 hN h0 hi1 hn (j1 (by omega) (by omega)))) (fun _ => ?_)
    refine zw_ite (fun _ => zw_kex (zlw_1128 hst hp2 hN h0 hi1 hn (j1 (by omega) (by omega)))) (fun _ => ?_)
    refine zw_ite (fun _ => zw_kex (zlw_1205 hst hp2 hN h0 hi1 hn (j1 (by omega) (by omega)))) (fun _ => ?_)
    refine zw_ite (fun _ => zw_kex (zlw_1230 hst hp2 hN h0 hi1 hn (j1 (by omega) (by omega)))) (fun _ => ?_)
    refine zw_ite (fun _ => zw_kex (zlw_1255 hst hp2 hN h0 hi1 hn (j1 (by omega) (by omega)))) (fun _ => ?_)
    refine zw_ite (fun _ => zw_kex (zlw_1280 hst hp2 hN h0 hi1 hn (j1 (by omega) (by omega)))) (fun _ => ?_)
    refine zw_ite (fun _ => zw_kex (zlw_1341 hst hp2 hN h0 hi1 hn (j1 (by omega) (by omega)))) (fun _ => ?_)
    refine zw_ite (fun _ => zw_kex (zlw_1390 hst hp2 hN h0 hi1 hn (j1 (by omega) (by omega)))) (fun _ => ?_)
    refine zw_ite (fun _ => zw_kex (zlw_1403 hst hp2 hN h0 hi1 hn (j1 (by omega) (by omega)))) (fun _ => ?_)
    refine zw_ite (fun _ => zw_kex (zlw_1416 hst hp2 hN h0 hi1 hn (j1 (by omega) (by omega)))) (fun _ => ?_)
    refine zw_ite (fun _ => zw_kex (zlw_1429 hst hp2 hN h0 hi1 hn (j1 (by omega) (by omega)))) (fun _ => ?_)
    exact zw_kex (j1 (by omega) (by omega) _ hN)
end ZTW
