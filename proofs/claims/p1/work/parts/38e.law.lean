theorem zt_gin : GoodIn zt_tb (va_wsS "EggGardenLaw" 39 zt_zh.1 zt_hws) := by
  have hm : ∀ w ∈ va_wsS "EggGardenLaw" 39 zt_zh.1 zt_hws, w ∈ zt_tb := by
    intro w hw
    rcases List.mem_append.mp (show w ∈ [Cond.methodLink "EggGardenLaw" 39 zt_zh.1, Cond.static zt_zh.1, Cond.initialized zt_zh.1.cls] ++ zt_hws from hw) with h | h
    · rcases List.mem_cons.mp h with rfl | h
      · exact zt_wv3_tb _ (List.mem_of_getElem? (i := 5) rfl)
      · rcases List.mem_cons.mp h with rfl | h
        · exact zt_wv3_tb _ (List.mem_of_getElem? (i := 6) rfl)
        · obtain rfl := List.mem_singleton.mp h
          exact zt_wv3_tb _ (List.mem_of_getElem? (i := 4) rfl)
    · rcases List.mem_cons.mp (show w ∈ Cond.codeWith zt_zh.1 method_3_code 5 (some .int) zt_hh :: zt_tb from h) with rfl | h
      · exact zt_wv3_tb _ (List.mem_of_getElem? (i := 7) rfl)
      · exact h
  exact fun w hw => ⟨hm w hw, good_of_word (zt_tb_ok w (hm w hw)).2⟩
set_option maxHeartbeats 4000000 in
/-- THE LAW'S RUN at a call of cell: r is what the helper answers -/
theorem zt_law_cell {p : Program} {e : Env} {s : State} {m : MethodId} {below : List Frame} {meth : Method} {c : Code} (l : Launch) {b L : Nat} {xs : Nat → Int32} (C0 : lw_At p s m meth c b L xs) (hname : meth.name = "law") (vals : List xd_V) (hlen : vals.length = L) (hval : ∀ (j : Nat) (v : xd_V), vals[j]? = some v → xd_g v (.int (xs j))) (p0 p1 : xd_V) (r : Int) (h1 : zt_qa (3, vals.map Sum.inl) p0 p1 = true)
    (hh : ∀ {Dg : va_G} {tys : List (ClassId × FieldType)} {ad adV : Nat → Nat} {M : xv_M xd_V}, xc_tys zt_cl zt_at tys → xf_R 233 (zt_T1 (3, vals.map Sum.inl)) M → xh_C l Dg tys (zt_kx ad adV L xs) 6 r (zt_has p0 p1) M) (h3 : zt_qc (3, vals.map Sum.inl) r = true) :
    W p l e room_1 s m #[Value.ref b] below meth c s.heap [] 0 0 (lw_Z below #[Value.ref b] s) (entryFrame m ([Value.ref b] : List Value).toArray 7) := by
  obtain ⟨Dg, tys, ad, adV, had, hY, hK, hkw⟩ := zt_start C0
  obtain ⟨hx, hb, hr, hml, hown, hts, hX, hbl, hlk, hgv⟩ := C0
  have htb : ∀ w ∈ zt_tb, w.before #[Value.ref b] s = true := fun w hw => hts w (zt_tb_ok w hw).1
  have hfix : xw_fix Dg zt_cl tys zt_at zt_nest (zt_kx ad adV L xs) zt_tb zt_ct zt_ys 6 zt_law zt_zlaw p room_1 s m #[Value.ref b] meth c (fun q => s.heap.size ≤ q) := ⟨hx, hb, hml, hown, ⟨.arrayClass .int, fun w hw => (List.mem_cons.mp hw).elim (fun e => by rw [e]; exact htb _ zt_arr.1) (htb w)⟩, hK, hkw, ⟨by decide, by decide, rfl, rfl⟩, fun q hq => hq, hname, zt_lawbod⟩
  have hkF : xk_F (zt_kx ad adV L xs) [ad 0, b] := ⟨fun n hn => by
    have hn : n < 1 := hn
    obtain rfl : n = 0 := by omega
    rfl, fun k hk => by
    obtain rfl := List.mem_singleton.mp (show k ∈ [1] from hk)
    show some b = some (ad 1)
    rw [had]⟩
  have hc := zt_ctor
  split at hc
  · rename_i q hrun
    simp only [Bool.and_eq_true_iff] at hc
    obtain ⟨⟨⟨⟨⟨c1, c2⟩, c3⟩, c4⟩, c5⟩, c6⟩ := hc
    obtain ⟨L1, S1, ⟨n1, T1⟩, cc, ss⟩ := q
    have e1 : L1 = zt_L1 := xe_L_eq c1
    have e2 : S1 = [] := xe_l_eq xe_V_eq c2
    have e3 : n1 = 233 := Nat.eq_of_beq_eq_true c3
    have e4 : T1 = zt_T1 (7, []) := xe_T_eq c4
    have e5 : cc = 231 := Nat.eq_of_beq_eq_true c5
    have e6 : ss = 6999 := Nat.eq_of_beq_eq_true c6
    rw [e1, e2, e3, e4, e5, e6, zt_fklawS] at hrun
    have hlp := xf_lp_ok (D := xd_D) (fv := xd_fv) (ct := zt_ct) (at_ := zt_at) (sct := zt_sct) (ms := zt_ms) xd_fv_eq (zt_rn_ok 6) (y := zt_law) (stop := 23) zt_wflaw 20000 [] (zt_law.2.2.2.drop 1) (0, .new 8) zt_law0 (by decide)
    rw [← zt_law0] at hlp
    obtain ⟨bb, hb1, hb2⟩ := hlp _ _ _ _ _ _ _ ⟨Nat.zero_le _, Nat.zero_le _⟩ hrun _ zt_T00
    rcases hb2 with ⟨_, _, _, _, k1, _⟩ | ⟨L2, S2, n2, T2, c2, s2, M1, k1, rfl, hR1⟩
    · cases k1
    · cases k1
      rw [lg_entry_eq]
      have hl := lv_entry [Value.ref b] (n := 7) (Nat.le_of_ble_eq_true rfl)
      have hs0 : xr_s xd_g ([ad 0, b] ++ []) [.inr (.inr (some 1))] [Value.ref b] := ⟨.ref b, [], rfl, ⟨b, rfl, rfl⟩, rfl⟩
      refine xs_lp (kx := zt_kx ad adV L xs) (e := e) (below := below) (Q := lw_Z below #[Value.ref b] s) xd_ok zt_all zt_char hY (zt_con hY 6) hfix hkF (fun q hq => by cases hq) (fun q hq => ?_) 20000 0 zt_law.2.2.2 _ _ _ 0 0 hb1 (fun x hx => hx) (Nat.zero_le _) (Nat.zero_le _) [] [] s.heap [] _ [] ⟨[ad 0, b], rfl, rfl, fun k o hk h7 _ => ?_, fun k o hk h3 => ?_⟩ (fun k q hq => by simp at hq) ⟨fun i j q r hq => by simp at hq, fun k q hq => by simp at hq⟩ va_S.rf ⟨rfl, _, hl, fun i v hi => ?_⟩ rfl
      · cases hq
        intro hc1 hc2 t ws H locs ls st hm hP hD0 hS hl hs
        have hm2 := xr_m_know (k := 1) (o := (3, vals.map Sum.inl)) hm rfl ⟨List.mem_singleton.mpr rfl, by show (vals.map Sum.inl).length = L; rw [List.length_map]; exact hlen, fun j v hj => by
          have hj : (vals.map Sum.inl)[j]? = some v := hj
          rw [List.getElem?_map] at hj
          cases hv : vals[j]? with
          | none => rw [hv] at hj; cases hj
          | some a =>
            rw [hv] at hj
            cases Option.some.inj hj
            exact ⟨a, rfl, hval j a hv⟩⟩
        obtain ⟨T', k1, hT⟩ := xf_upd_ok (zt_T0_upd (3, vals.map Sum.inl))
        cases Option.some.inj k1
        have hM1 : M1[1]? = some (7, []) := (hR1.2 1).symm
        have hR2 := hR1.set hM1 hT
        unfold zt_qa at h1
        split at h1
        · rename_i LA SA nA TA cA sA hrunA
          simp only [Bool.and_eq_true_iff] at h1
          obtain ⟨⟨⟨⟨⟨a1, a2⟩, a3⟩, a5⟩, a6⟩, a4⟩ := h1
          have e1 := xe_L_eq a1
          have e2 := xe_l_eq xe_V_eq a2
          have e3 := Nat.eq_of_beq_eq_true a3
          have e5 := Nat.eq_of_beq_eq_true a5
          have e6 := Nat.eq_of_beq_eq_true a6
          have e4 := xe_T_eq a4
          subst e1 e2 e3 e5 e6 e4
          rw [zt_fklawC] at hrunA
          have etA : xf_to (zt_F 370 zt_law).2 23 = ((23, (.iload 4 : Instr)) :: zt_law.2.2.2.drop 14).map (xf_mk xd_D xd_fv zt_ct zt_at zt_sct zt_ms zt_law 370) := by
            show xf_to (zt_law.2.2.2.map (xf_mk xd_D xd_fv zt_ct zt_at zt_sct zt_ms zt_law 370)) 23 = _
            rw [xf_to_map]
            have := xf_to_suf (pre := zt_law.2.2.2.take 13) (q := (23, (.iload 4 : Instr))) (r := zt_law.2.2.2.drop 14) (by rw [← zt_lawq]; exact zt_wflaw)
            rw [← zt_lawq] at this
            rw [this]
          rw [etA] at hrunA
          obtain ⟨bb2, hb3, hb4⟩ := xf_lp_ok (D := xd_D) (fv := xd_fv) (ct := zt_ct) (at_ := zt_at) (sct := zt_sct) (ms := zt_ms) xd_fv_eq (zt_rn_ok 6) (y := zt_law) (stop := 370) zt_wflaw 20000 (zt_law.2.2.2.take 13) (zt_law.2.2.2.drop 14) (23, .iload 4) zt_lawq (by decide) _ _ _ _ _ _ _ ⟨hc1, hc2⟩ hrunA _ hR2
          rcases hb4 with ⟨_, _, _, _, k2, _⟩ | ⟨L3, S3, n3, T3, c3, s3, M3, k2, rfl, hR3⟩
          · cases k2
          · cases k2
            refine xs_lp (kx := zt_kx ad adV L xs) xd_ok zt_all zt_char hY (zt_con hY 6) hfix hkF (fun q hq => by cases hq) (fun q hq => ?_) 20000 23 _ _ _ _ 231 6999 hb3 (fun x hx => by rw [zt_lawq]; exact List.mem_append_right _ hx) hc1 hc2 t ws H locs ls st hm2 hP hD0 hS hl hs
            cases hq
            intro hc1 hc2 t ws H locs ls st hm hP hD0 hS hl hs
            obtain ⟨_, r0, rfl, ⟨qo, hqo, rfl⟩, _, r1, rfl, ⟨n1, rfl, hg1⟩, _, r2, rfl, ⟨n0, rfl, hg0⟩, _, r3, rfl, ⟨qx, hqx, rfl⟩, hrest⟩ := hs
            obtain rfl : r3 = [] := hrest
            have hlsz : ls.size = 7 := by
              obtain ⟨-, lv, hlv, -⟩ := hl
              exact hlv.1
            have hC := hh (Dg := Dg) (tys := tys) (ad := ad) (adV := adV) hY hR3
            unfold xh_C at hC
            have hrunS := vx_runSX (own := "EggGardenLaw") (index := 39) (hh := zt_hh) (bytes := method_3_code) (maxL := 5) (ret := some .int) (mc := 1) (ms := 6) (n := 4) (cc := code) (nL := 7) (R := room_1) (As := [.ref qx, .int n0, .int n1, .ref qo]) (rest := []) (locs := locs) (cells := 231) (slots := 6999) (below := below) (e := e) (p := p) (meth := meth) (g := F0 m 370 ls (.ref qo :: .int n1 :: .int n0 :: .ref qx :: []))
              ⟨hx, hb, hml, hown, htb⟩ (hC _ _ [.ref qx, .int n0, .int n1, .ref qo] H.size hm ⟨_, _, rfl, ⟨qx, hqx, rfl⟩, _, _, rfl, ⟨n0, rfl, hg0⟩, _, _, rfl, ⟨n1, rfl, hg1⟩, _, _, rfl, ⟨qo, hqo, rfl⟩, rfl⟩ hkF.mono)
              (vx_cwSW (hh := zt_hh) 4 htb zt_gin rfl rfl rfl (by decide +kernel) ⟨by decide, by decide⟩)
              ⟨xm_blind, xm_pre hK hkw hP hD0 hS (fun q hq => hq)⟩ rfl rfl hlsz rfl (show 2 * 0 + 0 ≤ 8 by decide) zt_d370 ⟨by decide, by decide⟩
            have hAA : ∀ q, va_A ws H.size q → s.heap.size ≤ q := fun q hq => by
              rcases hq with ⟨k, E9, hk⟩ | hq
              · exact hD0.2 k _ hk
              · exact Nat.le_trans hS.1 hq
            intro T hT9 X
            rcases hrunS T hT9 X with ⟨v, st₀, t', T', Lc, h0, X', hL, e1, e2, ⟨⟨v', ts, ws', hv, q1, q2, q3, q4⟩, hF⟩, st9⟩ | ⟨_, _, _, _, _, _, _, _, _, _, _, _, hfalse, _⟩
            · cases hv
              obtain ⟨z9, rfl, hz9⟩ := q1
              obtain ⟨k1, k2, k3⟩ := vx_keep h0 e1 hS (fun q _ hq => hAA q hq) hAA hL hF
              unfold zt_qc at h3
              split at h3
              · rename_i zz nn TT hrun2
                have ez := xd_eqx_eq h3
                subst ez
                rw [zt_fklaw] at hrun2
                have etB : xf_to (zt_F 100000 zt_law).2 373 = ((373, (.istore 5 : Instr)) :: zt_law.2.2.2.drop 147).map (xf_mk xd_D xd_fv zt_ct zt_at zt_sct zt_ms zt_law 100000) := by
                  show xf_to (zt_law.2.2.2.map (xf_mk xd_D xd_fv zt_ct zt_at zt_sct zt_ms zt_law 100000)) 373 = _
                  rw [xf_to_map]
                  have := xf_to_suf (pre := zt_law.2.2.2.take 146) (q := (373, (.istore 5 : Instr))) (r := zt_law.2.2.2.drop 147) (by rw [← zt_lawq3]; exact zt_wflaw)
                  rw [← zt_lawq3] at this
                  rw [this]
                rw [etB] at hrun2
                obtain ⟨bb3, hb5, hb6⟩ := xf_lp_ok (D := xd_D) (fv := xd_fv) (ct := zt_ct) (at_ := zt_at) (sct := zt_sct) (ms := zt_ms) xd_fv_eq (zt_rn_ok 6) (y := zt_law) (stop := 100000) zt_wflaw 20000 (zt_law.2.2.2.take 146) (zt_law.2.2.2.drop 147) (373, .istore 5) zt_lawq3 (by decide) _ _ _ _ _ _ _ ⟨by decide, by decide⟩ hrun2 _ hR3
                rcases hb6 with ⟨v1, n1, T1, M2, k2, rfl, hR5⟩ | ⟨_, _, _, _, _, _, _, k2, _⟩
                · cases Sum.inl.inj k2
                  have hgo : W p l e room_1 s m #[Value.ref b] below meth c T'.heap (locs ++ Lc) 232 7005 (lw_Z below #[Value.ref b] s) (F0 m 373 ls [z9]) := by
                    refine xs_lp (kx := zt_kx ad adV L xs) xd_ok zt_all zt_char hY (zt_con hY 6) hfix hkF (fun q hq i pc L S cells slots k3 k4 => ?_) (fun q hq => by cases hq) 20000 373 _ _ _ _ 232 7005 hb5 (fun x hx => by rw [zt_lawq3]; exact List.mem_append_right _ hx) (by decide) (by decide) (t ++ ts) ws' T'.heap (locs ++ Lc) ls [z9] (by rw [← List.append_assoc]; exact q2) (by rw [e1]; exact q3) (q4.weaken (fun _ _ _ z => hAA _ z)) k3 (by rw [← List.append_assoc]; exact xr_l_mono hl) ⟨_, _, rfl, by rw [← List.append_assoc]; exact hz9, rfl⟩
                    cases hq
                    intro hc1 hc2 t ws H locs ls st hm hP hD0 hS hl hs
                    obtain ⟨rfl, rfl⟩ := zt_end k3
                    obtain ⟨x9, r9, rfl, ⟨n9, rfl, hg9⟩, rfl⟩ := hs
                    have hg9 : n9.toInt = 1 := hg9
                    have e9 : n9 = 1 := Int32.toInt_inj.mp (by rw [hg9]; rfl)
                    subst e9
                    exact va_forget (fun q hq => hS.2.2 q hq) (W.widen hc1 hc2 (lw_ret hx hb hr hlk k4))
                  obtain ⟨t2, g1, g2⟩ := hgo T' rfl X'
                  exact ⟨t2, st9 t2 g1, g2⟩
                · cases k2
              · cases h3
            · exact hfalse.elim
        · cases h1
      · match k, hk with
        | 0, hk => cases Option.some.inj (show some ((7, []) : xv_O xd_V) = some o from hk); exact absurd rfl h7
        | 1, hk => cases Option.some.inj (show some ((7, []) : xv_O xd_V) = some o from hk); exact absurd rfl h7
        | n + 2, hk => simp at hk
      · match k, hk with
        | 0, hk => cases Option.some.inj (show some ((7, []) : xv_O xd_V) = some o from hk); cases h3
        | 1, hk => cases Option.some.inj (show some ((7, []) : xv_O xd_V) = some o from hk); cases h3
        | n + 2, hk => simp at hk
      · obtain ⟨x, hx1, hx2⟩ := xv_in_at 0 7 i hs0 hi
        exact ⟨x, by rw [Nat.zero_add] at hx1; exact hx1, hx2⟩
  · cases hc
