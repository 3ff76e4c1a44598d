theorem zt_rn0_ok : ∀ (d j : Nat) (as : List (xv_V xd_V)) (n : Nat) (T : xf_T xd_V) (v : Option (xv_V xd_V)) (n' : Nat) (T' : xf_T xd_V), zt_rn0 d j as n T = some (v, n', T') → ∀ M, xf_R n T M → ∃ M', xv_rn xd_D zt_ct zt_at zt_sct zt_ms (fun _ _ _ _ => none) 20000 d j as M = some (v, M') ∧ xf_R n' T' M' :=
  xf_rn_ok xd_fv_eq zt_hfs (fun _ _ _ _ _ _ _ _ h => by cases h) (fun _ _ _ _ _ _ _ _ => rfl) 20000
theorem zt_rn_ok : ∀ (d j : Nat) (as : List (xv_V xd_V)) (n : Nat) (T : xf_T xd_V) (v : Option (xv_V xd_V)) (n' : Nat) (T' : xf_T xd_V), zt_rn d j as n T = some (v, n', T') → ∀ M, xf_R n T M → ∃ M', xv_rn xd_D zt_ct zt_at zt_sct zt_ms zt_ext 20000 d j as M = some (v, M') ∧ xf_R n' T' M' := by
  refine xf_rn_ok xd_fv_eq zt_hfs (fun d j as n T v n' T' h M hR => ?_) (fun d j as n T h M hR => ?_) 20000
  · cases d with
    | zero => cases h
    | succ d =>
      simp only [zt_fext] at h
      simp only [zt_ext]
      cases c1 : (Nat.beq j 87 && zt_int as) <;> simp only [c1, cond_true, cond_false] at h ⊢
      · cases c2 : (Nat.beq j 108 && zt_int as) <;> simp only [c2, cond_true, cond_false] at h ⊢
        · cases h
        · exact xl_fx_ok h hR
      · exact xl_fx_ok h hR
  · cases d with
    | zero => rfl
    | succ d =>
      simp only [zt_fext] at h
      simp only [zt_ext]
      cases c1 : (Nat.beq j 87 && zt_int as) <;> simp only [c1, cond_true, cond_false] at h ⊢
      · cases c2 : (Nat.beq j 108 && zt_int as) <;> simp only [c2, cond_true, cond_false] at h ⊢
        exact xl_fx_none h hR
      · exact xl_fx_none h hR
section ZT1
variable {l : Launch} {Dg : va_G} {tys : List (ClassId × FieldType)} {ad adV : Nat → Nat} {L : Nat} {xs : Nat → Int32}
theorem zt_char : xk_Ch l zt_tb xq_cCA (zt_kx ad adV L xs) := xq_char (fun w hw => (zt_tb_ok w hw).2) zt_wj_tb (by
  show ∀ cs ∈ zt_sct, _
  decide +kernel)
theorem zt_con0 (hY : xc_tys zt_cl zt_at tys) : ∀ (d j : Nat) (as : List (xv_V xd_V)) (M : xv_M xd_V) (r : xv_R xd_V), xv_rn xd_D zt_ct zt_at zt_sct zt_ms (fun _ _ _ _ => none) 20000 d j as M = some r → xm_Con l xd_g tys Dg zt_cl zt_at zt_nest (zt_kx ad adV L xs) zt_tb zt_ms zt_ys d j as M r :=
  xs_rn (kx := zt_kx ad adV L xs) xd_ok zt_all zt_char hY (fun _ _ _ _ _ h => by cases h) 20000
theorem zt_hext (hY : xc_tys zt_cl zt_at tys) : ∀ (d j : Nat) (as : List (xv_V xd_V)) (M : xv_M xd_V) (r : xv_R xd_V), zt_ext d j as M = some r → xm_Con l xd_g tys Dg zt_cl zt_at zt_nest (zt_kx ad adV L xs) zt_tb zt_ms zt_ys d j as M r := by
  intro d j as M r h
  cases d with
  | zero => cases h
  | succ d =>
    simp only [zt_ext] at h
    cases c1 : (Nat.beq j 87 && zt_int as) <;> simp only [c1, cond_true, cond_false] at h
    · cases c2 : (Nat.beq j 108 && zt_int as) <;> simp only [c2, cond_true, cond_false] at h
      · cases h
      · obtain rfl := Nat.eq_of_beq_eq_true (Bool.and_eq_true_iff.mp c2).1
        rw [zt_fk108, zt_fkS108] at h
        exact xl_go_ok (kx := zt_kx ad adV L xs) (y0 := zt_m108) xd_fv_eq xd_ok zt_all zt_char hY (zt_rn0_ok d) (zt_con0 hY d) rfl (by decide) (by decide) zt_wf108 (pre := zt_m108.2.2.2.take 5) (q := (7, .iload_n 2)) (cs := zt_m108.2.2.2.drop 6) rfl rfl (i0 := .aload_n 0) (cs0 := zt_m108.2.2.2.drop 1) rfl h
    · obtain rfl := Nat.eq_of_beq_eq_true (Bool.and_eq_true_iff.mp c1).1
      rw [zt_fk87, zt_fkS87] at h
      exact xl_go_ok (kx := zt_kx ad adV L xs) (y0 := zt_m87) xd_fv_eq xd_ok zt_all zt_char hY (zt_rn0_ok d) (zt_con0 hY d) rfl (by decide) (by decide) zt_wf87 (pre := zt_m87.2.2.2.take 2) (q := (2, .iload_n 3)) (cs := zt_m87.2.2.2.drop 3) rfl rfl (i0 := .iconst 0) (cs0 := zt_m87.2.2.2.drop 1) rfl h
theorem zt_con (hY : xc_tys zt_cl zt_at tys) : ∀ (d j : Nat) (as : List (xv_V xd_V)) (M : xv_M xd_V) (r : xv_R xd_V), xv_rn xd_D zt_ct zt_at zt_sct zt_ms zt_ext 20000 d j as M = some r → xm_Con l xd_g tys Dg zt_cl zt_at zt_nest (zt_kx ad adV L xs) zt_tb zt_ms zt_ys d j as M r :=
  xs_rn (kx := zt_kx ad adV L xs) xd_ok zt_all zt_char hY (zt_hext hY) 20000
end ZT1
/-- a constant cell that was forgotten is known again -/
theorem xr_m_know {φ : List Nat} {tys : List (ClassId × FieldType)} {kx : xk_C} {M : xv_M xd_V} {ws : va_W} {k : Nat} {o : xv_O xd_V} (hm : xr_m (xk_c xd_g kx) xd_g φ tys M ws) (h3 : o.1 = 3) (hc : xk_c xd_g kx k o) : xr_m (xk_c xd_g kx) xd_g φ tys (M.set k o) ws := by
  obtain ⟨pre, h1, h2, h4, h5⟩ := hm
  refine ⟨pre, h1, by rw [List.length_set]; exact h2, fun j u hj h7 h33 => ?_, fun j u hj h33 => ?_⟩
  · rcases xr_set hj with ⟨rfl, rfl⟩ | ⟨hne, hj⟩
    · exact absurd h3 h33
    · exact h4 j u hj h7 h33
  · rcases xr_set hj with ⟨rfl, rfl⟩ | ⟨hne, hj⟩
    · exact hc
    · exact h5 j u hj h33
theorem zt_T0_upd (o : xv_O xd_V) : xf_upd (zt_T1 (7, [])) 1 o some = some (zt_T1 o) := rfl
theorem zt_T00 : xf_R 2 (zt_T0 (7, [])) [(7, []), (7, [])] := by
  obtain ⟨T1, h1, hT1⟩ := xf_upd_ok (show xf_upd (xf_T0 : xf_T xd_V) 0 (7, []) (fun T => xf_upd T 1 (7, []) some) = some (zt_T0 (7, [])) from rfl)
  obtain ⟨T2, h2, hT2⟩ := xf_upd_ok h1
  cases Option.some.inj h2
  exact (xf_T0_R.push hT1).push hT2
theorem zt_lawq : zt_law.2.2.2 = zt_law.2.2.2.take 13 ++ (23, (.iload 4 : Instr)) :: zt_law.2.2.2.drop 14 := rfl
set_option maxRecDepth 100000 in
theorem zt_lawq2 : zt_law.2.2.2 = zt_law.2.2.2.take 581 ++ (978, (.aload_n 2 : Instr)) :: zt_law.2.2.2.drop 582 := rfl
theorem zt_law0 : zt_law.2.2.2 = (0, (.new 8 : Instr)) :: zt_law.2.2.2.drop 1 := rfl
theorem zt_end {S : List (xv_V xd_V)} {i : Instr} {a : xd_V} (h : xv_end xd_D 3 S i = some (some (.inl a))) : i = .ireturn ∧ S = [.inl a] := by
  cases i
  all_goals (first | (simp only [xv_end, reduceCtorEq] at h; done) | skip)
  case return_ =>
    simp only [xv_end] at h
    split at h
    · cases h
    · cases h
  case ireturn =>
    simp only [xv_end] at h
    split at h
    · rename_i b
      cases hc : (Nat.beq 3 1 || (Nat.beq 3 3 && xd_D.2.2.2.2.2 b)) <;> simp only [hc, cond_true, cond_false] at h
      · cases h
      · cases Option.some.inj (Option.some.inj h)
        exact ⟨rfl, rfl⟩
    · cases h
  case lreturn =>
    simp only [xv_end] at h
    split at h
    · cases h
    · cases h
set_option maxHeartbeats 4000000 in
/-- THE LAW'S RUN: if the fast machine says that it answers 1, it does -/
theorem zt_law_run {p : Program} {e : Env} {s : State} {m : MethodId} {below : List Frame} {meth : Method} {c : Code} (l : Launch) {b L : Nat} {xs : Nat → Int32} (C0 : lw_At p s m meth c b L xs) (hname : meth.name = "law") (vals : List xd_V) (hlen : vals.length = L) (hval : ∀ (j : Nat) (v : xd_V), vals[j]? = some v → xd_g v (.int (xs j))) (ks : List Nat) (hgo : zt_goK ks (3, vals.map Sum.inl) = true) :
    W p l e room_1 s m #[Value.ref b] below meth c s.heap [] 0 0 (lw_Z below #[Value.ref b] s) (entryFrame m ([Value.ref b] : List Value).toArray 7) := by
  obtain ⟨Dg, tys, ad, adV, had, hY, hK, hkw⟩ := zt_start C0
  obtain ⟨hx, hb, hr, hml, hown, hts, hX, hbl, hlk, hgv⟩ := C0
  have htb : ∀ w ∈ zt_tb, w.before #[Value.ref b] s = true := fun w hw => hts w (zt_tb_ok w hw).1
  have hfix : xw_fix Dg zt_cl tys zt_at zt_nest (zt_kx ad adV L xs) zt_tb zt_ct zt_ys 6 zt_law zt_zlaw p room_1 s m #[Value.ref b] meth c (fun q => s.heap.size ≤ q) := ⟨hx, hb, hml, hown, ⟨.arrayClass .int, fun w hw => (List.mem_cons.mp hw).elim (fun e => by rw [e]; exact htb _ zt_arr.1) (htb w)⟩, hK, hkw, ⟨by decide, by decide, rfl, rfl⟩, fun q hq => hq, hname, zt_lawbod⟩
  have hkF : xk_F (zt_kx ad adV L xs) [ad 0, b] := ⟨fun n hn => by
    have hn : n < 1 := hn
    obtain rfl : n = 0 := by omega
    rfl, fun k hk => by
    obtain rfl := List.mem_singleton.mp (show k ∈ [1] from hk)
    show some b = some (ad 1)
    rw [had]⟩
  have hc := zt_ctor
  split at hc
  · rename_i q hrun
    simp only [Bool.and_eq_true_iff] at hc
    obtain ⟨⟨⟨⟨⟨c1, c2⟩, c3⟩, c4⟩, c5⟩, c6⟩ := hc
    obtain ⟨L1, S1, ⟨n1, T1⟩, cc, ss⟩ := q
    have e1 : L1 = zt_L1 := xe_L_eq c1
    have e2 : S1 = [] := xe_l_eq xe_V_eq c2
    have e3 : n1 = 233 := Nat.eq_of_beq_eq_true c3
    have e4 : T1 = zt_T1 (7, []) := xe_T_eq c4
    have e5 : cc = 231 := Nat.eq_of_beq_eq_true c5
    have e6 : ss = 6999 := Nat.eq_of_beq_eq_true c6
    rw [e1, e2, e3, e4, e5, e6, zt_fklawS] at hrun
    have hlp := xf_lp_ok (D := xd_D) (fv := xd_fv) (ct := zt_ct) (at_ := zt_at) (sct := zt_sct) (ms := zt_ms) xd_fv_eq (zt_rn_ok 6) (y := zt_law) (stop := 23) zt_wflaw 20000 [] (zt_law.2.2.2.drop 1) (0, .new 8) zt_law0 (by decide)
    rw [← zt_law0] at hlp
    obtain ⟨bb, hb1, hb2⟩ := hlp _ _ _ _ _ _ _ ⟨Nat.zero_le _, Nat.zero_le _⟩ hrun _ zt_T00
    rcases hb2 with ⟨_, _, _, _, k1, _⟩ | ⟨L2, S2, n2, T2, c2, s2, M1, k1, rfl, hR1⟩
    · cases k1
    · cases k1
      rw [lg_entry_eq]
      have hl := lv_entry [Value.ref b] (n := 7) (Nat.le_of_ble_eq_true rfl)
      have hs0 : xr_s xd_g ([ad 0, b] ++ []) [.inr (.inr (some 1))] [Value.ref b] := ⟨.ref b, [], rfl, ⟨b, rfl, rfl⟩, rfl⟩
      refine xs_lp (kx := zt_kx ad adV L xs) (e := e) (below := below) (Q := lw_Z below #[Value.ref b] s) xd_ok zt_all zt_char hY (zt_con hY 6) hfix hkF (fun q hq => by cases hq) (fun q hq => ?_) 20000 0 zt_law.2.2.2 _ _ _ 0 0 hb1 (fun x hx => hx) (Nat.zero_le _) (Nat.zero_le _) [] [] s.heap [] _ [] ⟨[ad 0, b], rfl, rfl, fun k o hk h7 _ => ?_, fun k o hk h3 => ?_⟩ (fun k q hq => by simp at hq) ⟨fun i j q r hq => by simp at hq, fun k q hq => by simp at hq⟩ va_S.rf ⟨rfl, _, hl, fun i v hi => ?_⟩ rfl
      · cases hq
        intro hc1 hc2 t ws H locs ls st hm hP hD0 hS hl hs
        have hm2 := xr_m_know (k := 1) (o := (3, vals.map Sum.inl)) hm rfl ⟨List.mem_singleton.mpr rfl, by show (vals.map Sum.inl).length = L; rw [List.length_map]; exact hlen, fun j v hj => by
          have hj : (vals.map Sum.inl)[j]? = some v := hj
          rw [List.getElem?_map] at hj
          cases hv : vals[j]? with
          | none => rw [hv] at hj; cases hj
          | some a =>
            rw [hv] at hj
            cases Option.some.inj hj
            exact ⟨a, rfl, hval j a hv⟩⟩
        obtain ⟨T', k1, hT⟩ := xf_upd_ok (zt_T0_upd (3, vals.map Sum.inl))
        cases Option.some.inj k1
        have hM1 : M1[1]? = some (7, []) := (hR1.2 1).symm
        have hR2 := hR1.set hM1 hT
        cases ks with
        | nil =>
          have hgo : zt_go (3, vals.map Sum.inl) = true := hgo
          unfold zt_go at hgo
          split at hgo
          · rename_i z n' T' hrun2
            have ez := xd_eqx_eq hgo
            subst ez
            rw [zt_fklaw] at hrun2
            have et : xf_to (zt_F 100000 zt_law).2 23 = ((23, (.iload 4 : Instr)) :: zt_law.2.2.2.drop 14).map (xf_mk xd_D xd_fv zt_ct zt_at zt_sct zt_ms zt_law 100000) := by
              show xf_to (zt_law.2.2.2.map (xf_mk xd_D xd_fv zt_ct zt_at zt_sct zt_ms zt_law 100000)) 23 = _
              rw [xf_to_map]
              have := xf_to_suf (pre := zt_law.2.2.2.take 13) (q := (23, (.iload 4 : Instr))) (r := zt_law.2.2.2.drop 14) (by rw [← zt_lawq]; exact zt_wflaw)
              rw [← zt_lawq] at this
              rw [this]
            rw [et] at hrun2
            obtain ⟨bb2, hb3, hb4⟩ := xf_lp_ok (D := xd_D) (fv := xd_fv) (ct := zt_ct) (at_ := zt_at) (sct := zt_sct) (ms := zt_ms) xd_fv_eq (zt_rn_ok 6) (y := zt_law) (stop := 100000) zt_wflaw 20000 (zt_law.2.2.2.take 13) (zt_law.2.2.2.drop 14) (23, .iload 4) zt_lawq (by decide) _ _ _ _ _ _ _ ⟨hc1, hc2⟩ hrun2 _ hR2
            rcases hb4 with ⟨v1, n1, T1, M2, k2, rfl, hR3⟩ | ⟨_, _, _, _, _, _, _, k2, _⟩
            · cases Sum.inl.inj k2
              refine xs_lp (kx := zt_kx ad adV L xs) xd_ok zt_all zt_char hY (zt_con hY 6) hfix hkF (fun q hq i pc L S cells slots k3 k4 => ?_) (fun q hq => by cases hq) 20000 23 _ _ _ _ 231 6999 hb3 (fun x hx => by rw [zt_lawq]; exact List.mem_append_right _ hx) hc1 hc2 t ws H locs ls st hm2 hP hD0 hS hl hs
              cases hq
              intro hc1 hc2 t ws H locs ls st hm hP hD0 hS hl hs
              obtain ⟨rfl, rfl⟩ := zt_end k3
              obtain ⟨x9, r9, rfl, ⟨n9, rfl, hg9⟩, rfl⟩ := hs
              have hg9 : n9.toInt = 1 := hg9
              have e9 : n9 = 1 := Int32.toInt_inj.mp (by rw [hg9]; rfl)
              subst e9
              exact va_forget (fun q hq => hS.2.2 q hq) (W.widen hc1 hc2 (lw_ret hx hb hr hlk k4))
            · cases k2
          · cases hgo
        | cons k0 ks =>
          have hgo := Bool.and_eq_true_iff.mp (show (zt_goA (k0 :: ks) (3, vals.map Sum.inl) && zt_goB (k0 :: ks) (3, vals.map Sum.inl)) = true from hgo)
          have hA := hgo.1
          have hB := hgo.2
          clear hgo
          revert hA hB
          generalize k0 :: ks = ks
          intro hA hB
          unfold zt_goA at hA
          split at hA
          · rename_i LA SA nA TA cA sA hrunA
            simp only [Bool.and_eq_true_iff] at hA
            obtain ⟨⟨⟨⟨⟨a1, a2⟩, a3⟩, a5⟩, a6⟩, a4⟩ := hA
            have e1 := xe_L_eq a1
            have e2 := xe_l_eq xe_V_eq a2
            have e3 := Nat.eq_of_beq_eq_true a3
            have e5 := Nat.eq_of_beq_eq_true a5
            have e6 := Nat.eq_of_beq_eq_true a6
            subst e1 e2 e3 e5 e6
            split at a4
            · rename_i TB hTB
              split at a4
              · rename_i TC hTC
                have e4 := xe_T_eq a4
                subst e4
                unfold zt_goB at hB
                rw [hTC] at hB
                simp only at hB
                split at hB
                · rename_i z n' T' hrun2
                  have ez := xd_eqx_eq hB
                  subst ez
                  rw [zt_fklawP] at hrunA
                  rw [zt_fklaw] at hrun2
                  have etA : xf_to (zt_F 978 zt_law).2 23 = ((23, (.iload 4 : Instr)) :: zt_law.2.2.2.drop 14).map (xf_mk xd_D xd_fv zt_ct zt_at zt_sct zt_ms zt_law 978) := by
                    show xf_to (zt_law.2.2.2.map (xf_mk xd_D xd_fv zt_ct zt_at zt_sct zt_ms zt_law 978)) 23 = _
                    rw [xf_to_map]
                    have := xf_to_suf (pre := zt_law.2.2.2.take 13) (q := (23, (.iload 4 : Instr))) (r := zt_law.2.2.2.drop 14) (by rw [← zt_lawq]; exact zt_wflaw)
                    rw [← zt_lawq] at this
                    rw [this]
                  have etB : xf_to (zt_F 100000 zt_law).2 978 = ((978, (.aload_n 2 : Instr)) :: zt_law.2.2.2.drop 582).map (xf_mk xd_D xd_fv zt_ct zt_at zt_sct zt_ms zt_law 100000) := by
                    show xf_to (zt_law.2.2.2.map (xf_mk xd_D xd_fv zt_ct zt_at zt_sct zt_ms zt_law 100000)) 978 = _
                    rw [xf_to_map]
                    have := xf_to_suf (pre := zt_law.2.2.2.take 581) (q := (978, (.aload_n 2 : Instr))) (r := zt_law.2.2.2.drop 582) (by rw [← zt_lawq2]; exact zt_wflaw)
                    rw [← zt_lawq2] at this
                    rw [this]
                  rw [etA] at hrunA
                  rw [etB] at hrun2
                  obtain ⟨bb2, hb3, hb4⟩ := xf_lp_ok (D := xd_D) (fv := xd_fv) (ct := zt_ct) (at_ := zt_at) (sct := zt_sct) (ms := zt_ms) xd_fv_eq (zt_rn_ok 6) (y := zt_law) (stop := 978) zt_wflaw 20000 (zt_law.2.2.2.take 13) (zt_law.2.2.2.drop 14) (23, .iload 4) zt_lawq (by decide) _ _ _ _ _ _ _ ⟨hc1, hc2⟩ hrunA _ hR2
                  rcases hb4 with ⟨_, _, _, _, k2, _⟩ | ⟨L3, S3, n3, T3, c3, s3, M3, k2, rfl, hR3⟩
                  · cases k2
                  · cases k2
                    refine xs_lp (kx := zt_kx ad adV L xs) xd_ok zt_all zt_char hY (zt_con hY 6) hfix hkF (fun q hq => by cases hq) (fun q hq => ?_) 20000 23 _ _ _ _ 231 6999 hb3 (fun x hx => by rw [zt_lawq]; exact List.mem_append_right _ hx) hc1 hc2 t ws H locs ls st hm2 hP hD0 hS hl hs
                    cases hq
                    intro hc1 hc2 t ws H locs ls st hm hP hD0 hS hl hs
                    obtain ⟨T4, M4, k4, hR4, hm4⟩ := xf_fg_ok ks _ _ _ _ hTB hR3 hm
                    cases Option.some.inj k4
                    obtain ⟨bb3, hb5, hb6⟩ := xf_lp_ok (D := xd_D) (fv := xd_fv) (ct := zt_ct) (at_ := zt_at) (sct := zt_sct) (ms := zt_ms) xd_fv_eq (zt_rn_ok 6) (y := zt_law) (stop := 100000) zt_wflaw 20000 (zt_law.2.2.2.take 581) (zt_law.2.2.2.drop 582) (978, .aload_n 2) zt_lawq2 (by decide) _ _ _ _ _ _ _ ⟨hc1, hc2⟩ hrun2 _ hR4
                    rcases hb6 with ⟨v1, n1, T1, M2, k2, rfl, hR5⟩ | ⟨_, _, _, _, _, _, _, k2, _⟩
                    · cases Sum.inl.inj k2
                      refine xs_lp (kx := zt_kx ad adV L xs) xd_ok zt_all zt_char hY (zt_con hY 6) hfix hkF (fun q hq i pc L S cells slots k3 k4 => ?_) (fun q hq => by cases hq) 20000 978 _ _ _ _ 231 6999 hb5 (fun x hx => by rw [zt_lawq2]; exact List.mem_append_right _ hx) hc1 hc2 t ws H locs ls st hm4 hP hD0 hS hl hs
                      cases hq
                      intro hc1 hc2 t ws H locs ls st hm hP hD0 hS hl hs
                      obtain ⟨rfl, rfl⟩ := zt_end k3
                      obtain ⟨x9, r9, rfl, ⟨n9, rfl, hg9⟩, rfl⟩ := hs
                      have hg9 : n9.toInt = 1 := hg9
                      have e9 : n9 = 1 := Int32.toInt_inj.mp (by rw [hg9]; rfl)
                      subst e9
                      exact va_forget (fun q hq => hS.2.2 q hq) (W.widen hc1 hc2 (lw_ret hx hb hr hlk k4))
                    · cases k2
                · cases hB
              · cases a4
            · cases a4
          · cases hA
      · match k, hk with
        | 0, hk => cases Option.some.inj (show some ((7, []) : xv_O xd_V) = some o from hk); exact absurd rfl h7
        | 1, hk => cases Option.some.inj (show some ((7, []) : xv_O xd_V) = some o from hk); exact absurd rfl h7
        | n + 2, hk => simp at hk
      · match k, hk with
        | 0, hk => cases Option.some.inj (show some ((7, []) : xv_O xd_V) = some o from hk); cases h3
        | 1, hk => cases Option.some.inj (show some ((7, []) : xv_O xd_V) = some o from hk); cases h3
        | n + 2, hk => simp at hk
      · obtain ⟨x, hx1, hx2⟩ := xv_in_at 0 7 i hs0 hi
        exact ⟨x, by rw [Nat.zero_add] at hx1; exact hx1, hx2⟩
  · cases hc
