section XSO
variable {p : Program} {l : Launch} {e : Env} {R : Room} {s : State} {m : MethodId} {args : Array Value} {below : List Frame} {meth : Method} {c : Code} {H : Heap} {locs : List Loc} {cells slots : Nat} {Q : State → Prop}
variable {cc : ByteArray} {pc : Nat} {V : Type} {C : Nat → xv_O V → Prop} {D : xv_D V} {g : V → Value → Prop} {φ : List Nat} {M M' : xv_M V} {S S' : List (xv_V V)} {ls : Array Slot} {st : List Value}
variable {Dg : va_G} {cl : List vw_C} {tys : List (ClassId × FieldType)} {A : Nat → Prop} {H0 : Heap} {ws : va_W} {dc ds : Nat}
set_option maxHeartbeats 4000000 in
/-- THE INSTRUCTIONS OF THE MEMORY -/
theorem xs_mem (hx : p.tables.exec = Jvm.exec) (hb : c.code = cc) {own : String} (hown : s.vm.findClass own = some m.cls) {Ts tb : List Jvm.Cond} (hts : ∀ w ∈ Ts, w.before args s = true) (htb : ∀ w ∈ tb, w ∈ Ts) (hD : xv_ok D g) {K : xv_K} {ct : List (List (FieldType × Bool))} {at_ : List Nat} {wn ini : Nat}
    (hC : xc_cls tb cl ct) (hF : xc_fld tb cl ct own K) (hN : xc_new tb cl at_ own K) (hY : xc_tys cl at_ tys) (hO : xc_ao cl at_ s) (hR : xc_arr tb) (hin : ini = 1 → meth.name = "<init>") (hwn : ∀ (C : String) (T : u_T) (N : Nat), cl[wn]? = some (C, T, N) → C = own)
    (hK : va_K Dg cl tys s) (hA : ∀ q, H0.size ≤ q → A q)
    (hcst : ∀ (k q : Nat) (o : xv_O V), C k o → φ[k]? = some q → ∃ (L : Nat) (xs : Nat → Int32), va_X q L xs s H0 ∧ q < H0.size ∧ ¬ A q ∧ o.2.length = L ∧ ∀ (j : Nat) (v : xv_V V), o.2[j]? = some v → xr_v g φ v (.int (xs j))) {i : Instr} (h : xv_mem D ct at_ K wn ini M S i = some (S', M', dc, ds)) (hdg : decode cc pc = .ok (i, xv_len i))
    (hm : xr_m C g φ tys M ws) (hP : va_P Dg cl ws H) (hD0 : va_D A ws) (hS : va_S A H0 H locs) (hs : xr_s g φ S st) (hc1 : cells + dc ≤ R.cells) (hc2 : slots + ds ≤ R.slots)
    (kk : ∀ (t : List Nat) (ws' : va_W) (H' : Heap) (locs' : List Loc) (st' : List Value), xr_m C g (φ ++ t) tys M' ws' → va_P Dg cl ws' H' → va_D A ws' → va_S A H0 H' locs' → xr_s g (φ ++ t) S' st' → W p l e R s m args below meth c H' locs' (cells + dc) (slots + ds) Q (F0 m (pc + xv_len i) ls st')) :
    W p l e R s m args below meth c H locs cells slots Q (F0 m pc ls st) := by
  have hmlen : M.length = φ.length := xr_m_len hm
  have k0 : ∀ (ws' : va_W) (H' : Heap) (locs' : List Loc) (st' : List Value), xr_m C g φ tys M' ws' → va_P Dg cl ws' H' → va_D A ws' → va_S A H0 H' locs' → xr_s g φ S' st' → W p l e R s m args below meth c H' locs' (cells + dc) (slots + ds) Q (F0 m (pc + xv_len i) ls st') := fun ws' H' locs' st' a b c d f => by
    have q := kk [] ws' H' locs' st'
    rw [List.append_nil] at q
    exact q a b c d f
  cases i
  all_goals (first | (simp only [xv_mem, reduceCtorEq] at h; done) | skip)
  case getfield i =>
    simp only [xv_mem] at h
    split at h
    · rename_i ck hck
      split at h
      · rename_i a S1
        obtain ⟨_, r1, rfl, ⟨q, hq, rfl⟩, hr⟩ := hs
        split at h
        · rename_i o ho
          cases hc : Nat.beq o.1 (8 + ck.1) <;> simp only [hc, cond_true, cond_false] at h
          · cases h
          split at h
          · rename_i v hv
            obtain ⟨rfl, rfl, rfl, rfl⟩ := by simpa using h
            obtain ⟨b, E, hE, he, -⟩ := xr_m_at hm ho hq (by have := Nat.eq_of_beq_eq_true hc; omega) (by have := Nat.eq_of_beq_eq_true hc; omega)
            obtain ⟨fs, rfl, hl, hfs⟩ := xr_e_obj he (Nat.eq_of_beq_eq_true hc)
            obtain ⟨x, hx1, hx2⟩ := hfs _ _ hv
            obtain ⟨fd, f, C, T, hct, hf, hcl, hlink⟩ := hF i ck hck
            obtain ⟨-, hu, -⟩ := xc_at hC hct hcl
            exact va_get hx hb (ref := (T ck.2).1) hts (fun w hw => htb _ (hu w hw)) hown hK hP b hE hcl ck.2 (List.getElem?_eq_some_iff.mp hf).1 (hts _ (htb _ hlink)) (fun _ z => z) hx1 hdg (k0 _ _ _ _ hm hP hD0 hS ⟨_, _, rfl, hx2, hr⟩)
          · cases h
        · cases h
      · cases h
    · cases h
  case putfield i =>
    simp only [xv_mem] at h
    split at h
    · rename_i ck hck
      split at h
      · rename_i v a S1
        obtain ⟨y, r0, rfl, hy, _, r1, rfl, ⟨q, hq, rfl⟩, hr⟩ := hs
        split at h
        · rename_i o ho
          cases hc : Nat.beq o.1 (8 + ck.1) <;> simp only [hc, Bool.true_and, Bool.false_and, cond_true, cond_false] at h
          · cases h
          cases hlt : Nat.blt ck.2 o.2.length <;> simp only [hlt, cond_true, cond_false] at h
          · cases h
          split at h
          · rename_i fd hct
            split at h
            · rename_i f hf
              cases hfit : xv_fit D f.1 v <;> simp only [hfit, Bool.true_and, Bool.false_and, cond_true, cond_false] at h
              · cases h
              have ho8 := Nat.eq_of_beq_eq_true hc
              obtain ⟨b, E, hE, he, hset⟩ := xr_m_at hm ho hq (by omega) (by omega)
              obtain ⟨fs, rfl, hl, hfs⟩ := xr_e_obj he ho8
              obtain ⟨fd2, f2, C, T, hct2, hf2, hcl, hlink⟩ := hF i ck hck
              cases Option.some.inj (hct2.symm.trans hct)
              obtain ⟨-, hu, hfl, hnm, -, -⟩ := xc_at hC hct hcl
              obtain ⟨g1, g2, g3, g4⟩ := hfl _ _ hf
              obtain ⟨n1, n2⟩ := xs_fit hD hfit hy
              have hkN := (List.getElem?_eq_some_iff.mp hf).1
              have hklt : ck.2 < fs.length := by rw [hl]; exact Nat.le_of_ble_eq_true hlt
              have hty : ∀ k, k < fd.length → parseFieldDescriptor (T k).2.2.1 = some ((fun k => (fd.getD k (.int, false)).1) k) := fun k hk => by
                have e1 : fd[k]? = some (fd.getD k (.int, false)) := by simp [List.getD, hk]
                exact (hfl k _ e1).1
              have hnew : xr_e g φ tys (o.1, o.2.set ck.2 v) (.inr (ck.1, fs.set ck.2 y)) := by
                refine Or.inl ⟨by show 8 ≤ o.1; omega, _, by show _ = Sum.inr (o.1 - 8, _); rw [show o.1 - 8 = ck.1 by omega], by rw [List.length_set, List.length_set]; exact hl, fun j w hw => ?_⟩
                rcases xr_set hw with ⟨rfl, rfl⟩ | ⟨hne, hw⟩
                · exact ⟨y, by rw [List.getElem?_set, if_pos rfl, if_pos hklt], hy⟩
                · obtain ⟨x1, hx1, hx2⟩ := hfs _ _ hw
                  exact ⟨x1, by rw [List.getElem?_set, if_neg (fun z => hne z.symm)]; exact hx1, hx2⟩
              cases hfin : f.2
              · rw [hfin] at h
                obtain ⟨rfl, rfl, rfl, rfl⟩ := by simpa using h
                exact va_put hx hb (ref := (T ck.2).1) hts (fun w hw => htb _ (hu w hw)) _ hty hnm hown hK hP hD0 hS b hE hcl ck.2 hkN (hts _ (htb _ hlink)) (fun _ z => z) (g2.trans hfin) g1 n1 n2 hklt hdg (fun H1 locs1 hP1 hD1 hS1 => k0 _ _ _ _ (hset _ _ hnew) hP1 hD1 hS1 hr)
              · rw [hfin] at h
                cases hini : Nat.beq ini 1 <;> simp only [hini, Bool.not_true, Bool.false_or, Bool.true_and, Bool.false_and, cond_true, cond_false] at h
                · cases h
                cases hw1 : Nat.beq wn ck.1 <;> simp only [hw1, cond_true, cond_false] at h
                · cases h
                obtain ⟨rfl, rfl, rfl, rfl⟩ := by simpa using h
                have hdecl : (T ck.2).1 = own := g3.trans (hwn _ _ _ (by rw [Nat.eq_of_beq_eq_true hw1]; exact hcl))
                exact va_putF hx hb (ref := (T ck.2).1) hts (fun w hw => htb _ (hu w hw)) _ hty hnm hown hK hP hD0 hS b hE hcl ck.2 hkN (hts _ (htb _ hlink)) (fun _ z => z) (g2.trans hfin) (hin (Nat.eq_of_beq_eq_true hini)) hdecl g1 n1 n2 hklt hdg (fun H1 locs1 hP1 hD1 hS1 => k0 _ _ _ _ (hset _ _ hnew) hP1 hD1 hS1 hr)
            · cases h
          · cases h
        · cases h
      · cases h
    · cases h
  case new i =>
    simp only [xv_mem] at h
    split at h
    · rename_i ci hci
      split at h
      · rename_i fd hct
        cases hlt : Nat.blt ci 1000 <;> simp only [hlt, cond_true, cond_false] at h
        · cases h
        obtain ⟨rfl, rfl, rfl, rfl⟩ := by simpa using h
        obtain ⟨C, T, N, hcl, hlink⟩ := (hN i ci hci).1 (Nat.le_of_ble_eq_true hlt)
        obtain ⟨rfl, hu, hfl, -, hi1, hi2⟩ := xc_at hC hct hcl
        have hty : ∀ k, k < fd.length → parseFieldDescriptor (T k).2.2.1 = some ((fun k => (fd.getD k (.int, false)).1) k) := fun k hk => by
          have e1 : fd[k]? = some (fd.getD k (.int, false)) := by simp [List.getD, hk]
          exact (hfl k _ e1).1
        refine va_new (fs := fd.map (fun f => defaultValue f.1)) hx hb hts (fun w hw => htb _ (hu w hw)) _ hty hown (hts _ (htb _ hlink)) (hts _ (htb _ hi1)) (hts _ (htb _ hi2)) hK hP hD0 hS hA hcl (fun j hj => ?_) hc1 hc2 hdg (fun q H1 hP1 hD1 hS1 => ?_)
        · simp [vp_V, List.getD, hj]
        · refine kk [q] _ _ _ _ (xr_m_push hm ?_) hP1 hD1 hS1 ⟨_, _, rfl, ⟨q, by rw [hmlen]; exact xs_last φ q, rfl⟩, xr_s_mono hs⟩
          refine Or.inl ⟨by show 8 ≤ 8 + ci; omega, _, by show _ = Sum.inr (8 + ci - 8, _); rw [Nat.add_sub_cancel_left], by simp, fun j w hw => ?_⟩
          rw [List.getElem?_map] at hw
          cases hfj : fd[j]? with
          | none => rw [hfj] at hw; cases hw
          | some f =>
            rw [hfj] at hw
            cases Option.some.inj hw
            exact ⟨defaultValue f.1, by rw [List.getElem?_map, hfj]; rfl, xs_dflt hD _ (hfl _ _ hfj).2.2.2⟩
      · cases h
    · cases h
  case newarray at1 =>
    cases at1
    all_goals (first | (simp only [xv_mem, reduceCtorEq] at h; done) | skip)
    case int =>
      simp only [xv_mem] at h
      obtain ⟨S1, n, rest, rfl, rfl, rfl, hlt, rfl, hr, hn0, hn⟩ := xs_newa hD h hs
      obtain ⟨c0, ht0⟩ := hY.1
      refine va_newa (atype := .int) (a0 := (ds, .inl (fun _ => 0))) hx hb (hts _ (htb _ hR.1)) rfl hK hP hD0 hS hA (fun cA => rfl) hn0 hn (by show ds * 4 ≤ _; omega) hc1 hc2 hdg (fun q cA H1 hK1 hP1 hD1 hS1 => ?_)
      have e0 : cA = c0 := va_RA_one (hK1.2 tys.length _ (xs_last tys _)).2 (hK.2 0 _ ht0).2
      subst e0
      refine kk [q] _ _ _ _ (xr_m_push hm ?_) hP1 hD1 hS1 ⟨_, _, rfl, ⟨q, by rw [hmlen]; exact xs_last φ q, rfl⟩, xr_s_mono hr⟩
      refine Or.inr ⟨_, _, ht0, Or.inl ⟨Or.inl rfl, fun _ => 0, by show _ = Sum.inl (_, (List.replicate _ _).length, _); rw [List.length_replicate], fun j w hw => ?_⟩⟩
      cases xs_rep hw
      exact ⟨0, rfl, hD.1 0⟩
    case long =>
      simp only [xv_mem] at h
      obtain ⟨S1, n, rest, rfl, rfl, rfl, hlt, rfl, hr, hn0, hn⟩ := xs_newa hD h hs
      obtain ⟨c0, ht0⟩ := hY.2.1
      refine va_newa (atype := .long) (a0 := (ds, .inr (.inl (fun _ => 0)))) hx hb (hts _ (htb _ hR.2.1)) rfl hK hP hD0 hS hA (fun cA => rfl) hn0 hn (by show ds * 8 ≤ _; omega) hc1 hc2 hdg (fun q cA H1 hK1 hP1 hD1 hS1 => ?_)
      have e0 : cA = c0 := va_RA_one (hK1.2 tys.length _ (xs_last tys _)).2 (hK.2 1 _ ht0).2
      subst e0
      refine kk [q] _ _ _ _ (xr_m_push hm ?_) hP1 hD1 hS1 ⟨_, _, rfl, ⟨q, by rw [hmlen]; exact xs_last φ q, rfl⟩, xr_s_mono hr⟩
      refine Or.inr ⟨_, _, ht0, Or.inr (Or.inl ⟨rfl, fun _ => 0, by show _ = Sum.inl (_, (List.replicate _ _).length, _); rw [List.length_replicate], fun j w hw => ?_⟩)⟩
      cases xs_rep hw
      exact ⟨0, rfl, hD.2.1 0⟩
    case boolean =>
      simp only [xv_mem] at h
      obtain ⟨S1, n, rest, rfl, rfl, rfl, hlt, rfl, hr, hn0, hn⟩ := xs_newa hD h hs
      obtain ⟨c0, ht0⟩ := hY.2.2.1
      refine va_newa (atype := .boolean) (a0 := (ds, .inl (fun _ => 0))) hx hb (hts _ (htb _ hR.2.2)) rfl hK hP hD0 hS hA (fun cA => rfl) hn0 hn (by show ds * 1 ≤ _; omega) hc1 hc2 hdg (fun q cA H1 hK1 hP1 hD1 hS1 => ?_)
      have e0 : cA = c0 := va_RA_one (hK1.2 tys.length _ (xs_last tys _)).2 (hK.2 2 _ ht0).2
      subst e0
      refine kk [q] _ _ _ _ (xr_m_push hm ?_) hP1 hD1 hS1 ⟨_, _, rfl, ⟨q, by rw [hmlen]; exact xs_last φ q, rfl⟩, xr_s_mono hr⟩
      refine Or.inr ⟨_, _, ht0, Or.inl ⟨Or.inr rfl, fun _ => 0, by show _ = Sum.inl (_, (List.replicate _ _).length, _); rw [List.length_replicate], fun j w hw => ?_⟩⟩
      cases xs_rep hw
      exact ⟨0, rfl, hD.1 0⟩
  case anewarray i =>
    simp only [xv_mem] at h
    split at h
    · rename_i ci hci
      cases h1 : Nat.ble 1000 ci <;> simp only [h1, Bool.true_and, Bool.false_and, cond_true, cond_false] at h
      · cases h
      cases h2 : Nat.blt ci 1003 <;> simp only [h2, cond_true, cond_false] at h
      · cases h
      have g1 := Nat.le_of_ble_eq_true h1
      have g2 : ci < 1003 := Nat.le_of_ble_eq_true h2
      obtain ⟨S1, n, rest, rfl, rfl, rfl, hlt, rfl, hr, hn0, hn⟩ := xs_newa hD h hs
      obtain ⟨cj, C, T, N, hat, hcl, hlink⟩ := (hN _ ci hci).2 g1 g2
      rw [Nat.add_sub_cancel_left] at hlink
      obtain ⟨c0, ht0⟩ := hY.2.2.2.1 _ _ _ _ _ hat hcl
      rw [show 4 + (ci - 1000) = ci - 996 by omega] at ht0
      refine va_newq hx hb hown (hts _ (htb _ hlink)) (hO _ _ _ _ _ hat hcl) hK hP hD0 hS hA hn0 hn (by omega) hc1 hc2 hdg (fun q cA H1 hK1 hP1 hD1 hS1 => ?_)
      have e0 : cA = c0 := va_RA_one (hK1.2 tys.length _ (xs_last tys _)).2 (hK.2 _ _ ht0).2
      subst e0
      refine kk [q] _ _ _ _ (xr_m_push hm ?_) hP1 hD1 hS1 ⟨_, _, rfl, ⟨q, by rw [hmlen]; exact xs_last φ q, rfl⟩, xr_s_mono hr⟩
      refine Or.inr ⟨_, _, ht0, Or.inr (Or.inr ⟨⟨by show 4 ≤ ci - 996; omega, by show ci - 996 < 7; omega⟩, fun _ => none, by show _ = Sum.inl (_, (List.replicate _ _).length, _); rw [List.length_replicate], fun j w hw => ?_⟩)⟩
      cases xs_rep hw
      exact rfl
    · cases h
  case arraylength =>
    simp only [xv_mem] at h
    split at h
    · rename_i a S1
      obtain ⟨_, r1, rfl, ⟨q, hq, rfl⟩, hr⟩ := hs
      split at h
      · rename_i o ho
        cases h1 : Nat.blt o.1 7 <;> simp only [h1, Bool.true_and, Bool.false_and, cond_true, cond_false] at h
        · cases h
        cases h2 : Nat.ble o.2.length 4096 <;> simp only [h2, cond_true, cond_false] at h
        · cases h
        obtain ⟨rfl, rfl, rfl, rfl⟩ := by simpa using h
        have g1 : o.1 < 7 := Nat.le_of_ble_eq_true h1
        have hx0 : xr_v g φ (Sum.inl (D.1 (Int32.ofNat o.2.length))) (.int (Int32.ofNat o.2.length)) := ⟨_, rfl, hD.1 _⟩
        by_cases h33 : o.1 = 3
        · obtain ⟨L, xs, g1, g2, g3, g4, -⟩ := hcst _ _ _ (xr_m_cst hm ho h33) hq
          rw [g4] at hx0 k0
          exact va_slen hx hb g1 g2 g3 hS hdg (k0 _ _ _ _ hm hP hD0 hS ⟨_, _, rfl, hx0, hr⟩)
        obtain ⟨b, E, hE, he, -⟩ := xr_m_at hm ho hq (by omega) h33
        rcases he with ⟨h8, -⟩ | ⟨cA, ty, ht, he | he | he⟩
        · omega
        · obtain ⟨-, f, rfl, -⟩ := he
          exact va_alen hx hb hK hP b o.1 hE ht rfl hdg (k0 _ _ _ _ hm hP hD0 hS ⟨_, _, rfl, hx0, hr⟩)
        · obtain ⟨-, f, rfl, -⟩ := he
          exact va_alen hx hb hK hP b o.1 hE ht rfl hdg (k0 _ _ _ _ hm hP hD0 hS ⟨_, _, rfl, hx0, hr⟩)
        · obtain ⟨-, f, rfl, -⟩ := he
          exact va_alen hx hb hK hP b o.1 hE ht rfl hdg (k0 _ _ _ _ hm hP hD0 hS ⟨_, _, rfl, hx0, hr⟩)
      · cases h
    · cases h
  case iaload =>
    simp only [xv_mem] at h
    split at h
    rotate_left
    · unfold xv_ald at h
      split at h
      · rename_i i a S1
        obtain ⟨_, r1, rfl, ⟨x, rfl, hx1⟩, _, r2, rfl, ⟨q, hq, rfl⟩, hr⟩ := hs
        split at h
        · rename_i o ho
          cases hc : Nat.ble 3 o.1 <;> simp only [hc, Bool.true_and, Bool.false_and, cond_true, cond_false] at h
          · cases h
          cases hd : Nat.ble o.1 3 <;> simp only [hd, cond_true, cond_false] at h
          · cases h
          split at h
          · rename_i k hk
            split at h
            · rename_i v hv
              obtain ⟨rfl, rfl, rfl, rfl⟩ := by simpa using h
              have l1 := Nat.le_of_ble_eq_true hc
              have l2 := Nat.le_of_ble_eq_true hd
              obtain ⟨L, xs, g1, g2, g3, g4, g5⟩ := hcst _ _ _ (xr_m_cst hm ho (by omega)) hq
              obtain ⟨-, hin1, rfl, -⟩ := xs_ix hD hk hx1
              rw [g4] at hin1
              exact va_sld hx hb g1 g2 g3 hS hin1 hdg (k0 _ _ _ _ hm hP hD0 hS ⟨_, _, rfl, g5 _ _ hv, hr⟩)
            · cases h
          · cases h
        · cases h
      · cases h
    rename_i r0 h0
    cases Option.some.inj h
    have h := h0
    obtain ⟨a, q, k, o, E, v, S1, x, rest, rfl, rfl, rfl, rfl, rfl, hr, ho, hE, he, hv, hin1, rfl⟩ := xs_ald hD (by decide) h hs hm
    have ho0 : o.1 = 0 := by omega
    obtain ⟨cA, ty, f, ht, rfl, hf⟩ := xr_e_int he (Or.inl ho0)
    obtain ⟨c0, ht0⟩ := hY.1
    rw [ho0] at ht
    cases Option.some.inj (ht.symm.trans ht0)
    exact va_iald hx hb hK hP a 0 hE ht0 hin1 hdg (k0 _ _ _ _ hm hP hD0 hS ⟨_, _, rfl, hf _ _ hv, hr⟩)
  case baload =>
    simp only [xv_mem] at h
    obtain ⟨a, q, k, o, E, v, S1, x, rest, rfl, rfl, rfl, rfl, rfl, hr, ho, hE, he, hv, hin1, rfl⟩ := xs_ald hD (by decide) h hs hm
    have ho0 : o.1 = 2 := by omega
    obtain ⟨cA, ty, f, ht, rfl, hf⟩ := xr_e_int he (Or.inr ho0)
    obtain ⟨c0, ht0⟩ := hY.2.2.1
    rw [ho0] at ht
    cases Option.some.inj (ht.symm.trans ht0)
    exact va_zald hx hb hK hP a 2 hE ht0 hin1 hdg (k0 _ _ _ _ hm hP hD0 hS ⟨_, _, rfl, hf _ _ hv, hr⟩)
  case laload =>
    simp only [xv_mem] at h
    obtain ⟨a, q, k, o, E, v, S1, x, rest, rfl, rfl, rfl, rfl, rfl, hr, ho, hE, he, hv, hin1, rfl⟩ := xs_ald hD (by decide) h hs hm
    have ho0 : o.1 = 1 := by omega
    obtain ⟨cA, ty, f, ht, rfl, hf⟩ := xr_e_long he ho0
    obtain ⟨c0, ht0⟩ := hY.2.1
    rw [ho0] at ht
    cases Option.some.inj (ht.symm.trans ht0)
    exact va_lald hx hb hK hP a 1 hE ht0 hin1 hdg (k0 _ _ _ _ hm hP hD0 hS ⟨_, _, rfl, hf _ _ hv, hr⟩)
  case aaload =>
    simp only [xv_mem] at h
    obtain ⟨a, q, k, o, E, v, S1, x, rest, rfl, rfl, rfl, rfl, rfl, hr, ho, hE, he, hv, hin1, rfl⟩ := xs_ald hD (by decide) h hs hm
    obtain ⟨cA, ty, f, ht, rfl, hf⟩ := xr_e_ref he ⟨ho.1, by omega⟩
    obtain ⟨C, rfl⟩ : ∃ C, ty = .object C := hY.2.2.2.2 _ _ ho.1 ht
    exact va_aldq hx hb hK hP a _ hE ht hin1 hdg (k0 _ _ _ _ hm hP hD0 hS ⟨_, _, rfl, hf _ _ hv, hr⟩)
  case iastore =>
    simp only [xv_mem] at h
    obtain ⟨a, q, k, o, E, v, y, x, rest, hset, rfl, rfl, rfl, hr, ho0, hE, he, hfit, hy, hin1, rfl⟩ := xs_ast hD (by decide) h hs hm
    obtain ⟨cA, ty, f, ht, rfl, hf⟩ := xr_e_int he (Or.inl ho0)
    obtain ⟨c0, ht0⟩ := hY.1
    rw [ho0] at ht
    cases Option.some.inj (ht.symm.trans ht0)
    rcases v with va | va | (_ | va) <;> first | (simp only [xv_fit, Bool.false_eq_true] at hfit; done) | skip
    obtain ⟨n, rfl, hn⟩ := hy
    refine va_iast hx hb hK hP hD0 hS a 0 hE ht0 hin1 hdg (fun H1 locs1 hP1 hD1 hS1 => k0 _ _ _ _ (hset _ ?_) hP1 hD1 hS1 hr)
    refine Or.inr ⟨_, _, by show tys[o.1]? = _; rw [ho0]; exact ht0, Or.inl ⟨Or.inl ho0, _, by show _ = Sum.inl (_, (List.set _ _ _).length, _); rw [List.length_set], fun j w hw => ?_⟩⟩
    rcases xr_set hw with ⟨rfl, rfl⟩ | ⟨hne, hw⟩
    · exact ⟨n, by rw [pk_us], hn⟩
    · rw [pk_un hne]
      exact hf _ _ hw
  case bastore =>
    simp only [xv_mem] at h
    obtain ⟨a, q, k, o, E, v, y, x, rest, hset, rfl, rfl, rfl, hr, ho0, hE, he, hfit, hy, hin1, rfl⟩ := xs_ast hD (by decide) h hs hm
    obtain ⟨cA, ty, f, ht, rfl, hf⟩ := xr_e_int he (Or.inr ho0)
    obtain ⟨c0, ht0⟩ := hY.2.2.1
    rw [ho0] at ht
    cases Option.some.inj (ht.symm.trans ht0)
    rcases v with va | va | (_ | va) <;> first | (simp only [xv_fit, Bool.false_eq_true] at hfit; done) | skip
    obtain ⟨n, rfl, hn⟩ := hy
    have hnar : vp_nar .boolean n = n := by
      rcases hD.2.2.2.2.2.2.2.2.2.2.2 va n hfit hn with rfl | rfl
      · rfl
      · rfl
    refine va_zast hx hb hK hP hD0 hS a 2 hE ht0 hin1 hdg (fun H1 locs1 hP1 hD1 hS1 => k0 _ _ _ _ (hset _ ?_) hP1 hD1 hS1 hr)
    refine Or.inr ⟨_, _, by show tys[o.1]? = _; rw [ho0]; exact ht0, Or.inl ⟨Or.inr ho0, _, by show _ = Sum.inl (_, (List.set _ _ _).length, _); rw [List.length_set], fun j w hw => ?_⟩⟩
    rcases xr_set hw with ⟨rfl, rfl⟩ | ⟨hne, hw⟩
    · exact ⟨n, by rw [pk_us, hnar], hn⟩
    · rw [pk_un hne]
      exact hf _ _ hw
  case lastore =>
    simp only [xv_mem] at h
    obtain ⟨a, q, k, o, E, v, y, x, rest, hset, rfl, rfl, rfl, hr, ho0, hE, he, hfit, hy, hin1, rfl⟩ := xs_ast hD (by decide) h hs hm
    obtain ⟨cA, ty, f, ht, rfl, hf⟩ := xr_e_long he ho0
    obtain ⟨c0, ht0⟩ := hY.2.1
    rw [ho0] at ht
    cases Option.some.inj (ht.symm.trans ht0)
    rcases v with va | va | (_ | va) <;> first | (simp only [xv_fit, Bool.false_eq_true] at hfit; done) | skip
    obtain ⟨n, rfl, hn⟩ := hy
    refine va_last hx hb hK hP hD0 hS a 1 hE ht0 hin1 hdg (fun H1 locs1 hP1 hD1 hS1 => k0 _ _ _ _ (hset _ ?_) hP1 hD1 hS1 hr)
    refine Or.inr ⟨_, _, by show tys[o.1]? = _; rw [ho0]; exact ht0, Or.inr (Or.inl ⟨ho0, _, by show _ = Sum.inl (_, (List.set _ _ _).length, _); rw [List.length_set], fun j w hw => ?_⟩)⟩
    rcases xr_set hw with ⟨rfl, rfl⟩ | ⟨hne, hw⟩
    · exact ⟨n, by rw [pk_uLs], hn⟩
    · rw [pk_uLn hne]
      exact hf _ _ hw
  case aastore =>
    simp only [xv_mem] at h
    split at h
    · rename_i v i a S1
      obtain ⟨_, r0, rfl, ⟨qv, hqv, rfl⟩, _, r1, rfl, ⟨x, rfl, hx1⟩, _, r2, rfl, ⟨q, hq, rfl⟩, hr⟩ := hs
      split at h
      · rename_i o ov ho hov
        split at h
        · rename_i ci hat
          cases h1 : Nat.ble 4 o.1 <;> simp only [h1, Bool.true_and, Bool.false_and, cond_true, cond_false] at h
          · cases h
          cases h2 : Nat.blt o.1 7 <;> simp only [h2, Bool.true_and, Bool.false_and, cond_true, cond_false] at h
          · cases h
          cases h3 : Nat.beq ov.1 (8 + ci) <;> simp only [h3, cond_true, cond_false] at h
          · cases h
          split at h
          · rename_i k hk
            obtain ⟨rfl, rfl, rfl, rfl⟩ := by simpa using h
            have g1 := Nat.le_of_ble_eq_true h1
            have g2 : o.1 < 7 := Nat.le_of_ble_eq_true h2
            obtain ⟨b, E, hE, he, hset⟩ := xr_m_at hm ho hq (by omega) (by omega)
            obtain ⟨bv, Ev, hEv, hev, -⟩ := xr_m_at hm hov hqv (by have := Nat.eq_of_beq_eq_true h3; omega) (by have := Nat.eq_of_beq_eq_true h3; omega)
            obtain ⟨fs, rfl, -⟩ := xr_e_obj hev (Nat.eq_of_beq_eq_true h3)
            obtain ⟨cA, ty, f, ht, rfl, hf⟩ := xr_e_ref he ⟨g1, g2⟩
            obtain ⟨-, hin1, rfl, -⟩ := xs_ix hD hk hx1
            obtain ⟨r, hr1, -⟩ := hP bv _ hEv
            obtain ⟨C, T, N⟩ := r
            obtain ⟨c0, ht0⟩ := hY.2.2.2.1 _ _ _ _ _ hat hr1
            rw [show 4 + (o.1 - 4) = o.1 by omega] at ht0
            cases Option.some.inj (ht.symm.trans ht0)
            refine va_astq hx hb hK hP hD0 hS b o.1 bv ci hE ht0 hEv hr1 hin1 hdg (fun H1 locs1 hP1 hD1 hS1 => k0 _ _ _ _ (hset _ _ ?_) hP1 hD1 hS1 hr)
            refine Or.inr ⟨_, _, ht0, Or.inr (Or.inr ⟨⟨g1, g2⟩, _, by show _ = Sum.inl (_, (List.set _ _ _).length, _); rw [List.length_set], fun j w hw => ?_⟩)⟩
            rcases xr_set hw with ⟨rfl, rfl⟩ | ⟨hne, hw⟩
            · exact ⟨qv, hqv, by simp [va_up, va_rf]⟩
            · have := hf _ _ hw
              simpa [va_up, hne] using this
          · cases h
        · cases h
      · cases h
    · cases h
end XSO
