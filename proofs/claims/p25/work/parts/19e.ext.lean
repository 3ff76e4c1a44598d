/-- WHAT IS KNOWN OF A LOOP's method: entry, the first end (the bound is lo), what is said of the memory then (pw), the check -/
noncomputable def xl_go (F FS : List (Nat × xf_F xd_V)) (maxl h ts fuel : Nat) (call : xf_K xd_V) (pw : xf_T xd_V → Option (xf_T xd_V)) (as : List (xv_V xd_V)) (M : xv_M xd_V) : Option (xv_R xd_V) :=
  xf_tt M 0 xf_T0 (fun T => bif Nat.ble (xv_cats as) maxl then match xf_lp FS call fuel FS (xv_in as maxl) [] M.length T 0 0 with
    | some (.inr (L, [], (n, T), c, s)) => match L[ts]? with
      | some (some (.inl (.inr q))) => match xf_lp F call fuel (xf_to F h) (L.set ts (some (.inl (.inl q.1)))) [] n T c s with
        | some (.inl (none, np, T')) => match pw T' with
          | some Tp => bif xd_le q.1 q.2 && xl_is L ts q.1 q.2 && xl_ch F FS call fuel h ts q.2 np Tp 400 q.1 L n T c s then xf_tt (xf_ls np Tp) 0 xf_T0 (fun _ => some (none, xf_ls np Tp)) else none
          | none => none
        | _ => none
      | _ => none
    | _ => none
  else none)
section XL4
variable {l : Launch} {D : xv_D xd_V} {fv : xf_fv xd_V} {Dg : va_G} {cl : List vw_C} {tys : List (ClassId × FieldType)} {at_ : List Nat} {nest : List (String × Nat × MethodName × String)} {tb : List Jvm.Cond} {ct : List (List (FieldType × Bool))} {ms : List xv_N} {ys : List xm_Z} {kx : xk_C} {kcc : ByteArray}
theorem xl_go_ok (hfv : ∀ (r : xd_V) (k : xd_V → Option (xf_P xd_V)), fv r k = k r) (hD : xv_ok D xd_g) (hall : xc_all tb nest cl ct at_ kx.1 kx.2.2.2.1 kcc ms ys) (hchar : xk_Ch l tb kcc kx) (hY : xc_tys cl at_ tys) {d : Nat} {call : xf_K xd_V} {call' : Nat → List (xv_V xd_V) → xv_M xd_V → Option (xv_R xd_V)} (hcall : ∀ (j : Nat) (as : List (xv_V xd_V)) (n : Nat) (T : xf_T xd_V) (v : Option (xv_V xd_V)) (n' : Nat) (T' : xf_T xd_V), call j as n T = some (v, n', T') → ∀ M, xf_R n T M → ∃ M', call' j as M = some (v, M') ∧ xf_R n' T' M') (hcon : ∀ (j : Nat) (as : List (xv_V xd_V)) (M : xv_M xd_V) (r : xv_R xd_V), call' j as M = some r → xm_Con l xd_g tys Dg cl at_ nest kx tb ms ys d j as M r)
    {j h ts fuel : Nat} {y0 : xv_N} (hy0 : ms[j]? = some y0) (h0 : ¬ h = 100000) (h00 : ¬ 0 = h) (hw : xf_wf y0.2.2.2 = true) {q : xv_I} {pre cs : List xv_I} (hq : y0.2.2.2 = pre ++ q :: cs) (hh : q.1 = h) {i0 : Instr} {cs0 : List xv_I} (hs0 : y0.2.2.2 = (0, i0) :: cs0) {pw : xf_T xd_V → Option (xf_T xd_V)} {as : List (xv_V xd_V)} {M : xv_M xd_V} {r : xv_R xd_V}
    (hgo : xl_go (y0.2.2.2.map (xf_mk D fv ct at_ kx.1 ms y0 100000)) (y0.2.2.2.map (xf_mk D fv ct at_ kx.1 ms y0 h)) y0.2.1.2.1 h ts fuel call pw as M = some r) :
    xm_Con l xd_g tys Dg cl at_ nest kx tb ms ys (d + 1) j as M r := by
  obtain ⟨T, h1, hR⟩ := xf_tt_ok M [] 0 xf_T0 _ r hgo xf_T0_R
  rw [List.nil_append, Nat.zero_add] at hR
  cases hc : Nat.ble (xv_cats as) y0.2.1.2.1 <;> simp only [hc, cond_true, cond_false] at h1
  · cases h1
  split at h1
  · rename_i L n T1 c1 s1 hrun
    split at h1
    · rename_i b hb
      split at h1
      · rename_i np T2 hrun2
        split at h1
        · rename_i Tp hTp
          cases hck : (xd_le b.1 b.2 && xl_is L ts b.1 b.2 && xl_ch (y0.2.2.2.map (xf_mk D fv ct at_ kx.1 ms y0 100000)) (y0.2.2.2.map (xf_mk D fv ct at_ kx.1 ms y0 h)) call fuel h ts b.2 np Tp 400 b.1 L n T1 c1 s1) <;> simp only [hck, cond_true, cond_false] at h1
          · cases h1
          obtain ⟨k1, k2⟩ := Bool.and_eq_true_iff.mp hck
          obtain ⟨k3, k4⟩ := Bool.and_eq_true_iff.mp k1
          obtain ⟨T9, h9, -⟩ := xf_tt_k (γ := Unit) _ _ _ _ _ h1
          cases Option.some.inj h9
          refine xm_of hall (fun y z hy hz => ?_)
          intro p e s m args below meth c A φ0 hfix hkF hret hlocks
          cases Option.some.inj (hy.symm.trans hy0)
          refine ⟨Nat.le_of_ble_eq_true hc, ?_⟩
          have hlp := xf_lp_ok (D := D) (fv := fv) (ct := ct) (at_ := at_) (sct := kx.1) (ms := ms) hfv hcall (stop := h) hw fuel [] cs0 (0, i0) hs0 h00
          rw [← hs0] at hlp
          obtain ⟨bb, hb1, hb2⟩ := hlp _ _ _ _ _ _ _ ⟨Nat.zero_le _, Nat.zero_le _⟩ hrun M hR
          rcases hb2 with ⟨_, _, _, _, e5, _⟩ | ⟨L2, S2, n2, T2, c2, s2, M2, e5, rfl, hR2⟩
          · cases e5
          · cases e5
            refine xs_lp hD hall hchar hY hcon hfix hkF (fun q' hq' => by cases hq') (fun q' hq' => ?_) fuel 0 _ _ _ _ 0 0 hb1 (fun x hx => hx)
            cases hq'
            exact xl_ch_ok hfv hD hall hchar hY hcall hcon hfix hkF hret hlocks h0 hw hq hh 400 b.1 _ _ _ _ _ k2 k4 ((xd_le_iff _ _).mp k3) M2 hR2
        · cases h1
      · cases h1
    · cases h1
  · cases h1
end XL4
theorem xl_bif {α : Type} {b : Bool} {x : Option α} {r : α} (h : (bif b then x else none) = some r) : x = some r := by
  cases b
  · cases h
  · exact h
/-- the same for the fast machine -/
noncomputable def xl_fx (ext : List (xv_V xd_V) → xv_M xd_V → Option (xv_R xd_V)) (as : List (xv_V xd_V)) (n : Nat) (T : xf_T xd_V) : Option (Option (xv_V xd_V) × Nat × xf_T xd_V) := match ext as (xf_ls n T) with
  | some r => xf_tt r.2 0 xf_T0 (fun T' => xf_nat r.2.length (fun m => some (r.1, m, T')))
  | none => none
theorem xl_fx_ok {ext : List (xv_V xd_V) → xv_M xd_V → Option (xv_R xd_V)} {as : List (xv_V xd_V)} {n : Nat} {T : xf_T xd_V} {v : Option (xv_V xd_V)} {n' : Nat} {T' : xf_T xd_V} (h : xl_fx ext as n T = some (v, n', T')) {M : xv_M xd_V} (hR : xf_R n T M) : ∃ M', ext as M = some (v, M') ∧ xf_R n' T' M' := by
  unfold xl_fx at h
  rw [xf_ls_eq hR] at h
  split at h
  · rename_i r hr
    obtain ⟨T1, h1, h2⟩ := xf_tt_ok r.2 [] 0 xf_T0 _ _ h xf_T0_R
    rw [xf_nat_eq] at h1
    cases Option.some.inj h1
    refine ⟨r.2, hr, ?_⟩
    rw [List.nil_append, Nat.zero_add] at h2
    exact h2
  · cases h
theorem xl_fx_none {F FS : List (Nat × xf_F xd_V)} {maxl h ts fuel : Nat} {call : xf_K xd_V} {pw : xf_T xd_V → Option (xf_T xd_V)} {as : List (xv_V xd_V)} {n : Nat} {T : xf_T xd_V} (hn : xl_fx (xl_go F FS maxl h ts fuel call pw) as n T = none) {M : xv_M xd_V} (hR : xf_R n T M) : xl_go F FS maxl h ts fuel call pw as M = none := by
  unfold xl_fx at hn
  rw [xf_ls_eq hR] at hn
  cases hg : xl_go F FS maxl h ts fuel call pw as M with
  | none => rfl
  | some r =>
    rw [hg] at hn
    dsimp only at hn
    obtain ⟨T1, h1, -⟩ := xf_tt_k (γ := Unit) M 0 xf_T0 _ r hg
    have key : ∃ T', xf_tt r.2 0 xf_T0 (fun T' => xf_nat r.2.length (fun m => some (r.1, m, T'))) = some (r.1, r.2.length, T') := by
      cases hc : Nat.ble (xv_cats as) maxl <;> simp only [hc, cond_true, cond_false] at h1
      · cases h1
      split at h1
      · split at h1
        · split at h1
          · split at h1
            · have h1 := xl_bif h1
              obtain ⟨T9, h9, h10⟩ := xf_tt_k (γ := Option (xv_V xd_V) × Nat × xf_T xd_V) _ _ _ _ _ h1
              cases Option.some.inj h9
              exact ⟨T9, by rw [h10, xf_nat_eq]⟩
            · cases h1
          · cases h1
        · cases h1
      · cases h1
    obtain ⟨T', hT'⟩ := key
    rw [hT'] at hn
    cases hn
