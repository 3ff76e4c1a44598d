theorem xl_l_both {α : Type} {f : α → α → Bool} : ∀ {l k : List α}, xl_l f l k = true → ∀ i : Nat, (l[i]? = none ∧ k[i]? = none) ∨ ∃ a b, l[i]? = some a ∧ k[i]? = some b ∧ f a b = true
  | [], [], _, i => Or.inl ⟨by simp, by simp⟩
  | a :: l, b :: k, h, i => by
    obtain ⟨h1, h2⟩ := Bool.and_eq_true_iff.mp h
    cases i with
    | zero => exact Or.inr ⟨a, b, rfl, rfl, h1⟩
    | succ i =>
      rw [List.getElem?_cons_succ, List.getElem?_cons_succ]
      exact xl_l_both h2 i
theorem xl_T_at {T T' : xf_T xd_V} (h : xl_T T T' = true) (a : Nat) : (xf_at T a = none ∧ xf_at T' a = none) ∨ ∃ o o', xf_at T a = some o ∧ xf_at T' a = some o' ∧ xl_O o o' = true := by
  unfold xf_at
  rcases xl_l_both h (a / 16) with ⟨h1, h2⟩ | ⟨c, c', h1, h2, h3⟩
  · rw [h1, h2]; exact Or.inl ⟨rfl, rfl⟩
  · rw [h1, h2]
    dsimp only
    rcases xl_l_both h3 (a % 16) with ⟨g1, g2⟩ | ⟨o, o', g1, g2, g3⟩
    · rw [g1, g2]; exact Or.inl ⟨rfl, rfl⟩
    · rw [g1, g2]
      dsimp only
      cases o with
      | none =>
        cases o' with
        | none => exact Or.inl ⟨rfl, rfl⟩
        | some b => cases g3
      | some a =>
        cases o' with
        | none => cases g3
        | some b => exact Or.inr ⟨a, b, rfl, rfl, g3⟩
theorem xl_T_P {n : Nat} {T T' : xf_T xd_V} {M : xv_M xd_V} (h : xl_T T T' = true) (hR : xf_R n T M) : xl_P M (xf_ls n T') := by
  refine ⟨by rw [hR.1]; simp [xf_ls], fun k o' hk => ?_⟩
  unfold xf_ls at hk
  rw [List.getElem?_map] at hk
  have hkn : k < n := by
    cases hr : (List.range n)[k]? with
    | none => rw [hr] at hk; cases hk
    | some q => have := (List.getElem?_eq_some_iff.mp hr).1; rw [List.length_range] at this; exact this
  rw [List.getElem?_range hkn, Option.map_some] at hk
  have hl : k < M.length := by rw [hR.1]; exact hkn
  rcases xl_T_at h k with ⟨h1, -⟩ | ⟨o, o2, h1, h2, h3⟩
  · rw [hR.2 k, List.getElem?_eq_getElem hl] at h1; cases h1
  · rw [h2] at hk
    cases Option.some.inj hk
    exact ⟨o, by rw [← hR.2 k]; exact h1, h3⟩
def xl_is (L : xv_L xd_V) (ts : Nat) (lo hi : Int) : Bool := match L[ts]? with
  | some (some (.inl (.inr q))) => xd_eqx q.1 lo && xd_eqx q.2 hi
  | _ => false
theorem xl_is_eq {L : xv_L xd_V} {ts : Nat} {lo hi : Int} (h : xl_is L ts lo hi = true) : L[ts]? = some (some (.inl (.inr (lo, hi)))) := by
  unfold xl_is at h
  split at h
  · rename_i q hq
    obtain ⟨h1, h2⟩ := Bool.and_eq_true_iff.mp h
    obtain ⟨a, b⟩ := q
    have e1 : a = lo := xd_eqx_eq h1
    have e2 : b = hi := xd_eqx_eq h2
    rw [hq, e1, e2]
  · cases h
/-- the loop from its head (at h) on, its bound (the local ts) between lo and hi: if it is lo, the method ends with less than (np, Tp) says; if it is more, the head is met again -/
noncomputable def xl_ch (F FS : List (Nat × xf_F xd_V)) (call : xf_K xd_V) (fuel h ts : Nat) (hi : Int) (np : Nat) (Tp : xf_T xd_V) (N : Nat) : Int → xv_L xd_V → Nat → xf_T xd_V → Nat → Nat → Bool :=
  Nat.rec (motive := fun _ => Int → xv_L xd_V → Nat → xf_T xd_V → Nat → Nat → Bool) (fun _ _ _ _ _ _ => false)
    (fun _ ih lo L n T c s => (match xf_lp F call fuel (xf_to F h) (L.set ts (some (.inl (.inl lo)))) [] n T c s with
        | some (.inl (none, n', T')) => Nat.beq n' np && xl_T T' Tp
        | _ => false) && (bif xd_le hi lo then true else xd_fi (Int.add lo 1) (fun l1 => match xl_seg F FS call fuel h (L.set ts (some (.inl (.inr (l1, hi))))) [] n T c s with
        | some (.inr (L', [], (n', T'), c', s')) => xl_is L' ts l1 hi && ih l1 L' n' T' c' s'
        | _ => false))) N
section XL3
variable {l : Launch} {D : xv_D xd_V} {fv : xf_fv xd_V} {Dg : va_G} {cl : List vw_C} {tys : List (ClassId × FieldType)} {at_ : List Nat} {nest : List (String × Nat × MethodName × String)} {tb : List Jvm.Cond} {ct : List (List (FieldType × Bool))} {ms : List xv_N} {ys : List xm_Z} {kx : xk_C} {kcc : ByteArray}
set_option maxHeartbeats 4000000 in
theorem xl_ch_ok (hfv : ∀ (r : xd_V) (k : xd_V → Option (xf_P xd_V)), fv r k = k r) (hD : xv_ok D xd_g) (hall : xc_all tb nest cl ct at_ kx.1 kx.2.2.2.1 kcc ms ys) (hchar : xk_Ch l tb kcc kx) (hY : xc_tys cl at_ tys) {d : Nat} {call : xf_K xd_V} {call' : Nat → List (xv_V xd_V) → xv_M xd_V → Option (xv_R xd_V)} (hcall : ∀ (j : Nat) (as : List (xv_V xd_V)) (n : Nat) (T : xf_T xd_V) (v : Option (xv_V xd_V)) (n' : Nat) (T' : xf_T xd_V), call j as n T = some (v, n', T') → ∀ M, xf_R n T M → ∃ M', call' j as M = some (v, M') ∧ xf_R n' T' M') (hcon : ∀ (j : Nat) (as : List (xv_V xd_V)) (M : xv_M xd_V) (r : xv_R xd_V), call' j as M = some r → xm_Con l xd_g tys Dg cl at_ nest kx tb ms ys d j as M r)
    {y : xv_N} {z : xm_Z} {p : Program} {e : Env} {R : Room} {s : State} {m : MethodId} {args : Array Value} {below : List Frame} {meth : Method} {c : Code} {A : Nat → Prop} {φ0 : List Nat} (hfix : xw_fix Dg cl tys at_ nest kx tb ct ys d y z p R s m args meth c A) (hkF : xk_F kx φ0) (hret : meth.sig.returnType = z.2.2) (hlocks : meth.locks = false)
    {h ts fuel np : Nat} {hi : Int} {Tp : xf_T xd_V} (h0 : ¬ h = 100000) (hw : xf_wf y.2.2.2 = true) {q : xv_I} {pre cs : List xv_I} (hq : y.2.2.2 = pre ++ q :: cs) (hh : q.1 = h) :
    ∀ (N : Nat) (lo : Int) (L : xv_L xd_V) (n : Nat) (T : xf_T xd_V) (cc ss : Nat), xl_ch (y.2.2.2.map (xf_mk D fv ct at_ kx.1 ms y 100000)) (y.2.2.2.map (xf_mk D fv ct at_ kx.1 ms y h)) call fuel h ts hi np Tp N lo L n T cc ss = true → xl_is L ts lo hi = true → lo ≤ hi → ∀ M, xf_R n T M →
      xw_st p l e R s m args below meth c (MQ below (xm_Q (xk_c xd_g kx) xd_g tys Dg cl (none, xf_ls np Tp) φ0 A) args s y.2.2.1.1 y.2.2.1.2 A) xd_g Dg cl tys kx A φ0 y h L [] M cc ss := by
  have et : xv_to y.2.2.2 h = q :: cs := by rw [← hh, hq]; exact xf_to_suf (by rw [← hq]; exact hw)
  have hsub : ∀ x ∈ q :: cs, x ∈ y.2.2.2 := fun x hx => by rw [hq]; exact List.mem_append_right _ hx
  intro N
  induction N with
  | zero => intro lo L n T cc ss h9; cases h9
  | succ N ih =>
    intro lo L n T cc ss h9 his hlh M hR hc1 hc2 t ws H locs ls st hm hP hD0 hS hl hs
    have h9 : ((match xf_lp (y.2.2.2.map (xf_mk D fv ct at_ kx.1 ms y 100000)) call fuel (xf_to (y.2.2.2.map (xf_mk D fv ct at_ kx.1 ms y 100000)) h) (L.set ts (some (.inl (.inl lo)))) [] n T cc ss with
        | some (.inl (none, n', T')) => Nat.beq n' np && xl_T T' Tp
        | _ => false) && (bif xd_le hi lo then true else xd_fi (Int.add lo 1) (fun l1 => match xl_seg (y.2.2.2.map (xf_mk D fv ct at_ kx.1 ms y 100000)) (y.2.2.2.map (xf_mk D fv ct at_ kx.1 ms y h)) call fuel h (L.set ts (some (.inl (.inr (l1, hi))))) [] n T cc ss with
        | some (.inr (L', [], (n', T'), c', s')) => xl_is L' ts l1 hi && xl_ch (y.2.2.2.map (xf_mk D fv ct at_ kx.1 ms y 100000)) (y.2.2.2.map (xf_mk D fv ct at_ kx.1 ms y h)) call fuel h ts hi np Tp N l1 L' n' T' c' s'
        | _ => false))) = true := h9
    obtain ⟨g1, g2⟩ := Bool.and_eq_true_iff.mp h9
    have hts := xl_is_eq his
    obtain ⟨x, hx, n0, rfl, hg⟩ := xr_l_at hl hts
    obtain ⟨b1, b2⟩ := hg.1 ((xd_le_iff _ _).mpr hlh)
    have hval : ∀ x' : Int32, ls[ts]? = some (.val (.int x')) → x' = n0 := fun x' h2 => by
      have h3 := Option.some.inj (h2.symm.trans hx)
      cases h3
      rfl
    by_cases e1 : n0.toInt = lo
    · have hl' := xl_set (v' := .inl lo) hl hts (fun x' _ h2 => by rw [hval x' h2]; exact e1)
      rw [xf_to_map, et] at g1
      split at g1
      · rename_i n' T' hrun
        obtain ⟨k1, k2⟩ := Bool.and_eq_true_iff.mp g1
        have hn' := Nat.eq_of_beq_eq_true k1
        subst hn'
        obtain ⟨bb, hb1, hb2⟩ := xf_lp_ok (D := D) (fv := fv) (ct := ct) (at_ := at_) (sct := kx.1) (ms := ms) hfv hcall (stop := 100000) hw fuel pre cs q hq (by rw [hh]; exact h0) _ _ _ _ _ _ _ ⟨hc1, hc2⟩ hrun M hR
        rcases hb2 with ⟨v1, n1, T1, M1, e5, rfl, hR1⟩ | ⟨_, _, _, _, _, _, _, e5, _⟩
        · have e6 := Sum.inl.inj e5
          cases e6
          rw [hh] at hb1
          refine xs_lp hD hall hchar hY hcon hfix hkF (fun q' hq' i pc L S cells slots k3 k4 => ?_) (fun q' hq' => by cases hq') fuel h (q :: cs) _ _ _ cc ss hb1 hsub hc1 hc2 t ws H locs ls st hm hP hD0 hS hl' hs
          cases hq'
          intro hc1 hc2 t ws H locs ls st hm hP hD0 hS hl hs
          obtain ⟨hx2, hb2, -, -, -, -, -, -, -, -, hbod⟩ := hfix
          exact xs_end hD hx2 hb2 (by rw [hret]; exact hbod.1.symm) hlocks k3 k4 (xl_m (xl_T_P k2 hR1) hm) hP hD0 hS hs hc1 hc2
        · cases e5
      · cases g1
    · have hlt : lo < n0.toInt := by omega
      have hf : xd_le hi lo = false := (xd_le_false _ _).mpr (by omega)
      rw [hf, cond_false, xd_fi_eq] at g2
      have hl' := xl_set (v' := .inr (Int.add lo 1, hi)) hl hts (fun x' _ h2 => by
        rw [hval x' h2]
        have e7 : Int.add lo 1 = lo + 1 := rfl
        exact ⟨fun _ => ⟨by show Int.add lo 1 ≤ _; omega, b2⟩, fun q9 => by
          have q9 : xd_le (Int.add lo 1) hi = false := q9
          have := (xd_le_false _ _).mp q9
          omega⟩)
      split at g2
      · rename_i L' n' T' c' s' hrun
        obtain ⟨k1, k2⟩ := Bool.and_eq_true_iff.mp g2
        obtain ⟨bb, hb1, hb2⟩ := xl_seg_ok (D := D) (fv := fv) (ct := ct) (at_ := at_) (sct := kx.1) (ms := ms) hfv hcall h0 hw hq hh fuel _ _ _ _ _ _ _ ⟨hc1, hc2⟩ hrun M hR
        rcases hb2 with ⟨_, _, _, _, e5, _⟩ | ⟨L2, S2, n2, T2, c2, s2, M2, e5, rfl, hR2⟩
        · cases e5
        · cases e5
          refine xs_lp hD hall hchar hY hcon hfix hkF (fun q' hq' => by cases hq') (fun q' hq' => ?_) (fuel + 1) h (q :: cs) _ _ _ cc ss hb1 hsub hc1 hc2 t ws H locs ls st hm hP hD0 hS hl' hs
          cases hq'
          exact ih (Int.add lo 1) _ _ _ _ _ k2 k1 (by show lo + 1 ≤ hi; omega) M2 hR2
      · cases g2
end XL3
