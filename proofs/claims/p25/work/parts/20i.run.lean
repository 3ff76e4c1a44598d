section ZUW
variable {l : Launch} {Dg : va_G} {cl : List vw_C} {tys : List (ClassId × FieldType)} {at_ : List Nat} {nest : List (String × Nat × MethodName × String)} {tb : List Jvm.Cond} {ct : List (List (FieldType × Bool))} {ms : List xv_N} {ys : List xm_Z} {kx : xk_C} {kcc : ByteArray}
variable {T : zu_T} {kd : List Nat}
theorem zu_in_map : ∀ {as : List zu_v} {n : Nat}, zu_okS kd as → (zu_in as n).map zu_xl = xv_in (as.map zu_x) n ∧ zu_okL kd (zu_in as n)
  | [], n, _ => ⟨by simp [zu_in, xv_in, zu_xl], fun w hw => by
      have := List.eq_of_mem_replicate (show w ∈ List.replicate n (2, 0) from hw)
      rw [this]
      exact zu_ok_nil⟩
  | (0, v) :: as, n, h => by
    obtain ⟨h1, h2⟩ := zu_in_map (n := n - 1) (zu_okS_tl h)
    refine ⟨?_, fun w hw => ?_⟩
    · show zu_xl (0, v) :: (zu_in as (n - 1)).map zu_xl = _
      rw [h1]
      rfl
    · rcases List.mem_cons.mp (show w ∈ (0, v) :: zu_in as (n - 1) from hw) with rfl | hw
      · exact zu_ok_int v
      · exact h2 w hw
  | (1, v) :: as, n, h => by
    obtain ⟨h1, h2⟩ := zu_in_map (n := n - 2) (zu_okS_tl h)
    refine ⟨?_, fun w hw => ?_⟩
    · show zu_xl (1, v) :: zu_xl (2, 0) :: (zu_in as (n - 2)).map zu_xl = _
      rw [h1]
      rfl
    · rcases List.mem_cons.mp (show w ∈ (1, v) :: (2, 0) :: zu_in as (n - 2) from hw) with rfl | hw
      · exact zu_ok_long v
      · rcases List.mem_cons.mp hw with rfl | hw
        · exact zu_ok_nil
        · exact h2 w hw
  | (2, v) :: as, n, h => absurd rfl (zu_okS_hd h).2
  | (t + 3, v) :: as, n, h => by
    obtain ⟨h1, h2⟩ := zu_in_map (n := n - 1) (zu_okS_tl h)
    refine ⟨?_, fun w hw => ?_⟩
    · show zu_xl (t + 3, v) :: (zu_in as (n - 1)).map zu_xl = _
      rw [h1]
      rfl
    · rcases List.mem_cons.mp (show w ∈ (t + 3, v) :: zu_in as (n - 1) from hw) with rfl | hw
      · exact (zu_okS_hd h).1
      · exact h2 w hw
/-- THE BODY, by its steps -/
theorem zs_lp (hall : xc_all tb nest cl ct at_ kx.1 kx.2.2.2.1 kcc ms ys) (hY : xc_tys cl at_ tys) (hmx : ∀ (j : Nat) (z : xv_N), ms[j]? = some z → z.2.1.2.1 ≤ 12) (hwf : zu_wf T kd) (hT1 : T.2.1 = ct) (hT2 : T.2.2.1 = ms) (hg : zs_G cl kx kd tb ys) {n : Nat}
    (hcall : ∀ m, m < n → ∀ (j : Nat) (as : List zu_v) (σ : zu_m) (r : zu_R) (d : Nat) (y : xv_N), zu_go T m j as σ = some r → T.2.2.2[j]? = some d → ms[j]? = some y → zu_okS kd as → zu_cats as ≤ y.2.1.2.1 → xn_Con l zc_g tys Dg cl at_ nest kx tb ms ys d j (as.map zu_x) (zu_emb T kd σ) (zu_rv y.2.1.2.2.1 r.1, zu_emb T kd r.2))
    {j d : Nat} {y : xv_N} {z : xm_Z} {p : Program} {e : Env} {R : Room} {s : State} {m : MethodId} {args : Array Value} {below : List Frame} {meth : Method} {c : Code} {A : Nat → Prop} {Q : State → Prop} {φ0 : List Nat} (hy : ms[j]? = some y) (hd : T.2.2.2[j]? = some d) (hfix : xn_fix Dg cl tys at_ nest kx tb ct ys d y z p R s m args meth c A) (hkF : xk_F kx φ0) {r : zu_R} {cells slots : Nat}
    (hfin : ∀ (i : Instr) (pc : Nat) (L : xv_L Int) (S : List (xv_V Int)), xv_end zc_D y.2.1.2.2.1 S i = some (zu_rv y.2.1.2.2.1 r.1) → decode z.2.1 pc = .ok (i, xv_len i) → xw_st p l e R s m args below meth c Q zc_g Dg cl tys kx A φ0 y pc L S (zu_emb T kd r.2) cells slots) :
    ∀ (k : Nat), k ≤ n → ∀ (pc : Nat) (L S : List zu_v) (σ : zu_m), zu_lp T k j pc L S σ = some r → zu_okL kd L → zu_okS kd S → xw_st p l e R s m args below meth c Q zc_g Dg cl tys kx A φ0 y pc (L.map zu_xl) (S.map zu_x) (zu_emb T kd σ) cells slots := by
  intro k
  induction k with
  | zero => intro _ pc L S σ h; cases h
  | succ k ih =>
    intro hk pc L S σ h hL hS
    rw [zu_lp_s, hT2, hy, hd] at h
    exact zs_step hall hY hmx hwf hT1 hT2 hg (hcall k hk) hfix hkF h hL hS (fun pc L S σ h h1 h2 => ih (by omega) pc L S σ h h1 h2) hfin
/-- THE CONTRACTS out of the machine of numbers -/
theorem zs_go (hall : xc_all tb nest cl ct at_ kx.1 kx.2.2.2.1 kcc ms ys) (hY : xc_tys cl at_ tys) (hmx : ∀ (j : Nat) (z : xv_N), ms[j]? = some z → z.2.1.2.1 ≤ 12) (hwf : zu_wf T kd) (hT1 : T.2.1 = ct) (hT2 : T.2.2.1 = ms) (hg : zs_G cl kx kd tb ys) :
    ∀ (n : Nat), ∀ m, m < n → ∀ (j : Nat) (as : List zu_v) (σ : zu_m) (r : zu_R) (d : Nat) (y : xv_N), zu_go T m j as σ = some r → T.2.2.2[j]? = some d → ms[j]? = some y → zu_okS kd as → zu_cats as ≤ y.2.1.2.1 → xn_Con l zc_g tys Dg cl at_ nest kx tb ms ys d j (as.map zu_x) (zu_emb T kd σ) (zu_rv y.2.1.2.2.1 r.1, zu_emb T kd r.2) := by
  intro n
  induction n with
  | zero => intro m hm; omega
  | succ n ih =>
    intro m hm j as σ r d y h hd hy hok hcat
    refine xn_of hall (fun y' z hy' hz => ?_)
    intro p e s mm args below meth c A φ0 hfix hkF hret hlocks
    cases Option.some.inj (hy'.symm.trans hy)
    refine ⟨by rw [zu_cats_map (fun w hw => (hok w hw).2)]; exact hcat, ?_⟩
    unfold zu_go at h
    rw [hT2, hy] at h
    obtain ⟨e1, e2⟩ := zu_in_map (n := y.2.1.2.1) hok
    rw [← e1]
    refine zs_lp hall hY hmx hwf hT1 hT2 hg (n := n) ih hy hd hfix hkF (fun i pc L S h1 h2 => ?_) m (by omega) 0 _ [] σ h e2 (fun w hw => by simp at hw)
    intro hc1 hc2 t ws H locs ls st hm hP hD0 hS hl hs
    obtain ⟨hx, hb, -, -, -, -, -, -, -, -, hbod⟩ := hfix
    exact xs_end zc_ok hx hb (by rw [hret]; exact hbod.1.symm) hlocks h1 h2 hm hP hD0 hS hs hc1 hc2
theorem zs_call (hall : xc_all tb nest cl ct at_ kx.1 kx.2.2.2.1 kcc ms ys) (hY : xc_tys cl at_ tys) (hmx : ∀ (j : Nat) (z : xv_N), ms[j]? = some z → z.2.1.2.1 ≤ 12) (hwf : zu_wf T kd) (hT1 : T.2.1 = ct) (hT2 : T.2.2.1 = ms) (hg : zs_G cl kx kd tb ys) {j : Nat} {as : List zu_v} {σ : zu_m} {r : zu_R} {d : Nat} {y : xv_N} (h : zu_call T j as σ = some r) (hd : T.2.2.2[j]? = some d) (hy : ms[j]? = some y) (hok : zu_okS kd as) (hcat : zu_cats as ≤ y.2.1.2.1) :
    xn_Con l zc_g tys Dg cl at_ nest kx tb ms ys d j (as.map zu_x) (zu_emb T kd σ) (zu_rv y.2.1.2.2.1 r.1, zu_emb T kd r.2) := by
  obtain ⟨n, hn⟩ := zu_of_call T h
  exact zs_go hall hY hmx hwf hT1 hT2 hg (n + 1) n (by omega) j as σ r d y hn hd hy hok hcat
end ZUW
