/-! THE LAW over the machine of numbers -/
section ZSR
variable {l : Launch} {Dg : va_G} {cl : List vw_C} {tys : List (ClassId × FieldType)} {at_ : List Nat} {nest : List (String × Nat × MethodName × String)} {tb : List Jvm.Cond} {ct : List (List (FieldType × Bool))} {ms : List xv_N} {ys : List xm_Z} {kx : xk_C} {kcc : ByteArray}
variable {T : zu_T} {kd : List Nat}
/-- what a region runs, the method does -/
theorem zs_rega (hall : xc_all tb nest cl ct at_ kx.1 kx.2.2.2.1 kcc ms ys) (hY : xc_tys cl at_ tys) (hmx : ∀ (j : Nat) (z : xv_N), ms[j]? = some z → z.2.1.2.1 ≤ 12) (hwf : zu_wf T kd) (hT1 : T.2.1 = ct) (hT2 : T.2.2.1 = ms) (hg : zs_G cl kx kd tb ys)
    {y : xv_N} {z : xm_Z} {p : Program} {e : Env} {R : Room} {s : State} {m : MethodId} {args : Array Value} {below : List Frame} {meth : Method} {c : Code} {A : Nat → Prop} {Q : State → Prop} {φ0 : List Nat} {d : Nat} (hfix : xn_fix Dg cl tys at_ nest kx tb ct ys d y z p R s m args meth c A) (hkF : xk_F kx φ0) {ex : zu_I} {r : zu_R} {cells slots : Nat}
    (hex : ∀ (pc : Nat) (L S : List zu_v) (σ : zu_m), ex pc L S σ = some r → zu_okL kd L → zu_okS kd S → xw_st p l e R s m args below meth c Q zc_g Dg cl tys kx A φ0 y pc (L.map zu_xl) (S.map zu_x) (zu_emb T kd σ) cells slots)
    (hfin : ∀ (i : Instr) (pc : Nat) (L : xv_L Int) (S : List (xv_V Int)), xv_end zc_D y.2.1.2.2.1 S i = some (zu_rv y.2.1.2.2.1 r.1) → decode z.2.1 pc = .ok (i, xv_len i) → xw_st p l e R s m args below meth c Q zc_g Dg cl tys kx A φ0 y pc L S (zu_emb T kd r.2) cells slots) (stops : List Nat) :
    ∀ (n pc : Nat) (L S : List zu_v) (σ : zu_m), zu_rega T (zu_call T) ex d y stops n pc L S σ = some r → zu_okL kd L → zu_okS kd S → xw_st p l e R s m args below meth c Q zc_g Dg cl tys kx A φ0 y pc (L.map zu_xl) (S.map zu_x) (zu_emb T kd σ) cells slots := by
  intro n
  induction n with
  | zero => exact fun pc L S σ h hL hS => hex pc L S σ h hL hS
  | succ n ih =>
    intro pc L S σ h hL hS
    have h : zu_nrm L (fun L => zu_step T (zu_call T) (fun pc L S σ => bif stops.any (Nat.beq pc) then ex pc L S σ else zu_rega T (zu_call T) ex d y stops n pc L S σ) y d pc L S σ) = some r := h
    rw [zu_nrm_eq] at h
    refine zs_step hall hY hmx hwf hT1 hT2 hg (c0 := zu_call T) (fun j as σ r d y h hd hy hok hcat => zs_call hall hY hmx hwf hT1 hT2 hg h hd hy hok hcat) hfix hkF h hL hS (fun pc L S σ h1 h2 h3 => ?_) hfin
    cases hs : stops.any (Nat.beq pc) with
    | true => rw [hs] at h1; exact hex pc L S σ h1 h2 h3
    | false => rw [hs] at h1; exact ih pc L S σ h1 h2 h3
end ZSR
theorem zt_hmx : ∀ (j : Nat) (z : xv_N), zt_ms[j]? = some z → z.2.1.2.1 ≤ 12 := fun j z h => by
  have h1 : zt_ms.all (fun z => Nat.ble z.2.1.2.1 12) = true := by decide +kernel
  exact Nat.le_of_ble_eq_true (List.all_eq_true.mp h1 z (List.mem_of_getElem? h))
theorem zt_zsG (ad adV : Nat → Nat) (L : Nat) (xs : Nat → Int32) : zs_G zt_cl (zt_kx ad adV L xs) zt_kd zt_tb zt_ys :=
  ⟨⟨⟨_, _, rfl⟩, rfl, List.mem_cons_of_mem _ List.mem_cons_self⟩, zt_wy312_tb _ List.mem_cons_self,
   fun z h => by cases Option.some.inj ((show zt_ys[312]? = some zt_z312 from rfl).symm.trans h); exact ⟨rfl, zt_wcd_tb _ (List.mem_of_getElem? (i := 312) rfl)⟩,
   fun z h => by cases Option.some.inj ((show zt_ys[313]? = some zt_z313 from rfl).symm.trans h); exact ⟨rfl, zt_wcd_tb _ (List.mem_of_getElem? (i := 313) rfl)⟩,
   fun z h => by cases Option.some.inj ((show zt_ys[314]? = some zt_z314 from rfl).symm.trans h); exact ⟨rfl, zt_wcd_tb _ (List.mem_of_getElem? (i := 314) rfl)⟩,
   fun z h => by cases Option.some.inj ((show zt_ys[315]? = some zt_z315 from rfl).symm.trans h); exact ⟨rfl, zt_wcd_tb _ (List.mem_of_getElem? (i := 315) rfl)⟩,
   fun z h => by cases Option.some.inj ((show zt_ys[316]? = some zt_z316 from rfl).symm.trans h); exact ⟨rfl, zt_wcd_tb _ (List.mem_of_getElem? (i := 316) rfl)⟩⟩
/-! the kinds are right -/
def zt_kn1 : List zu_k := (zt_kn 0).tail
theorem zt_kn_cons (n : Nat) : zt_kn n = ((3, n), [(0, 0, 0)]) :: zt_kn1 := rfl
def zwf_p (kd : List Nat) (a p : Nat) (f : zu_f) (tag : Nat) : Bool := !(Nat.beq f.1 2) && (!(Nat.beq tag 0 || Nat.beq tag 2 || Nat.beq tag 3) || Nat.beq f.1 0) && (!(Nat.beq tag 1) || Nat.beq f.1 1) && (Nat.ble f.1 2 || (decide (0 ≤ zu_rd f (a : Int) (p : Int) (fun _ _ => 0)) && (match kd[(zu_rd f (a : Int) (p : Int) (fun _ _ => 0)).toNat]? with
  | some t => Nat.beq (t + 3) f.1
  | none => false)))
def zwf_a (kd : List Nat) (a : Nat) (q : zu_k) : Bool := !(Nat.beq q.1.1 7) && (bif Nat.ble 8 q.1.1 then (List.range q.2.length).all (fun p => match q.2[p]? with
  | some f => zwf_p kd a p f q.1.1
  | none => true) else (match q.2 with
  | [f] => bif Nat.ble f.1 2 then zwf_p kd a 0 f q.1.1 else (List.range q.1.2).all (fun p => zwf_p kd a p f q.1.1)
  | _ => false))
def zwf (kd : List Nat) : Bool := (List.range kd.length).all (fun a => match kd[a]? with
  | some 0 => true
  | some (k + 1) => (match zt_kn1[k]? with
    | some q => zwf_a kd a q
    | none => true)
  | none => true)
theorem zwf_pok {kd : List Nat} {a p : Nat} {f : zu_f} {tag : Nat} (h : zwf_p kd a p f tag = true) : f.1 ≠ 2 ∧ ((tag = 0 ∨ tag = 2 ∨ tag = 3) → f.1 = 0) ∧ (tag = 1 → f.1 = 1) ∧ ∀ (t : Nat) (σ : zu_m), f.1 = t + 3 → 0 ≤ zu_rd f (a : Int) (p : Int) σ ∧ kd[(zu_rd f (a : Int) (p : Int) σ).toNat]? = some t := by
  unfold zwf_p at h
  simp only [Bool.and_eq_true] at h
  obtain ⟨⟨⟨h1, h2⟩, h3⟩, h4⟩ := h
  refine ⟨fun e => ?_, fun e => ?_, fun e => ?_, fun t σ e => ?_⟩
  · rw [e] at h1; cases h1
  · have : (Nat.beq tag 0 || Nat.beq tag 2 || Nat.beq tag 3) = true := by rcases e with rfl | rfl | rfl <;> rfl
    rw [this] at h2
    exact Nat.eq_of_beq_eq_true h2
  · subst e
    exact Nat.eq_of_beq_eq_true h3
  · have hb : Nat.ble f.1 2 = false := by rw [e]; rfl
    rw [hb, Bool.false_or, Bool.and_eq_true] at h4
    have e0 : zu_rd f (a : Int) (p : Int) σ = zu_rd f (a : Int) (p : Int) (fun _ _ => 0) := by
      unfold zu_rd
      rw [e]
      rfl
    rw [e0]
    refine ⟨of_decide_eq_true h4.1, ?_⟩
    have h5 := h4.2
    cases hk : kd[(zu_rd f (a : Int) (p : Int) (fun _ _ => 0)).toNat]? with
    | none => rw [hk] at h5; cases h5
    | some u =>
      rw [hk] at h5
      have := Nat.eq_of_beq_eq_true h5
      rw [e] at this
      rw [show u = t by omega]
theorem zwf_p0 {kd : List Nat} {a p : Nat} {f : zu_f} {tag : Nat} (hf : Nat.ble f.1 2 = true) (h : zwf_p kd a 0 f tag = true) : zwf_p kd a p f tag = true := by
  unfold zwf_p at h ⊢
  rw [hf, Bool.true_or] at h ⊢
  exact h
set_option maxRecDepth 100000 in
theorem zt_zwf : zwf zt_kd = true := by decide +kernel
theorem zt_wf (n : Nat) : zu_wf (zt_T n) zt_kd := fun a k q h1 h2 => by
  have h2 : (zt_kn n)[k]? = some q := h2
  cases k with
  | zero =>
    rw [zt_kn_cons] at h2
    cases Option.some.inj (show some ((3, n), [(0, 0, 0)]) = some q from h2)
    refine ⟨⟨(show (3 : Nat) ≠ 7 by decide), Or.inr ⟨_, rfl⟩⟩, fun p f hf => ?_⟩
    have hf : (List.replicate n ((0, 0, 0) : zu_f))[p]? = some f := hf
    have := List.eq_of_mem_replicate (List.mem_of_getElem? hf)
    subst this
    exact ⟨(show (0 : Nat) ≠ 2 by decide), fun _ => rfl, fun e => absurd (show (3 : Nat) = 1 from e) (by decide), fun t σ e => absurd (show (0 : Nat) = t + 3 from e) (by omega)⟩
  | succ k =>
    rw [zt_kn_cons] at h2
    have h2 : zt_kn1[k]? = some q := h2
    have ha : a < zt_kd.length := (List.getElem?_eq_some_iff.mp h1).1
    have h3 := List.all_eq_true.mp zt_zwf a (List.mem_range.mpr ha)
    rw [h1] at h3
    simp only [h2] at h3
    unfold zwf_a at h3
    obtain ⟨h4, h5⟩ := Bool.and_eq_true_iff.mp h3
    have h7 : q.1.1 ≠ 7 := fun e => by rw [e] at h4; cases h4
    cases h8 : Nat.ble 8 q.1.1 with
    | true =>
      rw [h8, cond_true] at h5
      refine ⟨⟨h7, Or.inl (Nat.le_of_ble_eq_true h8)⟩, fun p f hf => ?_⟩
      have hf : q.2[p]? = some f := by
        have e : zu_pl q = q.2 := by unfold zu_pl; rw [h8]; rfl
        rw [← e]; exact hf
      have h6 := List.all_eq_true.mp h5 p (List.mem_range.mpr (List.getElem?_eq_some_iff.mp hf).1)
      rw [hf] at h6
      exact zwf_pok h6
    | false =>
      rw [h8, cond_false] at h5
      obtain ⟨⟨tg, ln⟩, fs⟩ := q
      rcases fs with _ | ⟨f0, _ | ⟨f1, fs⟩⟩
      · cases h5
      · refine ⟨⟨h7, Or.inr ⟨_, rfl⟩⟩, fun p f hf => ?_⟩
        have hf : (List.replicate ln f0)[p]? = some f := by
          have e : zu_pl ((tg, ln), [f0]) = List.replicate ln f0 := by unfold zu_pl; rw [h8]; rfl
          rw [← e]; exact hf
        have e := List.eq_of_mem_replicate (List.mem_of_getElem? hf)
        subst e
        have hp : p < ln := by
          have := (List.getElem?_eq_some_iff.mp hf).1
          rwa [List.length_replicate] at this
        cases hb : Nat.ble f.1 2 with
        | true =>
          simp only [hb, cond_true] at h5
          exact zwf_pok (zwf_p0 hb h5)
        | false =>
          simp only [hb, cond_false] at h5
          exact zwf_pok (List.all_eq_true.mp h5 p (List.mem_range.mpr hp))
      · cases h5
/-! the law's own state -/
section ZTL
variable {p : Program} {l : Launch} {e : Env} {s : State} {m : MethodId} {below : List Frame} {meth : Method} {c : Code} {b L : Nat} {xs : Nat → Int32} {Dg : va_G} {tys : List (ClassId × FieldType)} {ad adV : Nat → Nat}
def zt_K (p : Program) (l : Launch) (e : Env) (s : State) (m : MethodId) (below : List Frame) (meth : Method) (c : Code) (b L : Nat) (xs : Nat → Int32) (Dg : va_G) (tys : List (ClassId × FieldType)) (ad adV : Nat → Nat) (cells slots pc : Nat) (Lz Sz : List zu_v) (σ : zu_m) : Prop :=
  zu_okL zt_kd Lz → zu_okS zt_kd Sz → xw_st p l e room_1 s m #[Value.ref b] below meth c (lw_Z below #[Value.ref b] s) zc_g Dg zt_cl tys (zt_kx ad adV L xs) (fun q => s.heap.size ≤ q) [ad 0, b, ad 2] zt_law pc (Lz.map zu_xl) (Sz.map zu_x) (zu_emb (zt_T L) zt_kd σ) cells slots
theorem zt_lfix (C0 : lw_At p s m meth c b L xs) (hname : meth.name = "law") (hK : xm_K Dg zt_cl tys zt_at zt_nest (zt_kx ad adV L xs) s) (hkw : xk_W (zt_kx ad adV L xs) (fun q => s.heap.size ≤ q) s s.heap) : xn_fix Dg zt_cl tys zt_at zt_nest (zt_kx ad adV L xs) zt_tb zt_ct zt_ys 11 zt_law zt_zlaw p room_1 s m #[Value.ref b] meth c (fun q => s.heap.size ≤ q) := by
  obtain ⟨hx, hb, hr, hml, hown, hts, hX, hbl, hlk, hgv⟩ := C0
  have htb : ∀ w ∈ zt_tb, w.before #[Value.ref b] s = true := fun w hw => hts w (zt_tb_ok w hw).1
  exact ⟨hx, hb, hml, hown, ⟨.arrayClass .int, fun w hw => (List.mem_cons.mp hw).elim (fun e => by rw [e]; exact htb _ zt_arr.1) (htb w)⟩, hK, hkw, ⟨by decide, by decide, rfl, rfl⟩, fun q hq => hq, hname, zt_lawbod⟩
theorem zt_hkF (had : ad 1 = b) : xk_F (zt_kx ad adV L xs) [ad 0, b, ad 2] := ⟨fun n hn => by
    have hn : n < 1 := hn
    obtain rfl : n = 0 := by omega
    rfl, fun k hk => by
    rcases List.mem_cons.mp (show k ∈ [1, 2] from hk) with rfl | hk
    · show some b = some (ad 1)
      rw [had]
    · obtain rfl := List.mem_singleton.mp hk
      rfl⟩
noncomputable def zt_kex (K : Nat → List zu_v → List zu_v → zu_m → Prop) : zu_I := fun pc Lz Sz σ => @ite _ (K pc Lz Sz σ) (Classical.propDecidable _) (some (1, σ)) none
theorem zw_kex {K : Nat → List zu_v → List zu_v → zu_m → Prop} {pc : Nat} {Lz Sz : List zu_v} {σ : zu_m} (h : K pc Lz Sz σ) : zw (zt_kex K pc Lz Sz σ) (fun v _ => v = 1) := ⟨1, σ, by unfold zt_kex; rw [if_pos h], rfl⟩
theorem zt_endz {S : List (xv_V Int)} {i : Instr} {a : Int} (h : xv_end zc_D 3 S i = some (some (.inl a))) : i = .ireturn ∧ S = [.inl a] := by
  cases i
  all_goals (first | (simp only [xv_end, reduceCtorEq] at h; done) | skip)
  case return_ =>
    simp only [xv_end] at h
    split at h
    · cases h
    · cases h
  case ireturn =>
    simp only [xv_end] at h
    split at h
    · rename_i b
      cases hc : (Nat.beq 3 1 || (Nat.beq 3 3 && zc_D.2.2.2.2.2 b)) <;> simp only [hc, cond_true, cond_false] at h
      · cases h
      · cases Option.some.inj (Option.some.inj h)
        exact ⟨rfl, rfl⟩
    · cases h
  case lreturn =>
    simp only [xv_end] at h
    split at h
    · cases h
    · cases h
/-- a region of the law that comes to 1, or to a state that is good -/
theorem zt_hstep (C0 : lw_At p s m meth c b L xs) (hname : meth.name = "law") (had : ad 1 = b) (hY : xc_tys zt_cl zt_at tys) (hK : xm_K Dg zt_cl tys zt_at zt_nest (zt_kx ad adV L xs) s) (hkw : xk_W (zt_kx ad adV L xs) (fun q => s.heap.size ≤ q) s s.heap) {cells slots : Nat} (stops : List Nat) (n pc : Nat) (Lz Sz : List zu_v) (σ : zu_m)
    (h : zw (zu_rega (zt_T L) (zu_call (zt_T L)) (zt_kex (zt_K p l e s m below meth c b L xs Dg tys ad adV cells slots)) 11 zt_law stops n pc Lz Sz σ) (fun v _ => v = 1)) : zt_K p l e s m below meth c b L xs Dg tys ad adV cells slots pc Lz Sz σ := fun hL hS => by
  have C1 := C0
  obtain ⟨hx, hb, hr, hml, hown, hts, hX, hbl, hlk, hgv⟩ := C1
  obtain ⟨v, σ', h1, rfl⟩ := h
  refine zs_rega zt_all hY zt_hmx (zt_wf L) rfl rfl (zt_zsG ad adV L xs) (zt_lfix C0 hname hK hkw) (zt_hkF had) (r := (1, σ')) (fun pc Lz Sz σ hh h1 h2 => ?_) (fun i pc Lx Sx h1 h2 => ?_) stops n pc Lz Sz σ h1 hL hS
  · unfold zt_kex at hh
    split at hh
    · rename_i hk
      exact hk h1 h2
    · cases hh
  · intro hc1 hc2 t ws H locs ls st hm hP hD0 hS hl hs
    obtain ⟨rfl, rfl⟩ := zt_endz h1
    obtain ⟨x9, r9, rfl, ⟨n9, rfl, hg9⟩, rfl⟩ := hs
    have hg9 : n9.toInt = 1 := hg9
    have e9 : n9 = 1 := Int32.toInt_inj.mp (by rw [hg9]; rfl)
    subst e9
    exact va_forget (fun q hq => hS.2.2 q hq) (W.widen hc1 hc2 (lw_ret hx hb hr hlk h2))
end ZTL
