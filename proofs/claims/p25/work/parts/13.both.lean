/-! ONE LOOP FOR BOTH: to the end of the body (.inl), or up to the instruction at stop (.inr) -/
abbrev xv_B (V : Type) : Type := xv_R V ⊕ (xv_L V × List (xv_V V) × xv_M V × Nat × Nat)
noncomputable def xv_lp {V : Type} (D : xv_D V) (ct : List (List (FieldType × Bool))) (at_ : List Nat) (sct : List (List Int32)) (ms : List xv_N) (call : Nat → List (xv_V V) → xv_M V → Option (xv_R V)) (y : xv_N) (stop : Nat) : Nat → Nat → List xv_I → xv_L V → List (xv_V V) → xv_M V → Nat → Nat → Option (xv_B V) :=
  Nat.rec (fun _ _ _ _ _ _ _ => none) (fun _ ih => xv_step D ct at_ sct ms call y (fun r M => some (.inl (r, M))) (fun pc cs L S M c s => bif Nat.beq pc stop then some (.inr (L, S, M, c, s)) else ih pc cs L S M c s))
def xv_un {V : Type} : Option (xv_B V) → Option (xv_R V)
  | some (.inl r) => some r
  | _ => none
noncomputable def xv_rn {V : Type} (D : xv_D V) (ct : List (List (FieldType × Bool))) (at_ : List Nat) (sct : List (List Int32)) (ms : List xv_N) (ext : Nat → Nat → List (xv_V V) → xv_M V → Option (xv_R V)) (fuel : Nat) : Nat → Nat → List (xv_V V) → xv_M V → Option (xv_R V) :=
  Nat.rec (fun _ _ _ => none) (fun d ih j as M => match ext (d + 1) j as M with
    | some r => some r
    | none => match ms[j]? with
      | some y => bif Nat.ble (xv_cats as) y.2.1.2.1 then xv_un (xv_lp D ct at_ sct ms ih y 100000 fuel 0 y.2.2.2 (xv_in as y.2.1.2.1) [] M 0 0) else none
      | none => none)
section XSV
variable {l : Launch} {V : Type} {D : xv_D V} {g : V → Value → Prop} {Dg : va_G} {cl : List vw_C} {tys : List (ClassId × FieldType)} {at_ : List Nat} {nest : List (String × Nat × MethodName × String)} {tb : List Jvm.Cond} {ct : List (List (FieldType × Bool))} {ms : List xv_N} {ys : List xm_Z} {kx : xk_C} {kcc : ByteArray}
/-- THE BODY of a method: to its end, or up to stop -/
theorem xs_lp (hD : xv_ok D g) (hall : xc_all tb nest cl ct at_ kx.1 kx.2.2.2.1 kcc ms ys) (hchar : xk_Ch l tb kcc kx) (hY : xc_tys cl at_ tys) {d : Nat} {call : Nat → List (xv_V V) → xv_M V → Option (xv_R V)} (hcall : ∀ (j : Nat) (as : List (xv_V V)) (M : xv_M V) (r : xv_R V), call j as M = some r → xm_Con l g tys Dg cl at_ nest kx tb ms ys d j as M r)
    {y : xv_N} {z : xm_Z} {p : Program} {e : Env} {R : Room} {s : State} {m : MethodId} {args : Array Value} {below : List Frame} {meth : Method} {c : Code} {A : Nat → Prop} {Q : State → Prop} {φ0 : List Nat} (hfix : xw_fix Dg cl tys at_ nest kx tb ct ys d y z p R s m args meth c A) (hkF : xk_F kx φ0) {stop : Nat} {r : xv_B V}
    (hend : ∀ q : xv_R V, r = .inl q → ∀ (i : Instr) (pc : Nat) (L : xv_L V) (S : List (xv_V V)) (cells slots : Nat), xv_end D y.2.1.2.2.1 S i = some q.1 → decode z.2.1 pc = .ok (i, xv_len i) → xw_st p l e R s m args below meth c Q g Dg cl tys kx A φ0 y pc L S q.2 cells slots)
    (hstop : ∀ q : xv_L V × List (xv_V V) × xv_M V × Nat × Nat, r = .inr q → xw_st p l e R s m args below meth c Q g Dg cl tys kx A φ0 y stop q.1 q.2.1 q.2.2.1 q.2.2.2.1 q.2.2.2.2) :
    ∀ (n pc : Nat) (cs : List xv_I) (L : xv_L V) (S : List (xv_V V)) (M : xv_M V) (cells slots : Nat), xv_lp D ct at_ kx.1 ms call y stop n pc cs L S M cells slots = some r → (∀ q ∈ cs, q ∈ y.2.2.2) → xw_st p l e R s m args below meth c Q g Dg cl tys kx A φ0 y pc L S M cells slots := by
  intro n
  induction n with
  | zero => intro pc cs L S M cells slots h; cases h
  | succ n ih =>
    intro pc cs L S M cells slots h hcs
    have h : xv_step D ct at_ kx.1 ms call y (fun r M => some (Sum.inl (r, M))) (fun pc cs L S M c s => bif Nat.beq pc stop then some (Sum.inr (L, S, M, c, s)) else xv_lp D ct at_ kx.1 ms call y stop n pc cs L S M c s) pc cs L S M cells slots = some r := h
    refine xs_step hD hall hchar hY hcall hfix hkF h hcs (fun pc cs L S M cells slots h hcs => ?_) (fun i pc L S M cells slots rv h1 h2 h3 => ?_)
    · cases hpc : Nat.beq pc stop <;> simp only [hpc, cond_true, cond_false] at h
      · exact ih _ _ _ _ _ _ _ h hcs
      · have h := Option.some.inj h
        rw [Nat.eq_of_beq_eq_true hpc]
        exact hstop _ h.symm
    · have h2 := Option.some.inj h2
      exact hend _ h2.symm i pc L S cells slots h1 h3
theorem xv_un_some {x : Option (xv_B V)} {r : xv_R V} (h : xv_un x = some r) : x = some (.inl r) := by
  unfold xv_un at h
  split at h
  · cases h; rfl
  · cases h
/-- what it runs, the method does -/
theorem xs_rn (hD : xv_ok D g) (hall : xc_all tb nest cl ct at_ kx.1 kx.2.2.2.1 kcc ms ys) (hchar : xk_Ch l tb kcc kx) (hY : xc_tys cl at_ tys) {ext : Nat → Nat → List (xv_V V) → xv_M V → Option (xv_R V)} (hext : ∀ (d j : Nat) (as : List (xv_V V)) (M : xv_M V) (r : xv_R V), ext d j as M = some r → xm_Con l g tys Dg cl at_ nest kx tb ms ys d j as M r) (fuel : Nat) :
    ∀ (d j : Nat) (as : List (xv_V V)) (M : xv_M V) (r : xv_R V), xv_rn D ct at_ kx.1 ms ext fuel d j as M = some r → xm_Con l g tys Dg cl at_ nest kx tb ms ys d j as M r := by
  intro d
  induction d with
  | zero => intro j as M r h; cases h
  | succ d ih =>
    intro j as M r h
    have h : (match ext (d + 1) j as M with
      | some r => some r
      | none => match ms[j]? with
        | some y => bif Nat.ble (xv_cats as) y.2.1.2.1 then xv_un (xv_lp D ct at_ kx.1 ms (xv_rn D ct at_ kx.1 ms ext fuel d) y 100000 fuel 0 y.2.2.2 (xv_in as y.2.1.2.1) [] M 0 0) else none
        | none => none) = some r := h
    split at h
    · rename_i r' hr'
      cases Option.some.inj h
      exact hext _ _ _ _ _ hr'
    · refine xm_of hall (fun y z hy hz => ?_)
      intro p e s m args below meth c A φ0 hfix hkF hret hlocks
      rw [hy] at h
      dsimp only at h
      cases hc : Nat.ble (xv_cats as) y.2.1.2.1 <;> simp only [hc, cond_true, cond_false] at h
      · cases h
      refine ⟨Nat.le_of_ble_eq_true hc, xs_lp hD hall hchar hY ih hfix hkF (fun q hq i pc L S cells slots h1 h2 => ?_) (fun q hq => by cases hq) fuel 0 _ _ _ _ 0 0 (xv_un_some h) (fun q hq => hq)⟩
      cases hq
      intro hc1 hc2 t ws H locs ls st hm hP hD0 hS hl hs
      obtain ⟨hx, hb, -, -, -, -, -, -, -, -, hbod⟩ := hfix
      exact xs_end hD hx hb (by rw [hret]; exact hbod.1.symm) hlocks h1 h2 hm hP hD0 hS hs hc1 hc2
end XSV
