section XSN
variable {p : Program} {l : Launch} {e : Env} {R : Room} {s : State} {m : MethodId} {args : Array Value} {below : List Frame} {meth : Method} {c : Code} {H : Heap} {locs : List Loc} {cells slots : Nat} {Q : State → Prop}
variable {cc : ByteArray} {pc : Nat} {V : Type} {C : Nat → xv_O V → Prop} {D : xv_D V} {g : V → Value → Prop} {φ : List Nat} {M M' : xv_M V} {S S' : List (xv_V V)} {ls : Array Slot} {st : List Value}
variable {Dg : va_G} {cl : List vw_C} {tys : List (ClassId × FieldType)} {A : Nat → Prop} {H0 : Heap} {ws : va_W} {dc ds : Nat}
theorem va_RA_one {U : State} {c1 c2 : ClassId} {ty : FieldType} (h1 : va_RA U c1 ty) (h2 : va_RA U c2 ty) : c1 = c2 := by
  cases ty with
  | object C =>
    obtain ⟨_, _, _, _, _, a⟩ := h1
    obtain ⟨_, _, _, _, _, b⟩ := h2
    exact Option.some.inj (a.symm.trans b)
  | _ => exact Option.some.inj (Eq.trans (Eq.symm h1) h2)
theorem xs_last {α : Type} (xs : List α) (x : α) : (xs ++ [x])[xs.length]? = some x := by simp
/-- loads out of arrays -/
theorem xs_ald (hD : xv_ok D g) {t0 t1 : Nat} (h6 : t1 < 3 ∨ (3 < t0 ∧ t1 < 7)) (h : xv_ald D M S t0 t1 = some (S', M', dc, ds)) (hs : xr_s g φ S st) (hm : xr_m C g φ tys M ws) : ∃ (a q k : Nat) (o : xv_O V) (E : va_E) (v : xv_V V) (S1 : List (xv_V V)) (x : Int32) (rest : List Value), S' = v :: S1 ∧ M' = M ∧ dc = 0 ∧ ds = 0 ∧ st = .int x :: .ref q :: rest ∧ xr_s g φ S1 rest ∧ (t0 ≤ o.1 ∧ o.1 ≤ t1) ∧ ws[a]? = some (q, E) ∧ xr_e g φ tys o E ∧ o.2[k]? = some v ∧ vp_in x o.2.length ∧ x.toNatClampNeg = k := by
  unfold xv_ald at h
  split at h
  · rename_i i a S1
    obtain ⟨_, r1, rfl, ⟨x, rfl, hx⟩, _, r2, rfl, ⟨q, hq, rfl⟩, hr⟩ := hs
    split at h
    · rename_i o ho
      cases hc : Nat.ble t0 o.1 <;> simp only [hc, Bool.true_and, Bool.false_and, cond_true, cond_false] at h
      · cases h
      cases hd : Nat.ble o.1 t1 <;> simp only [hd, cond_true, cond_false] at h
      · cases h
      split at h
      · rename_i k hk
        split at h
        · rename_i v hv
          obtain ⟨rfl, rfl, rfl, rfl⟩ := by simpa using h
          obtain ⟨b, E, hE, he, -⟩ := xr_m_at hm ho hq (by have := Nat.le_of_ble_eq_true hd; have := Nat.le_of_ble_eq_true hc; omega) (by have := Nat.le_of_ble_eq_true hd; have := Nat.le_of_ble_eq_true hc; omega)
          obtain ⟨-, hin, hcl, -⟩ := xs_ix hD hk hx
          exact ⟨b, q, k, o, E, v, S1, x, r2, rfl, rfl, rfl, rfl, rfl, hr, ⟨Nat.le_of_ble_eq_true hc, Nat.le_of_ble_eq_true hd⟩, hE, he, hv, hin, hcl⟩
        · cases h
      · cases h
    · cases h
  · cases h
/-- stores into arrays of numbers -/
theorem xs_ast (hD : xv_ok D g) {t : Nat} {ty : FieldType} (h6 : t < 3) (h : xv_ast D M S t ty = some (S', M', dc, ds)) (hs : xr_s g φ S st) (hm : xr_m C g φ tys M ws) : ∃ (a q k : Nat) (o : xv_O V) (E : va_E) (v : xv_V V) (y : Value) (x : Int32) (rest : List Value), (∀ E', xr_e g φ tys (o.1, o.2.set k v) E' → xr_m C g φ tys M' (ws.set a (q, E'))) ∧ dc = 0 ∧ ds = 0 ∧ st = y :: .int x :: .ref q :: rest ∧ xr_s g φ S' rest ∧ o.1 = t ∧ ws[a]? = some (q, E) ∧ xr_e g φ tys o E ∧ xv_fit D ty v = true ∧ xr_v g φ v y ∧ vp_in x o.2.length ∧ x.toNatClampNeg = k := by
  unfold xv_ast at h
  split at h
  · rename_i v i a S1
    obtain ⟨y, r0, rfl, hy, _, r1, rfl, ⟨x, rfl, hx⟩, _, r2, rfl, ⟨q, hq, rfl⟩, hr⟩ := hs
    split at h
    · rename_i o ho
      cases hc : Nat.beq o.1 t <;> simp only [hc, Bool.true_and, Bool.false_and, cond_true, cond_false] at h
      · cases h
      cases hd : xv_fit D ty v <;> simp only [hd, cond_true, cond_false] at h
      · cases h
      split at h
      · rename_i k hk
        obtain ⟨rfl, rfl, rfl, rfl⟩ := by simpa using h
        obtain ⟨b, E, hE, he, hset⟩ := xr_m_at hm ho hq (by have := Nat.eq_of_beq_eq_true hc; omega) (by have := Nat.eq_of_beq_eq_true hc; omega)
        obtain ⟨-, hin, hcl, -⟩ := xs_ix hD hk hx
        exact ⟨b, q, k, o, E, v, y, x, r2, fun E' => hset _ E', rfl, rfl, rfl, hr, Nat.eq_of_beq_eq_true hc, hE, he, hd, hy, hin, hcl⟩
      · cases h
    · cases h
  · cases h
theorem xs_newa (hD : xv_ok D g) {t : Nat} {v : xv_V V} (h : xv_newa D M S t v = some (S', M', dc, ds)) (hs : xr_s g φ S st) : ∃ (S1 : List (xv_V V)) (n : Int32) (rest : List Value), S' = .inr (.inr (some M.length)) :: S1 ∧ M' = M ++ [(t, List.replicate ds v)] ∧ dc = 1 ∧ ds < 4096 ∧ st = .int n :: rest ∧ xr_s g φ S1 rest ∧ ¬ n < 0 ∧ n.toNatClampNeg = ds := by
  unfold xv_newa at h
  split at h
  · rename_i a S1
    obtain ⟨_, r1, rfl, ⟨x, rfl, hx⟩, hr⟩ := hs
    split at h
    · rename_i k hk
      obtain ⟨rfl, rfl, rfl, rfl⟩ := by simpa using h
      obtain ⟨h1, -, h3, h4⟩ := xs_ix hD hk hx
      exact ⟨S1, x, r1, rfl, rfl, rfl, h1, rfl, hr, h4, h3⟩
    · cases h
  · cases h
end XSN
