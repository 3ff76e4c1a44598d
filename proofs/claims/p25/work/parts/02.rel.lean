/-! THE RELATION between the pure machine and the kit's worlds. φ: the addresses of the cells, by their numbers. -/
def xr_v {V : Type} (g : V → Value → Prop) (φ : List Nat) : xv_V V → Value → Prop
  | .inl a, x => ∃ n : Int32, x = .int n ∧ g a (.int n)
  | .inr (.inl a), x => ∃ n : Int64, x = .long n ∧ g a (.long n)
  | .inr (.inr none), x => x = .null
  | .inr (.inr (some k)), x => ∃ q : Nat, φ[k]? = some q ∧ x = .ref q
def xr_s {V : Type} (g : V → Value → Prop) (φ : List Nat) : List (xv_V V) → List Value → Prop
  | [], st => st = []
  | v :: S, st => ∃ (x : Value) (r : List Value), st = x :: r ∧ xr_v g φ v x ∧ xr_s g φ S r
def xr_l {V : Type} (g : V → Value → Prop) (φ : List Nat) (L : xv_L V) (ls : Array Slot) (nL : Nat) : Prop :=
  L.length = nL ∧ ∃ lv : List (Nat × Value), lv_has ls nL lv ∧ ∀ (i : Nat) (v : xv_V V), L[i]? = some (some v) → ∃ x : Value, (i, x) ∈ lv ∧ xr_v g φ v x
def xr_e {V : Type} (g : V → Value → Prop) (φ : List Nat) (tys : List (ClassId × FieldType)) (o : xv_O V) (E : va_E) : Prop :=
  (8 ≤ o.1 ∧ ∃ fs : List Value, E = .inr (o.1 - 8, fs) ∧ fs.length = o.2.length ∧ ∀ (j : Nat) (v : xv_V V), o.2[j]? = some v → ∃ x : Value, fs[j]? = some x ∧ xr_v g φ v x) ∨
  (∃ (cA : ClassId) (ty : FieldType), tys[o.1]? = some (cA, ty) ∧
    (((o.1 = 0 ∨ o.1 = 2) ∧ ∃ f : Nat → Int32, E = .inl (cA, o.2.length, .inl f) ∧ ∀ (j : Nat) (v : xv_V V), o.2[j]? = some v → xr_v g φ v (.int (f j))) ∨
     (o.1 = 1 ∧ ∃ f : Nat → Int64, E = .inl (cA, o.2.length, .inr (.inl f)) ∧ ∀ (j : Nat) (v : xv_V V), o.2[j]? = some v → xr_v g φ v (.long (f j))) ∨
     ((4 ≤ o.1 ∧ o.1 < 7) ∧ ∃ f : Nat → Option Nat, E = .inl (cA, o.2.length, .inr (.inr (.inr (.inr f)))) ∧ ∀ (j : Nat) (v : xv_V V), o.2[j]? = some v → xr_v g φ v (va_rf (f j)))))
/-- the memory: C says what a constant cell holds; the constant cells are the first ones -/
def xr_m {V : Type} (C : Nat → xv_O V → Prop) (g : V → Value → Prop) (φ : List Nat) (tys : List (ClassId × FieldType)) (M : xv_M V) (ws : va_W) : Prop :=
  ∃ pre : List Nat, pre ++ ws.map (·.1) = φ ∧ M.length = φ.length ∧ (∀ (k : Nat) (o : xv_O V), M[k]? = some o → o.1 ≠ 7 → o.1 ≠ 3 → pre.length ≤ k ∧ ∃ (q : Nat) (E : va_E), ws[k - pre.length]? = some (q, E) ∧ xr_e g φ tys o E) ∧ ∀ (k : Nat) (o : xv_O V), M[k]? = some o → o.1 = 3 → C k o
def xv_semI : Nat → Int32 → Int32 → Option Int32
  | 0, x, y => some (x + y)
  | 1, x, y => some (x - y)
  | 2, x, y => some (x * y)
  | 3, x, y => some (x &&& y)
  | 4, x, y => some (x ||| y)
  | 5, x, y => some (x <<< (y &&& 31))
  | 6, x, y => some (x >>> (y &&& 31))
  | 7, x, y => some ((x.toUInt32 >>> (y.toUInt32 &&& Int32.toUInt32 31)).toInt32)
  | 8, x, y => if y = 0 then none else some (x / y)
  | 9, x, y => if y = 0 then none else some (x - x / y * y)
  | 10, x, _ => some (-x)
  | _, _, _ => none
def xv_semL : Nat → Int64 → Int64 → Option Int64
  | 0, x, y => some (x + y)
  | 1, x, y => some (x - y)
  | 2, x, y => some (x * y)
  | 3, x, y => some (x &&& y)
  | 4, x, y => some (x ||| y)
  | 5, x, y => if y = 0 then none else some (x / y)
  | 6, x, y => if y = 0 then none else some (x - x / y * y)
  | 7, x, _ => some (-x)
  | _, _, _ => none
def xv_cmp : Nat → Int32 → Int32 → Bool
  | 0, x, y => decide (x = y)
  | 1, x, y => !decide (x = y)
  | 2, x, y => decide (x < y)
  | 3, x, y => decide (y ≤ x)
  | 4, x, y => decide (y < x)
  | _, x, y => decide (x ≤ y)
/-- the domain's operations are right -/
def xv_ok {V : Type} (D : xv_D V) (g : V → Value → Prop) : Prop :=
  (∀ n : Int32, g (D.1 n) (.int n)) ∧ (∀ n : Int64, g (D.2.1 n) (.long n)) ∧
  (∀ (o : Nat) (a b r : V) (x y : Int32), o < 20 → D.2.2.1 o a b = some r → g a (.int x) → g b (.int y) → ∃ z, xv_semI o x y = some z ∧ g r (.int z)) ∧
  (∀ (o : Nat) (a b r : V) (x y : Int64), o < 10 → D.2.2.1 (o + 20) a b = some r → g a (.long x) → g b (.long y) → ∃ z, xv_semL o x y = some z ∧ g r (.long z)) ∧
  (∀ (a b r : V) (x : Int64) (y : Int32), D.2.2.1 30 a b = some r → g a (.long x) → g b (.int y) → g r (.long (x <<< (y.toInt64 &&& 63)))) ∧
  (∀ (a b r : V) (x : Int64) (y : Int32), D.2.2.1 31 a b = some r → g a (.long x) → g b (.int y) → g r (.long (x >>> (y.toInt64 &&& 63)))) ∧
  (∀ (a b r : V) (x : Int32), D.2.2.1 40 a b = some r → g a (.int x) → g r (.long x.toInt64)) ∧
  (∀ (a b r : V) (x : Int64), D.2.2.1 41 a b = some r → g a (.long x) → g r (.int x.toInt32)) ∧
  (∀ (a b r : V) (x y : Int64), D.2.2.1 42 a b = some r → g a (.long x) → g b (.long y) → g r (.int (lg_cmp x y))) ∧
  (∀ (o : Nat) (a b : V) (t : Bool) (x y : Int32), D.2.2.2.1 o a b = some t → g a (.int x) → g b (.int y) → xv_cmp o x y = t) ∧
  (∀ (a : V) (n : Int) (x : Int32), D.2.2.2.2.1 a = some n → g a (.int x) → x.toInt = n) ∧
  (∀ (a : V) (x : Int32), D.2.2.2.2.2 a = true → g a (.int x) → x = 0 ∨ x = 1)
section XRM
variable {V : Type} {g : V → Value → Prop} {φ : List Nat}
theorem xr_v_mono {t : List Nat} : ∀ {v : xv_V V} {x : Value}, xr_v g φ v x → xr_v g (φ ++ t) v x
  | .inl _, _, h => h
  | .inr (.inl _), _, h => h
  | .inr (.inr none), _, h => h
  | .inr (.inr (some k)), _, ⟨q, hq, hx⟩ => ⟨q, by
      have hk : k < φ.length := (List.getElem?_eq_some_iff.mp hq).1
      rw [List.getElem?_append_left hk]; exact hq, hx⟩
theorem xr_s_mono {t : List Nat} : ∀ {S : List (xv_V V)} {st : List Value}, xr_s g φ S st → xr_s g (φ ++ t) S st
  | [], _, h => h
  | _ :: _, _, ⟨x, r, e, h, k⟩ => ⟨x, r, e, xr_v_mono h, xr_s_mono k⟩
theorem xr_l_mono {t : List Nat} {L : xv_L V} {ls : Array Slot} {nL : Nat} (h : xr_l g φ L ls nL) : xr_l g (φ ++ t) L ls nL :=
  ⟨h.1, h.2.choose, h.2.choose_spec.1, fun i v hv => by
    obtain ⟨x, hx, hr⟩ := h.2.choose_spec.2 i v hv
    exact ⟨x, hx, xr_v_mono hr⟩⟩
theorem xr_v_cat : ∀ {v : xv_V V} {x : Value}, xr_v g φ v x → x.category = xv_cat v
  | .inl _, _, ⟨_, h, _⟩ => by rw [h]; rfl
  | .inr (.inl _), _, ⟨_, h, _⟩ => by rw [h]; rfl
  | .inr (.inr none), _, h => by rw [show _ = Value.null from h]; rfl
  | .inr (.inr (some _)), _, ⟨_, _, h⟩ => by rw [h]; rfl
theorem xr_s_cats : ∀ {S : List (xv_V V)} {st : List Value}, xr_s g φ S st → (st.map fun v => v.category).sum = xv_cats S
  | [], _, h => by rw [show _ = ([] : List Value) from h]; rfl
  | _ :: _, _, ⟨x, r, e, h, k⟩ => by rw [e, List.map_cons, List.sum_cons, xr_v_cat h, xr_s_cats k]; rfl
theorem xr_l_at {L : xv_L V} {ls : Array Slot} {nL i : Nat} {v : xv_V V} (h : xr_l g φ L ls nL) (hi : L[i]? = some (some v)) : ∃ x : Value, ls[i]? = some (.val x) ∧ xr_v g φ v x := by
  obtain ⟨-, lv, h1, h2⟩ := h
  obtain ⟨x, hx, hr⟩ := h2 i v hi
  exact ⟨x, h1.2.2 (i, x) hx, hr⟩
theorem xv_kill_len (L : xv_L V) (i : Nat) : (xv_kill L i).length = L.length := by
  cases i with
  | zero => rfl
  | succ j =>
    simp only [xv_kill]
    split
    · rw [List.length_set]
    · rfl
/-- what is left behind a store at i -/
theorem xv_kill_at {L : xv_L V} {i j : Nat} {w : xv_V V} (h : (xv_kill L i)[j]? = some (some w)) : L[j]? = some (some w) ∧ (j + 1 = i → xv_cat w = 1) := by
  cases i with
  | zero => exact ⟨h, fun q => by omega⟩
  | succ k =>
    simp only [xv_kill] at h
    split at h
    · rename_i a hk
      rw [List.getElem?_set] at h
      split at h
      · split at h <;> simp at h
      · rename_i hne
        exact ⟨h, fun q => absurd (by omega : k = j) hne⟩
    · rename_i hk
      refine ⟨h, fun q => ?_⟩
      have e : j = k := by omega
      subst e
      match w, h with
      | .inl _, _ => rfl
      | .inr (.inr _), _ => rfl
      | .inr (.inl a), h => exact absurd h (hk a)
theorem xr_l_put1 {L : xv_L V} {nL i : Nat} {v : xv_V V} {x : Value} {lv : List (Nat × Value)} {ls' : Array Slot} (hL : L.length = nL) (h2 : ∀ (i : Nat) (v : xv_V V), L[i]? = some (some v) → ∃ x : Value, (i, x) ∈ lv ∧ xr_v g φ v x) (hv : xr_v g φ v x)
    (h' : lv_has ls' nL ((i, x) :: lv.filter (fun q => !(q.1 == i) && !(q.1 + 1 == i && q.2.category == 2)))) : xr_l g φ (xv_put1 L i v) ls' nL := by
  refine ⟨by rw [xv_put1, List.length_set, xv_kill_len, hL], _, h', fun j w hw => ?_⟩
  rw [xv_put1, List.getElem?_set] at hw
  split at hw
  · rename_i e
    subst e
    split at hw
    · have e2 : v = w := by simpa using hw
      subst e2
      exact ⟨x, List.mem_cons_self, hv⟩
    · simp at hw
  · rename_i hne
    obtain ⟨hw, hc⟩ := xv_kill_at hw
    obtain ⟨y, hy, hr⟩ := h2 j w hw
    refine ⟨y, List.mem_cons_of_mem _ (List.mem_filter.mpr ⟨hy, ?_⟩), hr⟩
    have hcat := xr_v_cat hr
    by_cases hj : j + 1 = i
    · have h1 := hc hj
      have : ¬ j = i := fun q => hne q.symm
      simp [this, hcat, h1]
    · have : ¬ j = i := fun q => hne q.symm
      simp [this, hj]
theorem xr_l_put2 {L : xv_L V} {nL i : Nat} {v : xv_V V} {x : Value} {lv : List (Nat × Value)} {ls' : Array Slot} (hL : L.length = nL) (h2 : ∀ (i : Nat) (v : xv_V V), L[i]? = some (some v) → ∃ x : Value, (i, x) ∈ lv ∧ xr_v g φ v x) (hv : xr_v g φ v x)
    (h' : lv_has ls' nL ((i, x) :: lv.filter (fun q => !(q.1 == i) && (!(q.1 == i + 1) && !(q.1 + 1 == i && q.2.category == 2))))) : xr_l g φ (xv_put2 L i v) ls' nL := by
  refine ⟨by rw [xv_put2, List.length_set, List.length_set, xv_kill_len, hL], _, h', fun j w hw => ?_⟩
  rw [xv_put2, List.getElem?_set] at hw
  split at hw
  · rename_i e
    subst e
    split at hw
    · have e2 : v = w := by simpa using hw
      subst e2
      exact ⟨x, List.mem_cons_self, hv⟩
    · simp at hw
  · rename_i hne
    rw [List.getElem?_set] at hw
    split at hw
    · split at hw <;> simp at hw
    · rename_i hne2
      obtain ⟨hw, hc⟩ := xv_kill_at hw
      obtain ⟨y, hy, hr⟩ := h2 j w hw
      refine ⟨y, List.mem_cons_of_mem _ (List.mem_filter.mpr ⟨hy, ?_⟩), hr⟩
      have hcat := xr_v_cat hr
      have n1 : ¬ j = i := fun q => hne q.symm
      have n2 : ¬ j = i + 1 := fun q => hne2 q.symm
      by_cases hj : j + 1 = i
      · have h1 := hc hj
        simp [n1, n2, hcat, h1]
      · simp [n1, n2, hj]
end XRM
