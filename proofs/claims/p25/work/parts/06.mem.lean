/-- a type that a field here may have -/
def xv_tyok : FieldType → Bool
  | .int => true
  | .boolean => true
  | .long => true
  | .object _ => true
  | .array _ => true
  | _ => false
def xc_cls (tb : List Jvm.Cond) (cl : List vw_C) (ct : List (List (FieldType × Bool))) : Prop := ∀ (ci : Nat) (fs : List (FieldType × Bool)), ct[ci]? = some fs → ∃ (C : String) (T : u_T), cl[ci]? = some (C, T, fs.length) ∧ (∀ w ∈ u_ws C T fs.length, w ∈ tb) ∧
  (∀ (k : Nat) (f : FieldType × Bool), fs[k]? = some f → parseFieldDescriptor (T k).2.2.1 = some f.1 ∧ (T k).2.2.2 = f.2 ∧ (T k).1 = C ∧ xv_tyok f.1 = true) ∧ (∀ a, a < fs.length → ∀ b, b < fs.length → a ≠ b → (T a).2.1 ≠ (T b).2.1) ∧ Jvm.Cond.instantiable C fs.length ∈ tb ∧ Jvm.Cond.initialized C ∈ tb
def xc_fld (tb : List Jvm.Cond) (cl : List vw_C) (ct : List (List (FieldType × Bool))) (own : String) (K : xv_K) : Prop := ∀ (i : Nat) (ck : Nat × Nat), xv_find K.1 i = some ck → ∃ (fs : List (FieldType × Bool)) (f : FieldType × Bool) (C : String) (T : u_T), ct[ck.1]? = some fs ∧ fs[ck.2]? = some f ∧ cl[ck.1]? = some (C, T, fs.length) ∧ Jvm.Cond.fieldLink own i (T ck.2).1 (T ck.2).2.1 (T ck.2).2.2.1 ∈ tb
def xc_new (tb : List Jvm.Cond) (cl : List vw_C) (at_ : List Nat) (own : String) (K : xv_K) : Prop := ∀ (i ci : Nat), xv_find K.2.2.1 i = some ci →
  (ci < 1000 → ∃ (C : String) (T : u_T) (N : Nat), cl[ci]? = some (C, T, N) ∧ Jvm.Cond.classLink own i C ∈ tb) ∧ (1000 ≤ ci → ci < 1003 → ∃ (cj : Nat) (C : String) (T : u_T) (N : Nat), at_[ci - 1000]? = some cj ∧ cl[cj]? = some (C, T, N) ∧ Jvm.Cond.classLink own (i - 70000) C ∈ tb)
def xc_tys (cl : List vw_C) (at_ : List Nat) (tys : List (ClassId × FieldType)) : Prop := (∃ c0, tys[0]? = some (c0, .int)) ∧ (∃ c0, tys[1]? = some (c0, .long)) ∧ (∃ c0, tys[2]? = some (c0, .boolean)) ∧
  (∀ (n cj : Nat) (C : String) (T : u_T) (N : Nat), at_[n]? = some cj → cl[cj]? = some (C, T, N) → ∃ cA, tys[4 + n]? = some (cA, .object C)) ∧ ∀ (k : Nat) (q : ClassId × FieldType), 4 ≤ k → tys[k]? = some q → ∃ C, q.2 = .object C
def xc_ao (cl : List vw_C) (at_ : List Nat) (U : State) : Prop := ∀ (n cj : Nat) (C : String) (T : u_T) (N : Nat), at_[n]? = some cj → cl[cj]? = some (C, T, N) → va_AO C U
def xc_arr (tb : List Jvm.Cond) : Prop := Jvm.Cond.arrayClass .int ∈ tb ∧ Jvm.Cond.arrayClass .long ∈ tb ∧ Jvm.Cond.arrayClass .boolean ∈ tb
/-- a class by its number: all that is known of it -/
theorem xc_at {tb : List Jvm.Cond} {cl : List vw_C} {ct : List (List (FieldType × Bool))} (hC : xc_cls tb cl ct) {ci : Nat} {fs : List (FieldType × Bool)} {C : String} {T : u_T} {N : Nat} (h1 : ct[ci]? = some fs) (h2 : cl[ci]? = some (C, T, N)) : N = fs.length ∧ (∀ w ∈ u_ws C T N, w ∈ tb) ∧
    (∀ (k : Nat) (f : FieldType × Bool), fs[k]? = some f → parseFieldDescriptor (T k).2.2.1 = some f.1 ∧ (T k).2.2.2 = f.2 ∧ (T k).1 = C ∧ xv_tyok f.1 = true) ∧ (∀ a, a < N → ∀ b, b < N → a ≠ b → (T a).2.1 ≠ (T b).2.1) ∧ Jvm.Cond.instantiable C N ∈ tb ∧ Jvm.Cond.initialized C ∈ tb := by
  obtain ⟨C2, T2, hcl2, hu, hf, hn, hi, hj⟩ := hC ci fs h1
  have e2 : (C2, T2, fs.length) = (C, T, N) := Option.some.inj (hcl2.symm.trans h2)
  obtain ⟨rfl, e3⟩ := Prod.mk.inj e2
  obtain ⟨rfl, rfl⟩ := Prod.mk.inj e3
  exact ⟨rfl, hu, hf, hn, hi, hj⟩
section XSM
variable {V : Type} {C : Nat → xv_O V → Prop} {D : xv_D V} {g : V → Value → Prop} {φ : List Nat} {tys : List (ClassId × FieldType)} {M : xv_M V} {ws : va_W}
theorem xr_e_mono {t : List Nat} {o : xv_O V} {E : va_E} (h : xr_e g φ tys o E) : xr_e g (φ ++ t) tys o E := by
  rcases h with ⟨h8, fs, e, hl, h⟩ | ⟨cA, ty, ht, h | h | h⟩
  · exact Or.inl ⟨h8, fs, e, hl, fun j v hv => (h j v hv).imp fun x hx => ⟨hx.1, xr_v_mono hx.2⟩⟩
  · obtain ⟨h0, f, e, h⟩ := h
    exact Or.inr ⟨cA, ty, ht, Or.inl ⟨h0, f, e, fun j v hv => xr_v_mono (h j v hv)⟩⟩
  · obtain ⟨h0, f, e, h⟩ := h
    exact Or.inr ⟨cA, ty, ht, Or.inr (Or.inl ⟨h0, f, e, fun j v hv => xr_v_mono (h j v hv)⟩)⟩
  · obtain ⟨h0, f, e, h⟩ := h
    exact Or.inr ⟨cA, ty, ht, Or.inr (Or.inr ⟨h0, f, e, fun j v hv => xr_v_mono (h j v hv)⟩)⟩
/-- a place of a list is set -/
theorem xr_set {α : Type} {xs : List α} {k j : Nat} {v w : α} (h : (xs.set k v)[j]? = some w) : (j = k ∧ w = v) ∨ (j ≠ k ∧ xs[j]? = some w) := by
  rw [List.getElem?_set] at h
  split at h
  · rename_i e
    split at h
    · exact Or.inl ⟨e.symm, (Option.some.inj h).symm⟩
    · cases h
  · rename_i hne
    exact Or.inr ⟨fun q => hne q.symm, h⟩
theorem xr_e_tag {o : xv_O V} {E : va_E} (h : xr_e g φ tys o E) : o.1 ≠ 3 := by
  rcases h with ⟨h8, -⟩ | ⟨cA, ty, ht, h | h | h⟩
  · omega
  · obtain ⟨h0, -⟩ := h
    omega
  · obtain ⟨h0, -⟩ := h
    omega
  · obtain ⟨h0, -⟩ := h
    omega
theorem xr_m_len (h : xr_m C g φ tys M ws) : M.length = φ.length := by
  obtain ⟨pre, -, h2, -⟩ := h
  exact h2
theorem xr_m_cst (h : xr_m C g φ tys M ws) {k : Nat} {o : xv_O V} (hk : M[k]? = some o) (h3 : o.1 = 3) : C k o := by
  obtain ⟨pre, -, -, -, h4⟩ := h
  exact h4 k o hk h3
theorem xr_m_at (h : xr_m C g φ tys M ws) {k q : Nat} {o : xv_O V} (hk : M[k]? = some o) (hq : φ[k]? = some q) (h7 : o.1 ≠ 7) (h3 : o.1 ≠ 3) : ∃ (a : Nat) (E : va_E), ws[a]? = some (q, E) ∧ xr_e g φ tys o E ∧ ∀ (o' : xv_O V) (E' : va_E), xr_e g φ tys o' E' → xr_m C g φ tys (M.set k o') (ws.set a (q, E')) := by
  obtain ⟨pre, h1, h2, h4, h5⟩ := h
  obtain ⟨hle, q', E, e1, e2⟩ := h4 k o hk h7 h3
  have hqq : φ[k]? = some q' := by rw [← h1, List.getElem?_append_right hle, List.getElem?_map, e1]; rfl
  rw [hq] at hqq
  cases Option.some.inj hqq
  refine ⟨k - pre.length, E, e1, e2, fun o' E' he => ⟨pre, ?_, by rw [List.length_set]; exact h2, fun j o2 hj h72 h32 => ?_, fun j o2 hj h32 => ?_⟩⟩
  · rw [← h1]
    congr 1
    apply List.ext_getElem?
    intro j
    rw [List.getElem?_map, List.getElem?_map, List.getElem?_set]
    split
    · rename_i e
      subst e
      rw [if_pos (List.getElem?_eq_some_iff.mp e1).1, e1]
      rfl
    · rfl
  · rw [List.getElem?_set] at hj
    split at hj
    · rename_i e
      subst e
      rw [if_pos (List.getElem?_eq_some_iff.mp hk).1] at hj
      cases Option.some.inj hj
      exact ⟨hle, q, E', by rw [List.getElem?_set, if_pos rfl, if_pos (List.getElem?_eq_some_iff.mp e1).1], he⟩
    · rename_i hne
      obtain ⟨l1, q1, E1, f1, f2⟩ := h4 j o2 hj h72 h32
      exact ⟨l1, q1, E1, by rw [List.getElem?_set, if_neg (by omega)]; exact f1, f2⟩
  · rcases xr_set hj with ⟨rfl, rfl⟩ | ⟨hne, hj⟩
    · exact absurd h32 (xr_e_tag he)
    · exact h5 j o2 hj h32
theorem xr_m_push (h : xr_m C g φ tys M ws) {q : Nat} {o' : xv_O V} {E' : va_E} (he : xr_e g (φ ++ [q]) tys o' E') : xr_m C g (φ ++ [q]) tys (M ++ [o']) (ws ++ [(q, E')]) := by
  obtain ⟨pre, h1, h2, h4, h5⟩ := h
  have hl0 : φ.length = pre.length + ws.length := by rw [← h1, List.length_append, List.length_map]
  refine ⟨pre, by rw [List.map_append, ← List.append_assoc, h1]; rfl, by simp [h2], fun j o hj h7 h3 => ?_, fun j o hj h3 => ?_⟩
  · by_cases hl : j < M.length
    · rw [List.getElem?_append_left hl] at hj
      obtain ⟨l1, q', E1, e1, e2⟩ := h4 j o hj h7 h3
      exact ⟨l1, q', E1, by rw [List.getElem?_append_left (List.getElem?_eq_some_iff.mp e1).1]; exact e1, xr_e_mono e2⟩
    · rw [List.getElem?_append_right (by omega)] at hj
      have hz : j - M.length < 1 := (List.getElem?_eq_some_iff.mp hj).1
      have hj0 : j - M.length = 0 := by omega
      rw [hj0] at hj
      cases Option.some.inj hj
      have hj2 : j - pre.length - ws.length = 0 := by omega
      exact ⟨by omega, q, E', by rw [List.getElem?_append_right (by omega), hj2]; rfl, he⟩
  · by_cases hl : j < M.length
    · rw [List.getElem?_append_left hl] at hj
      exact h5 j o hj h3
    · rw [List.getElem?_append_right (by omega)] at hj
      have hz : j - M.length < 1 := (List.getElem?_eq_some_iff.mp hj).1
      have hj0 : j - M.length = 0 := by omega
      rw [hj0] at hj
      cases Option.some.inj hj
      exact absurd h3 (xr_e_tag he)
theorem xs_ix (hD : xv_ok D g) {a : V} {n k : Nat} {x : Int32} (h : xv_ix D a n = some k) (hg : g a (.int x)) : k < n ∧ vp_in x n ∧ x.toNatClampNeg = k ∧ ¬ x < 0 := by
  unfold xv_ix at h
  split at h
  · rename_i k' hk
    cases hb : Nat.blt k' n <;> simp [hb] at h
    subst h
    have hlt : k' < n := Nat.le_of_ble_eq_true hb
    have hx := hD.2.2.2.2.2.2.2.2.2.2.1 _ _ _ hk hg
    have hin : vp_in x n := vp_in_iff.mpr ⟨by rw [hx]; exact Int.natCast_nonneg k', by rw [hx]; exact Int.ofNat_lt.mpr hlt⟩
    exact ⟨hlt, hin, by show x.toInt.toNat = k'; rw [hx]; rfl, fun q => hin (Or.inl q)⟩
  · cases h
theorem xs_fit (hD : xv_ok D g) {ty : FieldType} : ∀ {v : xv_V V} {x : Value}, xv_fit D ty v = true → xr_v g φ v x → narrow ty x = x ∧ fits ty x = true := by
  intro v x h hv
  rcases v with a | a | (_ | k)
  · obtain ⟨n, rfl, hn⟩ := hv
    cases ty <;> first | (simp only [xv_fit, Bool.false_eq_true] at h; done) | exact ⟨rfl, rfl⟩ | skip
    rcases hD.2.2.2.2.2.2.2.2.2.2.2 a n h hn with rfl | rfl
    · exact ⟨rfl, rfl⟩
    · exact ⟨rfl, rfl⟩
  · obtain ⟨n, rfl, hn⟩ := hv
    cases ty <;> first | (simp only [xv_fit, Bool.false_eq_true] at h; done) | exact ⟨rfl, rfl⟩
  · obtain rfl : x = .null := hv
    cases ty <;> first | (simp only [xv_fit, Bool.false_eq_true] at h; done) | exact ⟨rfl, rfl⟩
  · obtain ⟨q, _, rfl⟩ := hv
    cases ty <;> first | (simp only [xv_fit, Bool.false_eq_true] at h; done) | exact ⟨rfl, rfl⟩
theorem xs_dflt (hD : xv_ok D g) (ty : FieldType) (h : xv_tyok ty = true) : xr_v g φ (xv_dflt D ty) (defaultValue ty) := by
  cases ty <;> first | (simp only [xv_tyok, Bool.false_eq_true] at h; done) | exact ⟨0, rfl, hD.1 0⟩ | exact ⟨0, rfl, hD.2.1 0⟩ | rfl
/-- the cell of an object -/
theorem xr_e_obj {o : xv_O V} {E : va_E} {ci : Nat} (h : xr_e g φ tys o E) (ho : o.1 = 8 + ci) : ∃ fs : List Value, E = .inr (ci, fs) ∧ fs.length = o.2.length ∧ ∀ (j : Nat) (v : xv_V V), o.2[j]? = some v → ∃ x : Value, fs[j]? = some x ∧ xr_v g φ v x := by
  rcases h with ⟨h8, fs, e, hl, h⟩ | ⟨cA, ty, ht, h | h | h⟩
  · exact ⟨fs, by rw [e, show o.1 - 8 = ci by omega], hl, h⟩
  · obtain ⟨h0, -⟩ := h
    omega
  · obtain ⟨h0, -⟩ := h
    omega
  · obtain ⟨h0, -⟩ := h
    omega
theorem xr_e_int {o : xv_O V} {E : va_E} (h : xr_e g φ tys o E) (ho : o.1 = 0 ∨ o.1 = 2) : ∃ (cA : ClassId) (ty : FieldType) (f : Nat → Int32), tys[o.1]? = some (cA, ty) ∧ E = .inl (cA, o.2.length, .inl f) ∧ ∀ (j : Nat) (v : xv_V V), o.2[j]? = some v → xr_v g φ v (.int (f j)) := by
  rcases h with ⟨h8, fs, e, hl, h⟩ | ⟨cA, ty, ht, h | h | h⟩
  · omega
  · obtain ⟨h0, f, e, h⟩ := h
    exact ⟨cA, ty, f, ht, e, h⟩
  · obtain ⟨h0, -⟩ := h
    omega
  · obtain ⟨h0, -⟩ := h
    omega
theorem xr_e_long {o : xv_O V} {E : va_E} (h : xr_e g φ tys o E) (ho : o.1 = 1) : ∃ (cA : ClassId) (ty : FieldType) (f : Nat → Int64), tys[o.1]? = some (cA, ty) ∧ E = .inl (cA, o.2.length, .inr (.inl f)) ∧ ∀ (j : Nat) (v : xv_V V), o.2[j]? = some v → xr_v g φ v (.long (f j)) := by
  rcases h with ⟨h8, fs, e, hl, h⟩ | ⟨cA, ty, ht, h | h | h⟩
  · omega
  · obtain ⟨h0, -⟩ := h
    omega
  · obtain ⟨h0, f, e, h⟩ := h
    exact ⟨cA, ty, f, ht, e, h⟩
  · obtain ⟨h0, -⟩ := h
    omega
theorem xr_e_ref {o : xv_O V} {E : va_E} (h : xr_e g φ tys o E) (ho : 4 ≤ o.1 ∧ o.1 < 7) : ∃ (cA : ClassId) (ty : FieldType) (f : Nat → Option Nat), tys[o.1]? = some (cA, ty) ∧ E = .inl (cA, o.2.length, .inr (.inr (.inr (.inr f)))) ∧ ∀ (j : Nat) (v : xv_V V), o.2[j]? = some v → xr_v g φ v (va_rf (f j)) := by
  rcases h with ⟨h8, fs, e, hl, h⟩ | ⟨cA, ty, ht, h | h | h⟩
  · omega
  · obtain ⟨h0, -⟩ := h
    omega
  · obtain ⟨h0, -⟩ := h
    omega
  · obtain ⟨h0, f, e, h⟩ := h
    exact ⟨cA, ty, f, ht, e, h⟩
theorem xs_rep {α : Type} {n j : Nat} {v w : α} (h : (List.replicate n v)[j]? = some w) : w = v := by
  have h2 := List.mem_of_getElem? h
  exact List.eq_of_mem_replicate h2
end XSM
