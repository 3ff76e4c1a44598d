/-! LOOPS that count up to a number of which only bounds are known -/
section XL0
/-- a value that says more: a, less: b -/
def xl_v : xd_V → xd_V → Bool
  | .inl a, .inl b => xd_eqx a b
  | .inl a, .inr b => xd_le b.1 a && xd_le a b.2
  | .inr a, .inr b => xd_eqx a.1 b.1 && xd_eqx a.2 b.2
  | _, _ => false
def xl_V : xv_V xd_V → xv_V xd_V → Bool
  | .inl a, .inl b => xl_v a b
  | .inr (.inl (.inl a)), .inr (.inl (.inl b)) => xd_eqx a b
  | .inr (.inr none), .inr (.inr none) => true
  | .inr (.inr (some a)), .inr (.inr (some b)) => Nat.beq a b
  | _, _ => false
def xl_l {α : Type} (f : α → α → Bool) : List α → List α → Bool
  | [], [] => true
  | a :: l, b :: k => f a b && xl_l f l k
  | _, _ => false
def xl_O (a b : xv_O xd_V) : Bool := Nat.beq a.1 b.1 && xl_l xl_V a.2 b.2
def xl_o : Option (xv_O xd_V) → Option (xv_O xd_V) → Bool
  | none, none => true
  | some a, some b => xl_O a b
  | _, _ => false
def xl_T : xf_T xd_V → xf_T xd_V → Bool := xl_l (xl_l xl_o)
theorem xd_eqx_eq {a b : Int} (h : xd_eqx a b = true) : a = b := by
  obtain ⟨h1, h2⟩ := Bool.and_eq_true_iff.mp h
  exact Int.le_antisymm ((xd_le_iff _ _).mp h1) ((xd_le_iff _ _).mp h2)
theorem xl_v_ok : ∀ {a b : xd_V} {x : Int32}, xl_v a b = true → xd_g a (.int x) → xd_g b (.int x)
  | .inl a, .inl b, x, h, hg => by rw [← xd_eqx_eq h]; exact hg
  | .inl a, .inr (lo, hi), x, h, hg => by
    obtain ⟨h1, h2⟩ := Bool.and_eq_true_iff.mp h
    have g1 := (xd_le_iff _ _).mp h1
    have g2 := (xd_le_iff _ _).mp h2
    have hg : x.toInt = a := hg
    have e : xd_le lo hi = true := (xd_le_iff _ _).mpr (Int.le_trans g1 g2)
    exact ⟨fun _ => by rw [hg]; exact ⟨g1, g2⟩, fun q => by rw [show xd_le (lo, hi).1 (lo, hi).2 = xd_le lo hi from rfl, e] at q; cases q⟩
  | .inr (a, c), .inr (b, d), x, h, hg => by
    obtain ⟨h1, h2⟩ := Bool.and_eq_true_iff.mp h
    have e1 : a = b := xd_eqx_eq h1
    have e2 : c = d := xd_eqx_eq h2
    rw [← e1, ← e2]
    exact hg
theorem xl_V_ok {φ : List Nat} : ∀ {a b : xv_V xd_V} {x : Value}, xl_V a b = true → xr_v xd_g φ a x → xr_v xd_g φ b x
  | .inl a, .inl b, x, h, ⟨n, e, hg⟩ => ⟨n, e, xl_v_ok h hg⟩
  | .inr (.inl (.inl a)), .inr (.inl (.inl b)), x, h, hg => by rw [← xd_eqx_eq h]; exact hg
  | .inr (.inr none), .inr (.inr none), _, _, hg => hg
  | .inr (.inr (some a)), .inr (.inr (some b)), _, h, hg => by rw [← Nat.eq_of_beq_eq_true h]; exact hg
theorem xl_l_at {α : Type} {f : α → α → Bool} : ∀ {l k : List α}, xl_l f l k = true → l.length = k.length ∧ ∀ (i : Nat) (b : α), k[i]? = some b → ∃ a, l[i]? = some a ∧ f a b = true
  | [], [], _ => ⟨rfl, fun i b h => by simp at h⟩
  | a :: l, b :: k, h => by
    obtain ⟨h1, h2⟩ := Bool.and_eq_true_iff.mp h
    obtain ⟨h3, h4⟩ := xl_l_at h2
    refine ⟨by rw [List.length_cons, List.length_cons, h3], fun i c hc => ?_⟩
    cases i with
    | zero =>
      cases Option.some.inj (show some b = some c from hc)
      exact ⟨a, rfl, h1⟩
    | succ i =>
      rw [List.getElem?_cons_succ] at hc ⊢
      exact h4 i c hc
variable {φ : List Nat} {tys : List (ClassId × FieldType)} {kx : xk_C}
theorem xl_e {o o' : xv_O xd_V} {E : va_E} (h : xl_O o o' = true) (he : xr_e xd_g φ tys o E) : xr_e xd_g φ tys o' E := by
  obtain ⟨h1, h2⟩ := Bool.and_eq_true_iff.mp h
  have e := Nat.eq_of_beq_eq_true h1
  obtain ⟨hl, ha⟩ := xl_l_at h2
  rcases he with ⟨h8, fs, rfl, hf, hv⟩ | ⟨cA, ty, ht, h | h | h⟩
  · refine Or.inl ⟨by rw [← e]; exact h8, fs, by rw [e], by rw [hf, hl], fun j v hj => ?_⟩
    obtain ⟨u, hu, hr⟩ := ha j v hj
    obtain ⟨x, hx, hxv⟩ := hv j u hu
    exact ⟨x, hx, xl_V_ok hr hxv⟩
  · obtain ⟨h0, f, rfl, hv⟩ := h
    refine Or.inr ⟨cA, ty, by rw [← e]; exact ht, Or.inl ⟨by rw [← e]; exact h0, f, by rw [hl], fun j v hj => ?_⟩⟩
    obtain ⟨u, hu, hr⟩ := ha j v hj
    exact xl_V_ok hr (hv j u hu)
  · obtain ⟨h0, f, rfl, hv⟩ := h
    refine Or.inr ⟨cA, ty, by rw [← e]; exact ht, Or.inr (Or.inl ⟨by rw [← e]; exact h0, f, by rw [hl], fun j v hj => ?_⟩)⟩
    obtain ⟨u, hu, hr⟩ := ha j v hj
    exact xl_V_ok hr (hv j u hu)
  · obtain ⟨h0, f, rfl, hv⟩ := h
    refine Or.inr ⟨cA, ty, by rw [← e]; exact ht, Or.inr (Or.inr ⟨by rw [← e]; exact h0, f, by rw [hl], fun j v hj => ?_⟩)⟩
    obtain ⟨u, hu, hr⟩ := ha j v hj
    exact xl_V_ok hr (hv j u hu)
/-- a memory that says less stands too -/
def xl_P (M M' : xv_M xd_V) : Prop := M.length = M'.length ∧ ∀ (k : Nat) (o' : xv_O xd_V), M'[k]? = some o' → ∃ o, M[k]? = some o ∧ xl_O o o' = true
theorem xl_m {M M' : xv_M xd_V} {ws : va_W} (h : xl_P M M') (hm : xr_m (xk_c xd_g kx) xd_g φ tys M ws) : xr_m (xk_c xd_g kx) xd_g φ tys M' ws := by
  obtain ⟨pre, h1, h2, h4, h5⟩ := hm
  obtain ⟨hl, ha⟩ := h
  refine ⟨pre, h1, by rw [← hl]; exact h2, fun k o hk h7 h3 => ?_, fun k o hk h3 => ?_⟩
  · obtain ⟨u, hu, hr⟩ := ha k o hk
    have e := Nat.eq_of_beq_eq_true (Bool.and_eq_true_iff.mp hr).1
    obtain ⟨l1, q, E, e1, e2⟩ := h4 k u hu (by rw [e]; exact h7) (by rw [e]; exact h3)
    exact ⟨l1, q, E, e1, xl_e hr e2⟩
  · obtain ⟨u, hu, hr⟩ := ha k o hk
    obtain ⟨g1, g2⟩ := Bool.and_eq_true_iff.mp hr
    have e := Nat.eq_of_beq_eq_true g1
    obtain ⟨c1, c2, c3⟩ := h5 k u hu (by rw [e]; exact h3)
    obtain ⟨hl2, ha2⟩ := xl_l_at g2
    refine ⟨c1, by rw [← hl2]; exact c2, fun j v hj => ?_⟩
    obtain ⟨w, hw, hr2⟩ := ha2 j v hj
    obtain ⟨a, rfl, hga⟩ := c3 j w hw
    match v, hr2 with
    | .inl b, hr2 => exact ⟨b, rfl, xl_v_ok hr2 hga⟩
/-- a local that is known better -/
theorem xl_set {L : xv_L xd_V} {ls : Array Slot} {nL ts : Nat} {v v' : xd_V} (hl : xr_l xd_g φ L ls nL) (hv : L[ts]? = some (some (.inl v))) (h : ∀ x : Int32, xd_g v (.int x) → ls[ts]? = some (.val (.int x)) → xd_g v' (.int x)) : xr_l xd_g φ (L.set ts (some (.inl v'))) ls nL := by
  obtain ⟨h1, lv, h2, h3⟩ := hl
  refine ⟨by rw [List.length_set]; exact h1, lv, h2, fun i w hw => ?_⟩
  rcases xr_set hw with ⟨rfl, e⟩ | ⟨hne, hw⟩
  · cases Option.some.inj e
    obtain ⟨x, hx, n, rfl, hn⟩ := h3 i _ hv
    exact ⟨_, hx, n, rfl, h n hn (h2.2.2 (i, .int n) hx)⟩
  · exact h3 i w hw
end XL0
