/-! what both hold while they read a formula -/
theorem zdpq_mn (w : Int → Int) {n' : Nat} : ∀ d : Nat, zdpq w n' ≤ zdpq w (n' + d) := by
  intro d
  induction d with
  | zero => exact Int.le_refl _
  | succ d ih =>
    show _ ≤ zdpq w (n' + d) + (if w ((n' + d : Nat) : Int) = 0 then 1 else 0)
    split <;> omega
def zb01 (b : Bool) : Int := if b then 1 else 0
def zFM (m t : zu_m) : Prop := zWM m t ∧ (m 47 4 = t 190 47 ∧ t 190 47 ≤ 8 ∧ t 190 47 = zdpq (t 211) (t 190 45).toNat) ∧ (m 49 (t 190 47) = zb01 (zhq (t 211) (t 190 45).toNat) ∧ ∀ p : Nat, (p : Int) < t 190 45 → t 211 (p : Int) = 0 → m 49 (zdpq (t 211) p) = zb01 (zhq (t 211) p)) ∧ zord (t 211) (t 190 45).toNat ∧ (m 47 6 = t 190 49 ∧ m 47 7 = t 190 50) ∧ (m 10 5 = t 190 48 ∧ 0 ≤ t 190 48 ∧ t 190 48 ≤ 64 ∧ t 190 45 ≤ t 190 48 + t 190 47) ∧ (t 190 49 ≠ 0 → t 190 50 ≠ 0 → t 190 45 = 0 ∨ zrk (t 211 (t 190 45 - 1)) ≤ 3)
/-- one more waits: r on top; flags of the class as they were but at the place d -/
theorem zFM_push {m t m' t' : zu_m} {c r : Int} (h : zFM m t) (hz : zoq c r) (hc : m' 48 (t 190 45) = c) (hc' : ∀ i, i ≠ t 190 45 → m' 48 i = m 48 i) (hr : t' 211 (t 190 45) = r) (hr' : ∀ i, i ≠ t 190 45 → t' 211 i = t 211 i) (hW : m' 47 3 = t 190 45 + 1) (hW' : t' 190 45 = t 190 45 + 1) (h72 : t 190 45 + 1 ≤ 72) (ho : m' 47 4 = t' 190 47) (ho8 : t' 190 47 ≤ 8) (hop : (r = 0 ∧ t' 190 47 = t 190 47 + 1 ∧ m' 49 (t 190 47 + 1) = 0 ∧ ∀ i, i ≠ t 190 47 + 1 → m' 49 i = m 49 i) ∨ (r ≠ 0 ∧ t' 190 47 = t 190 47 ∧ m' 49 (t 190 47) = zb01 (decide (zrk r = 4) || zhq (t 211) (t 190 45).toNat) ∧ (∀ i, i ≠ t 190 47 → m' 49 i = m 49 i) ∧ (t 190 45 = 0 ∨ zrk (t 211 (t 190 45 - 1)) < zrk r ∨ (zrk (t 211 (t 190 45 - 1)) = 3 ∧ zrk r = 3)))) (hw : m' 47 6 = t' 190 49 ∧ m' 47 7 = t' 190 50) (hk : m' 10 5 = t' 190 48 ∧ 0 ≤ t' 190 48 ∧ t' 190 48 ≤ 64 ∧ t' 190 45 ≤ t' 190 48 + t' 190 47) (ht : t' 190 49 ≠ 0 → t' 190 50 ≠ 0 → zrk r ≤ 3) : zFM m' t' := by
  obtain ⟨⟨a1, a2, a3, a4⟩, ⟨b1, b2, b3⟩, ⟨c1, c2⟩, d, e, f, g⟩ := h
  have en : (t 190 45 + 1).toNat = (t 190 45).toNat + 1 := by omega
  have ew : (((t 190 45).toNat : Nat) : Int) = t 190 45 := by omega
  have cg : ∀ k : Nat, k < (t 190 45).toNat → t' 211 (k : Int) = t 211 (k : Int) := fun k hk => hr' _ (by omega)
  have cg' : ∀ k : Nat, k < (t 190 45).toNat → t 211 (k : Int) = t' 211 (k : Int) := fun k hk => (cg k hk).symm
  have dp : zdpq (t' 211) (t 190 45).toNat = zdpq (t 211) (t 190 45).toNat := zdpq_cg _ cg
  have hp : zhq (t' 211) (t 190 45).toNat = zhq (t 211) (t 190 45).toNat := zhq_cg _ cg
  have dpp : ∀ p : Nat, (p : Int) < t 190 45 → zdpq (t' 211) p = zdpq (t 211) p := fun p hp => zdpq_cg _ (fun k hk => cg k (by omega))
  have hpp : ∀ p : Nat, (p : Int) < t 190 45 → zhq (t' 211) p = zhq (t 211) p := fun p hp => zhq_cg _ (fun k hk => cg k (by omega))
  have dle : ∀ p : Nat, (p : Int) < t 190 45 → t 211 (p : Int) = 0 → zdpq (t 211) p + 1 ≤ t 190 47 := fun p hp h0 => by
    have h1 := zdpq_mn (t 211) (n' := p + 1) ((t 190 45).toNat - (p + 1))
    rw [show p + 1 + ((t 190 45).toNat - (p + 1)) = (t 190 45).toNat by omega, ← b3] at h1
    have h2 : zdpq (t 211) (p + 1) = zdpq (t 211) p + 1 := by
      show zdpq (t 211) p + (if t 211 (p : Int) = 0 then 1 else 0) = _
      rw [if_pos h0]
    omega
  refine ⟨⟨by omega, by omega, by omega, fun i i0 i1 => ?_⟩, ⟨ho, ho8, ?_⟩, ⟨?_, fun p p1 p0 => ?_⟩, ?_, hw, hk, fun q1 q2 => ?_⟩
  · by_cases e1 : i = t 190 45
    · rw [e1, hc, hr]; exact hz
    · rw [hc' i e1, hr' i e1]; exact a4 i i0 (by omega)
  · rw [hW', en]
    show _ = zdpq (t' 211) (t 190 45).toNat + (if t' 211 (((t 190 45).toNat : Nat) : Int) = 0 then 1 else 0)
    rw [dp, ew, hr, ← b3]
    rcases hop with ⟨h0, h1, -⟩ | ⟨h0, h1, -⟩
    · rw [if_pos h0]; exact h1
    · rw [if_neg h0, h1]; omega
  · rw [hW', en]
    show _ = zb01 (if t' 211 (((t 190 45).toNat : Nat) : Int) = 0 then false else (decide (zrk (t' 211 (((t 190 45).toNat : Nat) : Int)) = 4) || zhq (t' 211) (t 190 45).toNat))
    rw [hp, ew, hr]
    rcases hop with ⟨h0, h1, h2, -⟩ | ⟨h0, h1, h2, -⟩
    · rw [if_pos h0, h1, h2]; rfl
    · rw [if_neg h0, h1, h2]
  · rw [hW'] at p1
    by_cases e1 : (p : Int) = t 190 45
    · have ep : p = (t 190 45).toNat := by omega
      rw [e1, hr] at p0
      rw [ep, dp, hp, ← b3]
      rcases hop with ⟨h0, h1, h2, h3⟩ | ⟨h0, -⟩
      · rw [h3 _ (by omega)]; exact c1
      · exact absurd p0 h0
    · have p1' : (p : Int) < t 190 45 := by omega
      rw [hr' _ e1] at p0
      rw [dpp p p1', hpp p p1']
      have hl := dle p p1' p0
      rcases hop with ⟨h0, h1, h2, h3⟩ | ⟨h0, h1, h2, h3, -⟩
      · rw [h3 _ (by omega)]; exact c2 p p1' p0
      · rw [h3 _ (by omega)]; exact c2 p p1' p0
  · rw [hW', en]
    intro k hk h0
    by_cases e1 : k + 1 = (t 190 45).toNat
    · rw [show ((k + 1 : Nat) : Int) = t 190 45 by omega, hr] at h0 ⊢
      rw [cg k (by omega)]
      rcases hop with ⟨q, -⟩ | ⟨-, -, -, -, h5⟩
      · exact absurd q h0
      · rw [show t 190 45 - 1 = (k : Int) by omega] at h5
        rcases h5 with h5 | h5 | h5
        · exfalso; omega
        · exact Or.inl h5
        · exact Or.inr h5
    · rw [cg k (by omega), cg (k + 1) (by omega)] at *
      exact d k (by omega) h0
  · rw [hW', show t 190 45 + 1 - 1 = t 190 45 by omega, hr]
    exact Or.inr (ht q1 q2)
