/-! TOKENS of the class -/
def zWdC (t w : Int → Int) (p q k v : Int) : Prop := (6 < q - p ∧ k = 5) ∨ (q - p ≤ 6 ∧ ((k = 2 ∧ v = zpk t p (q - p).toNat ∧ ∀ i, 0 ≤ i → i < 33 → w i ≠ zpk t p (q - p).toNat) ∨ (k = 1 ∧ 0 ≤ v ∧ v < 33 ∧ w v = zpk t p (q - p).toNat)))
theorem zy_280_129 (n : Nat) {X : Int} {W : Int → Int} : ∀ (k : Nat) (x2 : Int) (m : zu_m), 0 ≤ x2 → x2 ≤ 33 → 33 - x2 < (k : Int) → m 46 = W → ((m 45 4 = 2 ∧ m 45 5 = X ∧ ∀ i, 0 ≤ i → i < x2 → W i ≠ X) ∨ (m 45 4 = 1 ∧ 0 ≤ m 45 5 ∧ m 45 5 < 33 ∧ W (m 45 5) = X) ∨ m 45 4 = 5) → zw (zu_ex (zt_T n) 280 129 [(22, 45), (0, X), (0, x2)] [] m) (fun _ m' => m' 45 3 = m 45 3 ∧ m' 45 6 = m 45 6 ∧ ((m' 45 4 = 2 ∧ m' 45 5 = X ∧ ∀ i, 0 ≤ i → i < 33 → W i ≠ X) ∨ (m' 45 4 = 1 ∧ 0 ≤ m' 45 5 ∧ m' 45 5 < 33 ∧ W (m' 45 5) = X) ∨ (m' 45 4 = 5 ∧ m 45 4 = 5))) := by
  intro k
  induction k with
  | zero => intro x2 m h0 h1 h2; exfalso; omega
  | succ k ih =>
    intro x2 m h0 h1 h2 hW hk
    refine zw_eq (zu_rega_at (zt_T n) (zm_280 n) (zdp_280 n) _ _ _ _ _ _ (zs_280_129 n _ _ X x2 m)) ?_
    refine zw_ite (fun h3 => ?_) (fun h3 => ?_)
    · refine zw_some ⟨rfl, rfl, ?_⟩
      rcases hk with ⟨a, b, c⟩ | hk | hk
      · exact Or.inl ⟨a, b, fun i i0 i1 => c i i0 (by omega)⟩
      · exact Or.inr (Or.inl hk)
      · exact Or.inr (Or.inr ⟨hk, hk⟩)
    refine zw_ite (fun h4 => ?_) (fun h4 => ?_)
    · refine zw_some ⟨rfl, rfl, ?_⟩
      rcases hk with ⟨a, b, c⟩ | hk | hk
      · exact absurd a h4
      · exact Or.inr (Or.inl hk)
      · exact Or.inr (Or.inr ⟨hk, hk⟩)
    have h4 : m 45 4 = 2 := Decidable.not_not.mp h4
    obtain ⟨a, b, c⟩ : m 45 4 = 2 ∧ m 45 5 = X ∧ ∀ i, 0 ≤ i → i < x2 → W i ≠ X := by
      rcases hk with hk | hk | hk
      · exact hk
      · exfalso; omega
      · exfalso; omega
    refine zw_if ⟨by omega, by omega⟩ ?_
    have w1 := zu_w32_id (z := x2 + 1) (by omega) (by omega)
    rw [w1]
    refine zw_ite (fun h5 => ?_) (fun h5 => ?_)
    · exact ih (x2 + 1) m (by omega) (by omega) (by omega) hW (Or.inl ⟨a, b, fun i i0 i1 => by
        by_cases e : i = x2
        · rw [e, ← hW]; exact h5
        · exact c i i0 (by omega)⟩)
    · have h5 : m 46 x2 = X := Decidable.not_not.mp h5
      generalize hm1 : zu_up (zu_up m 45 4 1) 45 5 x2 = m1
      have e46 : m1 46 = m 46 := by rw [← hm1]; funext i; simp [zu_up_app]
      have e3 : m1 45 3 = m 45 3 := by rw [← hm1]; simp [zu_up_app]
      have e6 : m1 45 6 = m 45 6 := by rw [← hm1]; simp [zu_up_app]
      have e4 : m1 45 4 = 1 := by rw [← hm1]; simp [zu_up_app]
      have e5 : m1 45 5 = x2 := by rw [← hm1]; simp [zu_up_app]
      refine zw_mono (ih (x2 + 1) m1 (by omega) (by omega) (by omega) (e46.trans hW) (Or.inr (Or.inl ⟨e4, by omega, by omega, by rw [e5, ← hW]; exact h5⟩))) (fun v m' h => ?_)
      obtain ⟨g1, g2, g3⟩ := h
      refine ⟨g1.trans e3, g2.trans e6, ?_⟩
      rcases g3 with g | g | g
      · exact Or.inl g
      · exact Or.inr (Or.inl g)
      · exfalso; omega
theorem zy_280_99 (n : Nat) {T W : Int → Int} {N p x1 : Int} {m : zu_m} (hp : 0 ≤ p) (hW : m 46 = W) (h6 : m 45 6 = p) (hq : m 45 3 ≤ 700) (hE : zEnd (zlet T) N p (m 45 3)) (hx : x1 = zpk T p (min 6 (m 45 3 - p).toNat)) : zw (zu_ex (zt_T n) 280 99 [(22, 45), (0, x1), (2, 0)] [] m) (fun _ m' => zEnd (zlet T) N p (m' 45 3) ∧ m' 45 6 = p ∧ zWdC T W p (m' 45 3) (m' 45 4) (m' 45 5)) := by
  have hpq := hE.1
  refine zw_eq (zu_rega_at (zt_T n) (zm_280 n) (zdp_280 n) _ _ _ _ _ _ (zs_280_99 n _ _ x1 m)) ?_
  generalize hm1 : zu_up m 45 5 x1 = m1
  have e46 : m1 46 = m 46 := by rw [← hm1]; funext i; simp [zu_up_app]
  have e3 : m1 45 3 = m 45 3 := by rw [← hm1]; simp [zu_up_app]
  have e6 : m1 45 6 = m 45 6 := by rw [← hm1]; simp [zu_up_app]
  have e5 : m1 45 5 = x1 := by rw [← hm1]; simp [zu_up_app]
  have w1 := zu_w32_id (z := m1 45 3 - m1 45 6) (by omega) (by omega)
  refine zw_ite (fun h => ?_) (fun h => ?_)
  · generalize hm2 : zu_up m1 45 4 2 = m2
    have f46 : m2 46 = W := by rw [← hW, ← e46, ← hm2]; funext i; simp [zu_up_app]
    have f3 : m2 45 3 = m 45 3 := by rw [← e3, ← hm2]; simp [zu_up_app]
    have f6 : m2 45 6 = m 45 6 := by rw [← e6, ← hm2]; simp [zu_up_app]
    have f5 : m2 45 5 = x1 := by rw [← e5, ← hm2]; simp [zu_up_app]
    have f4 : m2 45 4 = 2 := by rw [← hm2]; simp [zu_up_app]
    refine zw_mono (zy_280_129 n 34 0 m2 (by omega) (by omega) (by omega) f46 (Or.inl ⟨f4, f5, fun i i0 i1 => by omega⟩)) (fun v m' hq => ?_)
    obtain ⟨g1, g2, g3⟩ := hq
    have e : m' 45 3 = m 45 3 := g1.trans f3
    have ex : x1 = zpk T p (m' 45 3 - p).toNat := by
      rw [hx, e]
      congr 1
      omega
    refine ⟨by rw [e]; exact hE, g2.trans (f6.trans h6), Or.inr ⟨by omega, ?_⟩⟩
    rw [← ex]
    rcases g3 with g | g | ⟨-, g⟩
    · exact Or.inl g
    · exact Or.inr g
    · exfalso; omega
  · generalize hm2 : zu_up m1 45 4 5 = m2
    have f46 : m2 46 = W := by rw [← hW, ← e46, ← hm2]; funext i; simp [zu_up_app]
    have f3 : m2 45 3 = m 45 3 := by rw [← e3, ← hm2]; simp [zu_up_app]
    have f6 : m2 45 6 = m 45 6 := by rw [← e6, ← hm2]; simp [zu_up_app]
    have f4 : m2 45 4 = 5 := by rw [← hm2]; simp [zu_up_app]
    refine zw_eq (zu_rega_at (zt_T n) (zm_280 n) (zdp_280 n) _ _ _ _ _ _ (zs_280_129 n _ _ x1 0 m2)) ?_
    refine zw_ite (fun h3 => ?_) (fun h3 => ?_)
    · exfalso; omega
    refine zw_ite (fun h4 => ?_) (fun h4 => ?_)
    · exact zw_some ⟨by rw [f3]; exact hE, f6.trans h6, Or.inl ⟨by omega, f4⟩⟩
    · exfalso; omega
theorem zy_280_2 (n : Nat) {T W : Int → Int} {N p : Int} (hp : 0 ≤ p) (hN : N ≤ 700) : ∀ (k : Nat) (x1 : Int) (m : zu_m), m 4 = T → m 46 = W → m 45 2 = N → m 45 6 = p → p ≤ m 45 3 → m 45 3 ≤ 700 → (∀ i, p ≤ i → i < m 45 3 → i < N ∧ zlet T i) → x1 = zpk T p (min 6 (m 45 3 - p).toNat) → 700 - m 45 3 < (k : Int) → zw (zu_ex (zt_T n) 280 2 [(22, 45), (0, x1), (2, 0)] [] m) (fun _ m' => zEnd (zlet T) N p (m' 45 3) ∧ m' 45 6 = p ∧ zWdC T W p (m' 45 3) (m' 45 4) (m' 45 5)) := by
  intro k
  induction k with
  | zero => intro x1 m h1 h2 h3 h4 h5 h6 h7 h8 h9; exfalso; omega
  | succ k ih =>
    intro x1 m hT hW h2 h6 hpq hq hl hx hk
    refine zw_eq (zu_rega_at (zt_T n) (zm_280 n) (zdp_280 n) _ _ _ _ _ _ (zs_280_2 n _ _ x1 m)) ?_
    refine zw_ite (fun h => ?_) (fun h => ?_)
    · exact zy_280_99 n hp hW h6 hq ⟨hpq, hl, Or.inl (by omega)⟩ hx
    refine zw_if ⟨by omega, by omega⟩ ?_
    refine zw_ite (fun ha => ?_) (fun ha => ?_)
    · exact zy_280_99 n hp hW h6 hq ⟨hpq, hl, Or.inr (fun q => by unfold zlet at q; rw [← hT] at q; omega)⟩ hx
    refine zw_if ⟨by omega, by omega⟩ ?_
    refine zw_ite (fun hb => ?_) (fun hb => ?_)
    · exact zy_280_99 n hp hW h6 hq ⟨hpq, hl, Or.inr (fun q => by unfold zlet at q; rw [← hT] at q; omega)⟩ hx
    have hlet : zlet T (m 45 3) := by rw [← hT]; exact ⟨by omega, by omega⟩
    have w1 := zu_w32_id (z := m 45 3 - m 45 6) (by omega) (by omega)
    have w2 := zu_w32_id (z := m 45 3 + 1) (by omega) (by omega)
    have go : ∀ y : Int, y = zpk T p (min 6 (m 45 3 + 1 - p).toNat) → zw (zu_ex (zt_T n) 280 86 [(22, 45), (0, y), (2, 0)] [] m) (fun _ m' => zEnd (zlet T) N p (m' 45 3) ∧ m' 45 6 = p ∧ zWdC T W p (m' 45 3) (m' 45 4) (m' 45 5)) := fun y hy => by
      refine zw_eq (zu_rega_at (zt_T n) (zm_280 n) (zdp_280 n) _ _ _ _ _ _ (zs_280_86 n _ _ y m)) ?_
      rw [w2]
      generalize hm1 : zu_up m 45 3 (m 45 3 + 1) = m1
      have e4 : m1 4 = m 4 := by rw [← hm1]; funext i; simp [zu_up_app]
      have e46 : m1 46 = m 46 := by rw [← hm1]; funext i; simp [zu_up_app]
      have e2 : m1 45 2 = m 45 2 := by rw [← hm1]; simp [zu_up_app]
      have e6 : m1 45 6 = m 45 6 := by rw [← hm1]; simp [zu_up_app]
      have e3 : m1 45 3 = m 45 3 + 1 := by rw [← hm1]; simp [zu_up_app]
      refine ih y m1 (e4.trans hT) (e46.trans hW) (e2.trans h2) (e6.trans h6) (by omega) (by omega) (fun i i0 i1 => ?_) (by rw [e3]; exact hy) (by omega)
      by_cases e : i = m 45 3
      · rw [e]; exact ⟨by omega, hlet⟩
      · exact hl i i0 (by omega)
    refine zw_ite (fun hc => ?_) (fun hc => ?_)
    · refine go x1 (by rw [hx]; congr 1; omega)
    refine zw_if ⟨by omega, by omega⟩ ?_
    refine go _ ?_
    have w3 := zu_w32_id (z := m 4 (m 45 3) - 97) (by omega) (by omega)
    have w4 := zu_w32_id (z := zu_w32 (m 4 (m 45 3) - 97) + 1) (by omega) (by omega)
    have w5 := zu_w32_id (z := 5 - zu_w32 (m 45 3 - m 45 6)) (by omega) (by omega)
    have w6 := zu_w32_id (z := 5 * zu_w32 (5 - zu_w32 (m 45 3 - m 45 6))) (by omega) (by omega)
    have ej : m 45 3 = p + (((m 45 3 - p).toNat : Nat) : Int) := by omega
    rw [show min 6 (m 45 3 + 1 - p).toNat = (m 45 3 - p).toNat + 1 by omega]
    refine zpk_step (t := T) (p := p) (j := (m 45 3 - p).toNat) (by omega) (fun i hi => ?_) (by rw [hx]; congr 1; omega) ?_ (by omega)
    · by_cases e : i = (m 45 3 - p).toNat
      · rw [e, ← ej]; exact hlet
      · exact (hl (p + (i : Int)) (by omega) (by omega)).2
    · rw [← ej, w4, w3, hT]; omega
theorem zy_280 (n : Nat) {T W : Int → Int} {N p : Int} {m : zu_m} (hp : 0 ≤ p) (hN : N ≤ 700) (hT : m 4 = T) (hW : m 46 = W) (h2 : m 45 2 = N) (h6 : m 45 6 = p) (h3 : m 45 3 = p) (hp7 : p ≤ 700) : zw (zu_call (zt_T n) 280 [(22, 45)] m) (fun _ m' => zEnd (zlet T) N p (m' 45 3) ∧ m' 45 6 = p ∧ zWdC T W p (m' 45 3) (m' 45 4) (m' 45 5)) := by
  refine zw_eq (zu_call_at (zt_T n) (zm_280 n) (zdp_280 n) _ _ _ _ _ rfl (zs_280_0 n _ _ m)) ?_
  exact zy_280_2 n hp hN 702 0 m hT hW h2 h6 (by omega) (by omega) (fun i i0 i1 => by exfalso; omega) (by rw [show (m 45 3 - p).toNat = 0 by omega]; rfl) (by omega)
/-! digits -/
def zdC (t : Int → Int) (p : Int) : Nat → Int
  | 0 => 0
  | j + 1 => if zdC t p j < 1000000 then zdC t p j * 10 + t (p + (j : Int)) - 48 else 1000000
def zdR (t : Int → Int) (p : Int) : Nat → Int
  | 0 => 0
  | j + 1 => if zdR t p j ≤ 99999 then 10 * zdR t p j + t (p + (j : Int)) - 48 else zdR t p j
theorem zdCR {t : Int → Int} {p : Int} : ∀ j : Nat, (∀ i : Nat, i < j → 48 ≤ t (p + (i : Int)) ∧ t (p + (i : Int)) ≤ 57) → ((zdC t p j = zdR t p j ∧ zdC t p j ≤ 99999) ∨ (99999 < zdC t p j ∧ 99999 < zdR t p j)) ∧ 0 ≤ zdC t p j ∧ zdC t p j ≤ 10000000 ∧ 0 ≤ zdR t p j ∧ zdR t p j ≤ 1000000 := by
  intro j
  induction j with
  | zero => intro _; simp [zdC, zdR]
  | succ j ih =>
    intro h
    obtain ⟨h1, h2, h3, h4, h5⟩ := ih (fun i hi => h i (by omega))
    have h6 := h j (by omega)
    unfold zdC zdR
    split <;> split <;> omega
theorem zy_281_10 (n : Nat) {T : Int → Int} {N p : Int} (hp : 0 ≤ p) (hN : N ≤ 700) : ∀ (k : Nat) (m : zu_m), m 4 = T → m 45 2 = N → m 45 6 = p → m 45 4 = 3 → p ≤ m 45 3 → m 45 3 ≤ 700 → (∀ i, p ≤ i → i < m 45 3 → i < N ∧ zdig T i) → m 45 5 = zdC T p (m 45 3 - p).toNat → 700 - m 45 3 < (k : Int) → zw (zu_ex (zt_T n) 281 10 [(22, 45)] [] m) (fun _ m' => zEnd (zdig T) N p (m' 45 3) ∧ m' 45 6 = p ∧ m' 45 4 = 3 ∧ m' 45 5 = zdC T p (m' 45 3 - p).toNat) := by
  intro k
  induction k with
  | zero => intro m h1 h2 h3 h4 h5 h6 h7 h8 h9; exfalso; omega
  | succ k ih =>
    intro m hT h2 h6 h4 hpq hq hl hv hk
    refine zw_eq (zu_rega_at (zt_T n) (zm_281 n) (zdp_281 n) _ _ _ _ _ _ (zs_281_10 n _ _ m)) ?_
    refine zw_ite (fun h => ?_) (fun h => ?_)
    · exact zw_some ⟨⟨hpq, hl, Or.inl (by omega)⟩, h6, h4, hv⟩
    refine zw_if ⟨by omega, by omega⟩ ?_
    refine zw_ite (fun ha => ?_) (fun ha => ?_)
    · exact zw_some ⟨⟨hpq, hl, Or.inr (fun q => by unfold zdig at q; rw [← hT] at q; omega)⟩, h6, h4, hv⟩
    refine zw_if ⟨by omega, by omega⟩ ?_
    refine zw_ite (fun hb => ?_) (fun hb => ?_)
    · exact zw_some ⟨⟨hpq, hl, Or.inr (fun q => by unfold zdig at q; rw [← hT] at q; omega)⟩, h6, h4, hv⟩
    have hdig : zdig T (m 45 3) := by rw [← hT]; exact ⟨by omega, by omega⟩
    have hb2 := (zdCR (t := T) (p := p) (m 45 3 - p).toNat (fun i hi => (hl (p + (i : Int)) (by omega) (by omega)).2)).2
    rw [← hv] at hb2
    have ej : m 45 3 = p + (((m 45 3 - p).toNat : Nat) : Int) := by omega
    have w2 := zu_w32_id (z := m 45 3 + 1) (by omega) (by omega)
    have en : (m 45 3 + 1 - p).toNat = (m 45 3 - p).toNat + 1 := by omega
    have go : ∀ (y : Int) (m0 : zu_m), zu_up m 45 5 y = m0 → y = zdC T p ((m 45 3 - p).toNat + 1) → zw (zu_ex (zt_T n) 281 10 [(22, 45)] [] (zu_up m0 45 3 (zu_w32 ((m0 45 3) + 1)))) (fun _ m' => zEnd (zdig T) N p (m' 45 3) ∧ m' 45 6 = p ∧ m' 45 4 = 3 ∧ m' 45 5 = zdC T p (m' 45 3 - p).toNat) := fun y m0 hm0 hy => by
      have d3 : m0 45 3 = m 45 3 := by rw [← hm0]; simp [zu_up_app]
      rw [d3, w2]
      generalize hm1 : zu_up m0 45 3 (m 45 3 + 1) = m1
      have e4 : m1 4 = m 4 := by rw [← hm1, ← hm0]; funext i; simp [zu_up_app]
      have e2 : m1 45 2 = m 45 2 := by rw [← hm1, ← hm0]; simp [zu_up_app]
      have e6 : m1 45 6 = m 45 6 := by rw [← hm1, ← hm0]; simp [zu_up_app]
      have e44 : m1 45 4 = m 45 4 := by rw [← hm1, ← hm0]; simp [zu_up_app]
      have e5 : m1 45 5 = y := by rw [← hm1, ← hm0]; simp [zu_up_app]
      have e3 : m1 45 3 = m 45 3 + 1 := by rw [← hm1]; simp [zu_up_app]
      refine ih m1 (e4.trans hT) (e2.trans h2) (e6.trans h6) (e44.trans h4) (by omega) (by omega) (fun i i0 i1 => ?_) (by rw [e3, en, e5]; exact hy) (by omega)
      by_cases e : i = m 45 3
      · rw [e]; exact ⟨by omega, hdig⟩
      · exact hl i i0 (by omega)
    refine zw_ite (fun hc => ?_) (fun hc => ?_)
    · refine zw_if ⟨by omega, by omega⟩ ?_
      refine go _ _ rfl ?_
      have w3 := zu_w32_id (z := m 45 5 * 10) (by omega) (by omega)
      have w4 := zu_w32_id (z := zu_w32 (m 45 5 * 10) + m 4 (m 45 3)) (by omega) (by omega)
      have w5 := zu_w32_id (z := zu_w32 (zu_w32 (m 45 5 * 10) + m 4 (m 45 3)) - 48) (by omega) (by omega)
      unfold zdC
      rw [← hv, if_pos hc, ← ej, ← hT]
      omega
    · refine go _ _ rfl ?_
      unfold zdC
      rw [← hv, if_neg hc]
theorem zy_281 (n : Nat) {T : Int → Int} {N p : Int} {m : zu_m} (hp : 0 ≤ p) (hN : N ≤ 700) (hT : m 4 = T) (h2 : m 45 2 = N) (h6 : m 45 6 = p) (h3 : m 45 3 = p) (hp7 : p ≤ 700) : zw (zu_call (zt_T n) 281 [(22, 45)] m) (fun _ m' => zEnd (zdig T) N p (m' 45 3) ∧ m' 45 6 = p ∧ m' 45 4 = 3 ∧ m' 45 5 = zdC T p (m' 45 3 - p).toNat) := by
  refine zw_eq (zu_call_at (zt_T n) (zm_281 n) (zdp_281 n) _ _ _ _ _ rfl (zs_281_0 n _ _ m)) ?_
  generalize hm1 : zu_up (zu_up m 45 4 3) 45 5 0 = m1
  have e4 : m1 4 = m 4 := by rw [← hm1]; funext i; simp [zu_up_app]
  have e2 : m1 45 2 = m 45 2 := by rw [← hm1]; simp [zu_up_app]
  have e6 : m1 45 6 = m 45 6 := by rw [← hm1]; simp [zu_up_app]
  have e3 : m1 45 3 = m 45 3 := by rw [← hm1]; simp [zu_up_app]
  have e44 : m1 45 4 = 3 := by rw [← hm1]; simp [zu_up_app]
  have e5 : m1 45 5 = 0 := by rw [← hm1]; simp [zu_up_app]
  exact zy_281_10 n hp hN 702 m1 (e4.trans hT) (e2.trans h2) (e6.trans h6) e44 (by omega) (by omega) (fun i i0 i1 => by exfalso; omega) (by rw [e5, show (m1 45 3 - p).toNat = 0 by omega]; rfl) (by omega)
