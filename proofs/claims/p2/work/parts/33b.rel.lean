/-! relations between places -/
def zdis (W S : List (Nat × Nat)) : Bool := W.all (fun q => S.all (fun r => !(Nat.beq q.1 r.1 && (Nat.beq q.2 0 || Nat.beq r.2 0 || Nat.beq q.2 r.2))))
theorem zin_ex {W : List (Nat × Nat)} {c : Nat} {p : Int} (h : zin W c p = true) : ∃ q ∈ W, q.1 = c ∧ (q.2 = 0 ∨ (q.2 : Int) = p + 1) := by
  obtain ⟨q, hq, h1⟩ := List.any_eq_true.mp h
  obtain ⟨h2, h3⟩ := Bool.and_eq_true_iff.mp h1
  refine ⟨q, hq, Nat.eq_of_beq_eq_true h2, ?_⟩
  rcases Bool.or_eq_true_iff.mp h3 with h4 | h4
  · exact Or.inl (Nat.eq_of_beq_eq_true h4)
  · exact Or.inr (of_decide_eq_true h4)
theorem zdis_fr {W S : List (Nat × Nat)} {m m' : zu_m} (hf : zfr W m m') (hd : zdis W S = true) : ∀ (a p : Int), zin S (zcls a) p = true → m' a p = m a p := by
  intro a p hs
  refine hf a p ?_
  cases hw : zin W (zcls a) p with
  | false => rfl
  | true =>
    obtain ⟨q, hq, h1, h2⟩ := zin_ex hw
    obtain ⟨r, hr, h3, h4⟩ := zin_ex hs
    have h5 := List.all_eq_true.mp (List.all_eq_true.mp hd q hq) r hr
    have h6 : Nat.beq q.1 r.1 = true := by rw [h1, h3]; exact Nat.beq_refl _
    have h7 : (Nat.beq q.2 0 || Nat.beq r.2 0 || Nat.beq q.2 r.2) = true := by
      rcases h2 with h2 | h2
      · rw [h2]; rfl
      · rcases h4 with h4 | h4
        · rw [h4]; cases Nat.beq q.2 0 <;> rfl
        · have : q.2 = r.2 := by omega
          rw [this, Nat.beq_refl]
          cases (Nat.beq r.2 0 || Nat.beq r.2 0) <;> rfl
    rw [h6, h7] at h5
    cases h5
def zR_K54 (m : zu_m) : Prop := ∀ (a i : Int), zcls a = 12 → 0 ≤ i → i < 64 → m (a + 1) i = 17 → 0 ≤ m (a + 2) i ∧ m (a + 2) i ≤ 6
theorem zR_K54_fr {m m' : zu_m} (h : ∀ (a p : Int), zin [(52, 0), (53, 0)] (zcls a) p = true → m' a p = m a p) (hr : zR_K54 m) : zR_K54 m' := fun a i ha h0 h1 hk => by
  rw [h (a + 1) i (by rw [zc_12_0 ha]; rfl)] at hk
  rw [h (a + 2) i (by rw [zc_12_1 ha]; rfl)]
  exact hr a i ha h0 h1 hk
def zR_K10 (m : zu_m) : Prop := ∀ (a i : Int), zcls a = 5 → 0 ≤ i → i < 64 → m (a + 1) i = 17 → 0 ≤ m (a + 2) i ∧ m (a + 2) i ≤ 6
theorem zR_K10_fr {m m' : zu_m} (h : ∀ (a p : Int), zin [(33, 0), (34, 0)] (zcls a) p = true → m' a p = m a p) (hr : zR_K10 m) : zR_K10 m' := fun a i ha h0 h1 hk => by
  rw [h (a + 1) i (by rw [zc_5_0 ha]; rfl)] at hk
  rw [h (a + 2) i (by rw [zc_5_1 ha]; rfl)]
  exact hr a i ha h0 h1 hk
theorem zone_54 {a : Int} (h : zcls a = 12) : a = 54 := by
  obtain ⟨n, rfl, hn, h1⟩ := zcls_inv h (by decide)
  have h2 : (List.range 234).all (fun n => !(Nat.beq (zt_clz.getD n 0) 12) || Nat.beq n 54) = true := by decide +kernel
  have h3 := List.all_eq_true.mp h2 n (List.mem_range.mpr hn)
  rw [h1] at h3
  exact congrArg Int.ofNat (Nat.eq_of_beq_eq_true h3)
theorem zone_10 {a : Int} (h : zcls a = 5) : a = 10 := by
  obtain ⟨n, rfl, hn, h1⟩ := zcls_inv h (by decide)
  have h2 : (List.range 234).all (fun n => !(Nat.beq (zt_clz.getD n 0) 5) || Nat.beq n 10) = true := by decide +kernel
  have h3 := List.all_eq_true.mp h2 n (List.mem_range.mpr hn)
  rw [h1] at h3
  exact congrArg Int.ofNat (Nat.eq_of_beq_eq_true h3)
theorem zone_190 {a : Int} (h : zcls a = 28) : a = 190 := by
  obtain ⟨n, rfl, hn, h1⟩ := zcls_inv h (by decide)
  have h2 : (List.range 234).all (fun n => !(Nat.beq (zt_clz.getD n 0) 28) || Nat.beq n 190) = true := by decide +kernel
  have h3 := List.all_eq_true.mp h2 n (List.mem_range.mpr hn)
  rw [h1] at h3
  exact congrArg Int.ofNat (Nat.eq_of_beq_eq_true h3)
theorem zK_lay {m0 m1 m2 : zu_m} {a p q k v : Int} (hm1 : zu_up m0 (a + 1) p k = m1) (hm2 : zu_up m1 (a + 2) q v = m2) (hpq : q = p) (hk : k = 17 → (0 ≤ v ∧ v ≤ 6)) (hr : zR_K10 m0) (hc : zcls a = 5) : zR_K10 m2 := fun b i hb h0 h1 h17 => by
  have e : b = a := (zone_10 hb).trans (zone_10 hc).symm
  subst e
  subst hpq
  by_cases hi : i = q
  · subst hi
    rw [zs_ne hm2 (Or.inl (by omega)), zs_eq hm1] at h17
    rw [zs_eq hm2]
    exact hk h17
  · rw [zs_ne hm2 (Or.inl (by omega)), zs_ne hm1 (Or.inr hi)] at h17
    rw [zs_ne hm2 (Or.inr hi), zs_ne hm1 (Or.inl (by omega))]
    exact hr b i hb h0 h1 h17
theorem zK_copy {m0 m1 m2 : zu_m} {a b : Int} (hm1 : zu_cp m0 (b + 1) 0 (a + 1) 0 64 = m1) (hm2 : zu_cp m1 (b + 2) 0 (a + 2) 0 64 = m2) (hr : zR_K10 m0) (ha : zcls a = 12) (hb : zcls b = 5) : zR_K54 m2 := fun c i hc h0 h1 h17 => by
  have e : c = a := (zone_54 hc).trans (zone_54 ha).symm
  subst e
  have ea := zone_54 ha
  have eb := zone_10 hb
  have e1 : m2 (c + 1) i = m0 (b + 1) i := by
    rw [← hm2]
    unfold zu_cp
    rw [if_neg (by omega), ← hm1]
    unfold zu_cp
    rw [if_pos (by omega)]
    congr 1
    omega
  have e2 : m2 (c + 2) i = m0 (b + 2) i := by
    rw [← hm2]
    unfold zu_cp
    rw [if_pos (by omega), ← hm1]
    unfold zu_cp
    rw [if_neg (by omega)]
    congr 1
    omega
  rw [e1] at h17
  rw [e2]
  exact hr b i hb h0 h1 h17
def zR_NS (m : zu_m) : Prop := ∀ (a : Int), zcls a = 28 → m a 7 ≤ m a 6
theorem zR_NS_fr {m m' : zu_m} (h : ∀ (a p : Int), zin [(28, 7), (28, 8)] (zcls a) p = true → m' a p = m a p) (hr : zR_NS m) : zR_NS m' := fun a ha => by
  rw [h a 7 (by rw [ha]; rfl), h a 6 (by rw [ha]; rfl)]
  exact hr a ha
theorem zR_NS_of {m : zu_m} {a : Int} (hc : zcls a = 28) (h : m a 7 ≤ m a 6) : zR_NS m := fun b hb => by
  have e : b = a := (zone_190 hb).trans (zone_190 hc).symm
  rw [e]
  exact h
def zR_WD (m : zu_m) : Prop := m 192 156 = 32
theorem zR_WD_fr {m m' : zu_m} (h : ∀ (a p : Int), zin [(101, 0)] (zcls a) p = true → m' a p = m a p) (hr : zR_WD m) : zR_WD m' := (h 192 156 (by rw [zq_192]; rfl)).trans hr
def zR_TV (m : zu_m) : Prop := ∀ (a : Int), zcls a = 9 → m a 4 = 4 → (0 ≤ m a 5 ∧ m a 5 ≤ 12)
theorem zR_TV_fr {m m' : zu_m} (h : ∀ (a p : Int), zin [(9, 5), (9, 6)] (zcls a) p = true → m' a p = m a p) (hr : zR_TV m) : zR_TV m' := fun a ha => by
  rw [h a 4 (by rw [ha]; rfl), h a 5 (by rw [ha]; rfl)]
  exact hr a ha
theorem zone_45 {a : Int} (h : zcls a = 9) : a = 45 := by
  obtain ⟨n, rfl, hn, h1⟩ := zcls_inv h (by decide)
  have h2 : (List.range 234).all (fun n => !(Nat.beq (zt_clz.getD n 0) 9) || Nat.beq n 45) = true := by decide +kernel
  have h3 := List.all_eq_true.mp h2 n (List.mem_range.mpr hn)
  rw [h1] at h3
  exact congrArg Int.ofNat (Nat.eq_of_beq_eq_true h3)
theorem zR_TV_of {m : zu_m} {a : Int} (hc : zcls a = 9) (h : m a 4 = 4 → (0 ≤ m a 5 ∧ m a 5 ≤ 12)) : zR_TV m := fun b hb => by
  have e : b = a := (zone_45 hb).trans (zone_45 hc).symm
  rw [e]
  exact h
