/-! WHAT BOTH HAVE READ -/
theorem zegg {k : Int} (h0 : 0 ≤ k) (h1 : k < 16) : zcls (20 + 5 + k) = 7 := zcls_el (k := 5) (l := 16) (a := 20) (by decide +kernel) (by decide) (c := 41) zq_20 ⟨h0, h1⟩
theorem zchi {k : Int} (h0 : 0 ≤ k) (h1 : k < 4) : zcls (21 + 20 + k) = 8 := zcls_el (k := 20) (l := 4) (a := 21) (by decide +kernel) (by decide) (c := 42) zq_21 ⟨h0, h1⟩
def zDw (m t : zu_m) : Prop := m 6 0 = t 190 17 ∧ m 6 1 = t 190 18 ∧ m 5 6 = t 190 23 ∧ m 5 5 = t 190 22 ∧ m 19 2 = t 190 19 ∧ m 19 4 = t 190 20 ∧ m 10 5 = t 190 48
theorem zDw_fr {W V : List (Nat × Nat)} {m m' t t' : zu_m} (h : zDw m t) (hf : zfr W m m') (hft : zfr V t t') (hd : zdis W [(4, 1), (4, 2), (3, 7), (3, 6), (6, 3), (6, 5), (5, 6)] = true) (hd' : zdis V [(28, 18), (28, 19), (28, 24), (28, 23), (28, 20), (28, 21), (28, 49)] = true) : zDw m' t' := by
  have e := zdis_fr hf hd
  have f := zdis_fr hft hd'
  unfold zDw at h ⊢
  rw [e 6 0 (by rw [zq_6]; rfl), e 6 1 (by rw [zq_6]; rfl), e 5 6 (by rw [zq_5]; rfl), e 5 5 (by rw [zq_5]; rfl), e 19 2 (by rw [zq_19]; rfl), e 19 4 (by rw [zq_19]; rfl), e 10 5 (by rw [zq_10]; rfl), f 190 17 (by rw [zq_190]; rfl), f 190 18 (by rw [zq_190]; rfl), f 190 23 (by rw [zq_190]; rfl), f 190 22 (by rw [zq_190]; rfl), f 190 19 (by rw [zq_190]; rfl), f 190 20 (by rw [zq_190]; rfl), f 190 48 (by rw [zq_190]; rfl)]
  exact h
def zDo (m t : zu_m) : Prop := m 5 4 = t 193 0 + 64 * t 193 1 + 128 * t 193 2 + 256 * t 193 3 + 512 * t 193 4 + 1024 * t 193 5 ∧ ∀ i, 0 ≤ i → i < 6 → t 193 i = 0 ∨ t 193 i = 1
theorem zDo_fr {W V : List (Nat × Nat)} {m m' t t' : zu_m} (h : zDo m t) (hf : zfr W m m') (hft : zfr V t t') (hd : zdis W [(3, 5)] = true) (hd' : zdis V [(102, 0)] = true) : zDo m' t' := by
  have e := zdis_fr hf hd
  have f := zdis_fr hft hd'
  unfold zDo at h ⊢
  have f193 : ∀ i, t' 193 i = t 193 i := fun i => f 193 i (by rw [zq_193]; rfl)
  refine ⟨?_, fun i i0 i1 => by rw [f193]; exact h.2 i i0 i1⟩
  rw [e 5 4 (by rw [zq_5]; rfl), f193, f193, f193, f193, f193, f193]
  exact h.1
def zDk (m t : zu_m) : Prop := ∀ c, 0 ≤ c → c < 48 → m 9 c = t 195 (48 + c) ∧ (m 9 c = 0 ↔ t 196 c = 0)
theorem zDk_fr {W V : List (Nat × Nat)} {m m' t t' : zu_m} (h : zDk m t) (hf : zfr W m m') (hft : zfr V t t') (hd : zdis W [(32, 0)] = true) (hd' : zdis V [(104, 0), (105, 0)] = true) : zDk m' t' := by
  have e := zdis_fr hf hd
  have f := zdis_fr hft hd'
  unfold zDk at h ⊢
  intro c h0 h1
  rw [e 9 c (by rw [zq_9]; rfl), f 195 (48 + c) (by rw [zq_195]; rfl), f 196 c (by rw [zq_196]; rfl)]
  exact h c h0 h1
def zDe (m t : zu_m) : Prop := m 19 2 ≤ 12 ∧ ∀ k, 0 ≤ k → k < m 19 2 → m (20 + 5 + k) 0 = t 197 (18 + k) ∧ m (20 + 5 + k) 1 = t 198 (18 + k) ∧ m (20 + 5 + k) 2 = t 199 (18 + k) ∧ m (20 + 5 + k) 3 = -1
theorem zDe_fr {W V : List (Nat × Nat)} {m m' t t' : zu_m} (h : zDe m t) (hf : zfr W m m') (hft : zfr V t t') (hd : zdis W [(6, 3), (7, 1), (7, 2), (7, 3), (7, 4)] = true) (hd' : zdis V [(106, 0), (107, 0), (108, 0)] = true) : zDe m' t' := by
  have e := zdis_fr hf hd
  have f := zdis_fr hft hd'
  unfold zDe at h ⊢
  have e2 : m' 19 2 = m 19 2 := e 19 2 (by rw [zq_19]; rfl)
  rw [e2]
  refine ⟨h.1, fun k h0 h1 => ?_⟩
  have hc : zcls (20 + 5 + k) = 7 := zegg h0 (by have := h.1; omega)
  rw [e (20 + 5 + k) 0 (by rw [hc]; rfl), e (20 + 5 + k) 1 (by rw [hc]; rfl), e (20 + 5 + k) 2 (by rw [hc]; rfl), e (20 + 5 + k) 3 (by rw [hc]; rfl), f 197 (18 + k) (by rw [zq_197]; rfl), f 198 (18 + k) (by rw [zq_198]; rfl), f 199 (18 + k) (by rw [zq_199]; rfl)]
  exact h.2 k h0 h1
def zDc (m t : zu_m) : Prop := m 19 4 ≤ 4 ∧ ∀ k, 0 ≤ k → k < m 19 4 → m (21 + 20 + k) 0 = t 200 (4 + k) ∧ m (21 + 20 + k) 1 = t 201 (4 + k) ∧ m (21 + 20 + k) 2 = t 202 (4 + k) ∧ m (21 + 20 + k) 3 = t 203 (4 + k) ∧ m (21 + 20 + k) 4 = t 204 (4 + k) ∧ m (21 + 20 + k) 5 = 0 ∧ m (21 + 20 + k) 6 = 0
theorem zDc_fr {W V : List (Nat × Nat)} {m m' t t' : zu_m} (h : zDc m t) (hf : zfr W m m') (hft : zfr V t t') (hd : zdis W [(6, 5), (8, 1), (8, 2), (8, 3), (8, 4), (8, 5), (8, 6), (8, 7)] = true) (hd' : zdis V [(109, 0), (110, 0), (111, 0), (112, 0), (113, 0)] = true) : zDc m' t' := by
  have e := zdis_fr hf hd
  have f := zdis_fr hft hd'
  unfold zDc at h ⊢
  have e2 : m' 19 4 = m 19 4 := e 19 4 (by rw [zq_19]; rfl)
  rw [e2]
  refine ⟨h.1, fun k h0 h1 => ?_⟩
  have hc : zcls (21 + 20 + k) = 8 := zchi h0 (by have := h.1; omega)
  rw [e (21 + 20 + k) 0 (by rw [hc]; rfl), e (21 + 20 + k) 1 (by rw [hc]; rfl), e (21 + 20 + k) 2 (by rw [hc]; rfl), e (21 + 20 + k) 3 (by rw [hc]; rfl), e (21 + 20 + k) 4 (by rw [hc]; rfl), e (21 + 20 + k) 5 (by rw [hc]; rfl), e (21 + 20 + k) 6 (by rw [hc]; rfl), f 200 (4 + k) (by rw [zq_200]; rfl), f 201 (4 + k) (by rw [zq_201]; rfl), f 202 (4 + k) (by rw [zq_202]; rfl), f 203 (4 + k) (by rw [zq_203]; rfl), f 204 (4 + k) (by rw [zq_204]; rfl)]
  exact h.2 k h0 h1
def zDs (m t : zu_m) : Prop := m 19 10 = t 194 5 ∧ m 6 3 = t 194 6 ∧ m 6 4 = t 194 7 ∧ ((m 19 11 = t 194 8 ∧ 0 ≤ m 19 11 ∧ m 19 11 ≤ 999) ∨ (m 19 11 = 1000000 ∧ t 194 8 = -1)) ∧ m 6 5 = t 194 9
theorem zDs_fr {W V : List (Nat × Nat)} {m m' t t' : zu_m} (h : zDs m t) (hf : zfr W m m') (hft : zfr V t t') (hd : zdis W [(6, 11), (6, 12), (4, 4), (4, 5), (4, 6)] = true) (hd' : zdis V [(103, 0)] = true) : zDs m' t' := by
  have e := zdis_fr hf hd
  have f := zdis_fr hft hd'
  unfold zDs at h ⊢
  rw [e 19 10 (by rw [zq_19]; rfl), e 6 3 (by rw [zq_6]; rfl), e 6 4 (by rw [zq_6]; rfl), e 19 11 (by rw [zq_19]; rfl), e 6 5 (by rw [zq_6]; rfl), f 194 5 (by rw [zq_194]; rfl), f 194 6 (by rw [zq_194]; rfl), f 194 7 (by rw [zq_194]; rfl), f 194 8 (by rw [zq_194]; rfl), f 194 9 (by rw [zq_194]; rfl)]
  exact h
def zDl (m t : zu_m) : Prop := ∀ k, 0 ≤ k → k < 4 → (m 13 k < 0 ↔ t 205 (4 + k) = 0)
theorem zDl_fr {W V : List (Nat × Nat)} {m m' t t' : zu_m} (h : zDl m t) (hf : zfr W m m') (hft : zfr V t t') (hd : zdis W [(35, 0)] = true) (hd' : zdis V [(114, 0)] = true) : zDl m' t' := by
  have e := zdis_fr hf hd
  have f := zdis_fr hft hd'
  unfold zDl at h ⊢
  intro k h0 h1
  rw [e 13 k (by rw [zq_13]; rfl), f 205 (4 + k) (by rw [zq_205]; rfl)]
  exact h k h0 h1
def zRD (m t : zu_m) : Prop := zDw m t ∧ zDo m t ∧ zDk m t ∧ zDe m t ∧ zDc m t ∧ zDs m t ∧ zDl m t
