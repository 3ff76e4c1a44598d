/-! what the law keeps of both sides, and what its compared calls answer -/
def zR_TA (m : zu_m) : Prop := m 4 = m 191
def zR_TP (m : zu_m) : Prop := m 3 2 = m 190 4 ∧ m 3 3 = m 190 5
theorem zR_W1_fr {m m' : zu_m} (h : ∀ (a p : Int), zin [(46, 0)] (zcls a) p = true → m' a p = m a p) (hr : zR_W1 m) : zR_W1 m' := fun i i0 i1 => (h 46 i (by rw [zq_46]; rfl)).trans (hr i i0 i1)
theorem zR_W2_fr {m m' : zu_m} (h : ∀ (a p : Int), zin [(101, 0)] (zcls a) p = true → m' a p = m a p) (hr : zR_W2 m) : zR_W2 m' := fun i i0 i1 => (h 192 i (by rw [zq_192]; rfl)).trans (hr i i0 i1)
theorem zR_BY_fr {m m' : zu_m} (h : ∀ (a p : Int), zin [(1, 0)] (zcls a) p = true → m' a p = m a p) (hr : zR_BX m) : zR_BX m' := fun i i0 i1 => (h 2 i (by rw [zq_2]; rfl)).trans (hr i i0 i1)
theorem zR_TA_fr {m m' : zu_m} (h : ∀ (a p : Int), zin [(29, 0), (100, 0)] (zcls a) p = true → m' a p = m a p) (hr : zR_TA m) : zR_TA m' := by
  unfold zR_TA at hr ⊢
  rw [funext (fun p => h 4 p (by rw [zq_4]; rfl) : ∀ p, m' 4 p = m 4 p), funext (fun p => h 191 p (by rw [zq_191]; rfl) : ∀ p, m' 191 p = m 191 p)]
  exact hr
theorem zR_TP_fr {m m' : zu_m} (h : ∀ (a p : Int), zin [(2, 3), (2, 4), (28, 5), (28, 6)] (zcls a) p = true → m' a p = m a p) (hr : zR_TP m) : zR_TP m' := by
  unfold zR_TP at hr ⊢
  rw [h 3 2 (by rw [zq_3]; rfl), h 3 3 (by rw [zq_3]; rfl), h 190 4 (by rw [zq_190]; rfl), h 190 5 (by rw [zq_190]; rfl)]
  exact hr
theorem zw_self {x : Option zu_R} {P : Int → zu_m → Prop} (h : zw x P) : zw x (fun v m => P v m ∧ x = some (v, m)) := by
  obtain ⟨v, m, e, h⟩ := h
  exact ⟨v, m, e, h, e⟩
theorem zz_textL (n : Nat) {a b : Int} (hab : b = a) (ha : -2147483648 ≤ a ∧ a ≤ 2147483647) {m m1 m2 : zu_m} {v w : Int} {W V : List (Nat × Nat)} (hI : zi_I m) (hBN : zR_BN m) (hK10 : zR_K10 m) (hW1 : zR_W1 m) (hX : zR_BX m) (hI1 : zi_I m1) (hC0 : zR_C0 m1) (hKN : zR_KN m1) (hLT : zR_LT m1) (hWD : zR_WD m1) (hW2 : zR_W2 m1) (hTA : zR_TA m) (hT : m 3 1 = m 190 1) (f1 : zfr W m m1) (d1 : zdis W [(100, 0), (28, 2), (28, 5), (28, 6)] = true) (f2 : zfr V m1 m2) (d2 : zdis V [(2, 3), (2, 4)] = true) (e1 : zu_call (zt_T n) 42 [(5, 3), (0, a)] m = some (v, m1)) (e2 : zu_call (zt_T n) 106 [(40, 190), (0, b)] m1 = some (w, m2)) : v = w ∧ (zR_TP m → zR_TP m2) := by
  subst hab
  have q := zdis_fr f1 d1
  have q2 := zdis_fr f2 d2
  have hTm : m 4 = m1 191 := hTA.trans (funext (fun p => (q 191 p (by rw [zq_191]; rfl)).symm))
  obtain ⟨h1, h2, -⟩ := zz_text0 n ha hI hBN hK10 hW1 hX hI1 hC0 hKN hLT hWD hW2 hTm (hT.trans (q 190 1 (by rw [zq_190]; rfl)).symm) v m1 e1 w m2 e2
  refine ⟨h1, fun hp => ?_⟩
  obtain ⟨p1, p2⟩ := h2 ⟨hp.1.trans (q 190 4 (by rw [zq_190]; rfl)).symm, hp.2.trans (q 190 5 (by rw [zq_190]; rfl)).symm⟩
  exact ⟨(q2 3 2 (by rw [zq_3]; rfl)).trans p1, (q2 3 3 (by rw [zq_3]; rfl)).trans p2⟩
theorem zz_feedL (n : Nat) {a1 a2 a3 a4 a5 b1 b2 b3 b4 b5 : Int} (h1 : b1 = a1) (h2 : b2 = a2) (h3 : b3 = a3) (h4 : b4 = a4) (h5 : b5 = a5) {m m1 m2 : zu_m} {v w : Int} {W V : List (Nat × Nat)} (hI : zi_I m) (hTA : zR_TA m) (hT : m 3 1 = m 190 1) (f1 : zfr W m m1) (d1 : zdis W [(100, 0), (28, 2)] = true) (f2 : zfr V m1 m2) (d2 : zdis V [(29, 0)] = true) (e1 : zu_call (zt_T n) 40 [(5, 3), (0, a1), (0, a2), (0, a3), (0, a4), (0, a5)] m = some (v, m1)) (e2 : zu_call (zt_T n) 82 [(40, 190), (0, b1), (0, b2), (0, b3), (0, b4), (0, b5)] m1 = some (w, m2)) : zR_TA m2 := by
  subst h1 h2 h3 h4 h5
  have q := zdis_fr f1 d1
  have q2 := zdis_fr f2 d2
  have hTm : m 4 = m1 191 := hTA.trans (funext (fun p => (q 191 p (by rw [zq_191]; rfl)).symm))
  have h := zz_feed n hTm (hT.trans (q 190 1 (by rw [zq_190]; rfl)).symm) (zi_rd hI zq_3 zb_2_1) v m1 e1 w m2 e2
  exact (funext (fun p => q2 4 p (by rw [zq_4]; rfl)) : m2 4 = m1 4).trans h
theorem zz_faultL (n : Nat) {a b : Int} (hab : b = a) {m m1 m2 : zu_m} {v w : Int} {W : List (Nat × Nat)} (hTP : zR_TP m) (f1 : zfr W m m1) (d1 : zdis W [(28, 5), (28, 6)] = true) (e1 : zu_call (zt_T n) 43 [(5, 3), (0, a)] m = some (v, m1)) (e2 : zu_call (zt_T n) 107 [(40, 190), (0, b)] m1 = some (w, m2)) : v = w := by
  subst hab
  have q := zdis_fr f1 d1
  rw [zu_call_at (zt_T n) (zm_43 n) (zdp_43 n) _ _ _ _ _ rfl (zr_43_0 n _ _ 3 b m)] at e1
  rw [zu_call_at (zt_T n) (zm_107 n) (zdp_107 n) _ _ _ _ _ rfl (zr_107_0 n _ _ 190 b m1), show (zu_up m1 190 2 0) 190 5 = m 3 3 from (zu_up_ne (Or.inr (by decide))).trans ((q 190 5 (by rw [zq_190]; rfl)).trans hTP.2.symm), show (zu_up m1 190 2 0) 190 4 = m 3 2 from (zu_up_ne (Or.inr (by decide))).trans ((q 190 4 (by rw [zq_190]; rfl)).trans hTP.1.symm)] at e2
  by_cases h0 : b = 0
  · rw [if_neg (fun q => q h0)] at e1 e2
    cases e1
    cases e2
    rfl
  · rw [if_pos h0] at e1 e2
    by_cases h1 : b = 1
    · rw [if_neg (fun q => q h1)] at e1 e2
      cases e1
      cases e2
      rfl
    · rw [if_pos h1] at e1 e2
      cases e1
      cases e2
      rfl
