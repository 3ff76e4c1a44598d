/-! what the law keeps for alike, and what alike answers -/
def zR_LK (m : zu_m) : Prop := zLK m m ∧ zNA m m ∧ zNG m m ∧ m 50 2 = m 190 12 * m 190 13
theorem zLK_mv {m m' t t' : zu_m} (h : zLK m t ∧ zNA m t ∧ zNG m t ∧ m 50 2 = t 190 12 * t 190 13) (e502 : m' 50 2 = m 50 2) (e52 : ∀ p, m' 52 p = m 52 p) (e53 : ∀ p, m' 53 p = m 53 p) (e55 : ∀ p, m' 55 p = m 55 p) (e56 : ∀ p, m' 56 p = m 56 p) (e57 : ∀ p, m' 57 p = m 57 p) (e58 : ∀ p, m' 58 p = m 58 p) (e60 : ∀ p, m' 60 p = m 60 p) (ht : zLW2 t t') : zLK m' t' ∧ zNA m' t' ∧ zNG m' t' ∧ m' 50 2 = t' 190 12 * t' 190 13 := by
  obtain ⟨h1, h2, h3, h4⟩ := h
  obtain ⟨⟨w1, w2, w3⟩, w4, w5⟩ := ht
  have cg : ∀ (f : Int) (k : Nat), 0 ≤ f → f + (k : Int) ≤ 64 → zstk (fun q => t' 208 q) f k = zstk (fun q => t 208 q) f k := fun f k f0 hk => zstk_cg k (fun j hj => (w3 _ (by omega) (by omega)).1)
  have hLT2 := zNA_LT h2
  have vl : ∀ (nm V0 : Int → Int) (f : Int) (k : Nat), 0 ≤ f → f + (k : Int) ≤ 64 → zvl (fun q => t' 208 q) (fun q => t' 209 q) (fun q => t' 210 q) nm V0 f k = zvl (fun q => t 208 q) (fun q => t 209 q) (fun q => t 210 q) nm V0 f k := fun nm V0 f k f0 => by
    induction k with
    | zero => intro _; rfl
    | succ k ih =>
      intro hk
      show (zvl _ _ _ nm V0 f k).bind _ = (zvl _ _ _ nm V0 f k).bind _
      rw [ih (by omega)]
      congr 1
      obtain ⟨a, b, c⟩ := w3 (f + (k : Int)) (by omega) (by omega)
      refine funext (fun V => ?_)
      show (zvkn nm V (t' 208 (f + (k : Int))) (t' 209 (f + (k : Int))) (t' 210 (f + (k : Int)))).map _ = (zvkn nm V (t 208 (f + (k : Int))) (t 209 (f + (k : Int))) (t 210 (f + (k : Int)))).map _
      rw [a, b, c]
  refine ⟨fun c c0 c1 V0 => ?_, fun L l0 l1 => ?_, ?_, by rw [e502, w4, w5]; exact h4⟩
  · rw [e502] at c1
    have b48 := h3.1
    have e195 := w1 c c0 (by omega)
    have en : znH t' c = znH t c := by unfold znH; rw [e195, w4]
    rw [e60, h1 c c0 c1 V0, e195, en]
    obtain ⟨a, b, d⟩ := w2 1 (by decide) (by decide)
    unfold zvO
    rw [a, b, d]
    by_cases h5 : t 205 1 = 0
    · rw [if_pos h5, if_pos h5]
    · obtain ⟨p1, p2, p3⟩ := hLT2 1 (by decide) (by decide) h5
      rw [if_neg h5, if_neg h5, vl _ V0 (t 206 1) _ p1 (by omega)]
  · obtain ⟨a, b, d⟩ := w2 L l0 l1
    obtain ⟨n1, n2⟩ := h2 L l0 l1
    unfold zNW
    rw [e57, e58, a, b, d]
    refine ⟨n1, fun h0 => ?_⟩
    obtain ⟨p1, p2, p3, p4, p5, p6⟩ := n2 h0
    refine ⟨p1, p2, p3, p4, fun i hi => ?_, ?_⟩
    · obtain ⟨x, y, z⟩ := w3 (m 57 L + (i : Int)) (by omega) (by omega)
      rw [e55, e56, x, y, z, cg _ i h0 (by omega)]
      exact p5 i hi
    · rw [cg _ _ h0 (by omega)]
      exact p6
  · obtain ⟨g1, g2, g3⟩ := h3
    refine ⟨by rw [e502]; exact g1, by rw [w4]; exact g2, fun c c0 c1 => ?_⟩
    rw [e502] at c1
    rw [e52, e53, w1 c c0 (by omega), w4]
    exact g3 c c0 c1
theorem zR_LK_fr {m m' : zu_m} (h : ∀ (a p : Int), zin [(11, 3), (50, 0), (51, 0), (52, 0), (53, 0), (54, 0), (55, 0), (57, 0), (28, 13), (28, 14), (104, 0), (114, 0), (115, 0), (116, 0), (117, 0), (118, 0), (119, 0)] (zcls a) p = true → m' a p = m a p) (hr : zR_LK m) : zR_LK m' :=
  zLK_mv hr (h 50 2 (by rw [zq_50]; rfl)) (fun p => h 52 p (by rw [zq_52]; rfl)) (fun p => h 53 p (by rw [zq_53]; rfl)) (fun p => h 55 p (by rw [zq_55]; rfl)) (fun p => h 56 p (by rw [zq_56]; rfl)) (fun p => h 57 p (by rw [zq_57]; rfl)) (fun p => h 58 p (by rw [zq_58]; rfl)) (fun p => h 60 p (by rw [zq_60]; rfl)) ⟨⟨fun i _ _ => h 195 i (by rw [zq_195]; rfl), fun i _ _ => ⟨h 205 i (by rw [zq_205]; rfl), h 206 i (by rw [zq_206]; rfl), h 207 i (by rw [zq_207]; rfl)⟩, fun i _ _ => ⟨h 208 i (by rw [zq_208]; rfl), h 209 i (by rw [zq_209]; rfl), h 210 i (by rw [zq_210]; rfl)⟩⟩, h 190 12 (by rw [zq_190]; rfl), h 190 13 (by rw [zq_190]; rfl)⟩
theorem zz_alikeL (n : Nat) {a b : Int} (hab : b = a) {m m1 m2 : zu_m} {v w : Int} {W : List (Nat × Nat)} (hI : zi_I m) (hI1 : zi_I m1) (hKN : zR_KN m1) (hLT : zR_LT m1) (hLK : zR_LK m) (f1 : zfr W m m1) (d1 : zdis W [(11, 3), (50, 0), (51, 0), (52, 0), (53, 0), (54, 0), (55, 0), (57, 0), (28, 13), (28, 14), (104, 0), (114, 0), (115, 0), (116, 0), (117, 0), (118, 0), (119, 0)] = true) (e1 : zu_call (zt_T n) 67 [(5, 3), (0, a)] m = some (v, m1)) (e2 : zu_call (zt_T n) 172 [(40, 190), (0, b)] m1 = some (w, m2)) : v = w := by
  subst hab
  obtain ⟨h1, h2, h3, h4⟩ := zR_LK_fr (zdis_fr f1 d1) hLK
  have q := zdis_fr f1 d1
  have e502 : m1 50 2 = m 50 2 := q 50 2 (by rw [zq_50]; rfl)
  have e60 : (fun i => m1 60 i) = (fun i => m 60 i) := funext (fun p => q 60 p (by rw [zq_60]; rfl))
  have b2 := zi_rd hI1 zq_50 zb_11_2
  have hv := (zl_of (zv_67 n (w := b) hI) v m1 e1).2
  have hw := zl_of (zv_172 n (a1 := b) (g := fun i => m1 60 i) (m1 50 2).toNat (by omega) (fun i _ => zi_rd hI1 zq_60 (zb_57 _)) hI1 hKN hLT (zNA_LT h2) h3.2.1 (by rw [← h4]; omega) (fun c c0 c1 V0 => (h1 c c0 (by rw [h4]; exact c1) V0).symm)) w m2 e2
  rw [hv, hw, e502, e60]
theorem zLW2_rf (t : zu_m) : zLW2 t t := ⟨zlw_rf t, rfl, rfl⟩
theorem zz_textA (n : Nat) {a b : Int} (hab : b = a) (ha : -2147483648 ≤ a ∧ a ≤ 2147483647) {m m1 m2 : zu_m} {v w : Int} {W V : List (Nat × Nat)} (hI : zi_I m) (hBN : zR_BN m) (hK10 : zR_K10 m) (hW1 : zR_W1 m) (hX : zR_BX m) (hI1 : zi_I m1) (hC0 : zR_C0 m1) (hKN : zR_KN m1) (hLT : zR_LT m1) (hWD : zR_WD m1) (hW2 : zR_W2 m1) (hTA : zR_TA m) (hT : m 3 1 = m 190 1) (hLK : zR_LK m) (f1 : zfr W m m1) (d1 : zdis W [(100, 0), (28, 2), (104, 0), (114, 0), (115, 0), (116, 0), (117, 0), (118, 0), (119, 0), (28, 13), (28, 14)] = true) (f2 : zfr V m1 m2) (d2 : zdis V [(11, 3), (50, 0), (51, 0), (52, 0), (53, 0), (54, 0), (55, 0), (57, 0)] = true) (e1 : zu_call (zt_T n) 42 [(5, 3), (0, a)] m = some (v, m1)) (e2 : zu_call (zt_T n) 106 [(40, 190), (0, b)] m1 = some (w, m2)) : zR_LK m2 := by
  subst hab
  have q := zdis_fr f1 d1
  have q2 := zdis_fr f2 d2
  have hTm : m 4 = m1 191 := hTA.trans (funext (fun p => (q 191 p (by rw [zq_191]; rfl)).symm))
  have hLm : m 3 1 = m1 190 1 := hT.trans (q 190 1 (by rw [zq_190]; rfl)).symm
  by_cases hv : 0 ≤ v
  · have h := zz_textLK n ha hI hBN hK10 hW1 hX hI1 hC0 hKN hLT hWD hW2 hTm hLm v m1 e1 w m2 e2 hv
    exact zLK_mv h (q2 50 2 (by rw [zq_50]; rfl)) (fun p => q2 52 p (by rw [zq_52]; rfl)) (fun p => q2 53 p (by rw [zq_53]; rfl)) (fun p => q2 55 p (by rw [zq_55]; rfl)) (fun p => q2 56 p (by rw [zq_56]; rfl)) (fun p => q2 57 p (by rw [zq_57]; rfl)) (fun p => q2 58 p (by rw [zq_58]; rfl)) (fun p => q2 60 p (by rw [zq_60]; rfl)) (zLW2_rf m2)
  · obtain ⟨hvw, -, hh⟩ := zz_textD n ha hI hBN hK10 hW1 hX hI1 hC0 hKN hLT hWD hW2 hTm hLm v m1 e1 w m2 e2
    have g2 : zLW2 m m2 := zLW2_tr (zLW2_fr f1 (by
      unfold zdis at d1 ⊢
      rw [List.all_eq_true] at d1 ⊢
      intro x hx
      have h := d1 x hx
      simp only [List.all_cons, Bool.and_eq_true] at h ⊢
      obtain ⟨h1, h2, h3, h4, h5, h6, h7, h8, h9, h10, h11, h12⟩ := h
      exact ⟨h3, h4, h5, h6, h7, h8, h9, h10, h11, h12⟩)) (zz_106f n hI1 hC0 hKN hLT hWD w m2 e2 (by omega))
    have key : ∀ d p, zin [(11, 3), (50, 0), (51, 0), (52, 0), (53, 0), (54, 0), (55, 0), (57, 0)] (zcls d) p = true → m1 d p = m d p := fun d p hd => by
      rcases hh with ⟨-, h, -⟩ | ⟨-, h, -⟩ | ⟨h, -⟩
      · rw [h]
      · exact zdis_fr h rfl d p hd
      · exact absurd h hv
    have k2 : ∀ d p, zin [(11, 3), (50, 0), (51, 0), (52, 0), (53, 0), (54, 0), (55, 0), (57, 0)] (zcls d) p = true → m2 d p = m d p := fun d p hd => (q2 d p hd).trans (key d p hd)
    exact zLK_mv hLK (k2 50 2 (by rw [zq_50]; rfl)) (fun p => k2 52 p (by rw [zq_52]; rfl)) (fun p => k2 53 p (by rw [zq_53]; rfl)) (fun p => k2 55 p (by rw [zq_55]; rfl)) (fun p => k2 56 p (by rw [zq_56]; rfl)) (fun p => k2 57 p (by rw [zq_57]; rfl)) (fun p => k2 58 p (by rw [zq_58]; rfl)) (fun p => k2 60 p (by rw [zq_60]; rfl)) g2
