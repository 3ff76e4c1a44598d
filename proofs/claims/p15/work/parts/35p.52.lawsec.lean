/-! seconds: go, keep, back, text -/
theorem zy_22sa80 (n : Nat) {a0 : Int} (hd : a0 + 26 ≤ 19 ∨ 19 + 26 ≤ a0) : ∀ (k : Nat) (x : Int) (m : zu_m), 0 ≤ x → x ≤ 48 → 48 - x < (k : Int) → zl (zu_ex (zt_T n) 22 80 [(27, a0), (16, 19), (0, x)] [] m) (fun _ m' => m' a0 8 = m 19 8) := by
  intro k
  induction k with
  | zero => intro x m x0 x4 hk; exfalso; omega
  | succ k ih =>
    intro x m x0 x4 hk
    refine zl_eq (zu_rega_at (zt_T n) (zm_22 n) (zdp_22 n) _ _ _ _ _ _ (zr_22_80 n _ _ a0 19 x m)) ?_
    refine zl_ite (fun h => zl_some ?_) (fun h => ?_)
    · rw [zu_up_ne (Or.inr (by decide)), zu_up_ne (Or.inr (by decide)), zu_up_ne (Or.inr (by decide)), zu_up_eq]
    obtain ⟨h1, h2⟩ := zW17 h
    rw [zW19 x0 (Int.lt_trans h1 (by decide))]
    refine zl_if (fun _ => zl_b (zl_if (fun _ => zl_if (fun _ => zl_if (fun _ => ?_)))))
    refine zl_mono (ih (x + 1) _ (by omega) h2 (zW15 hk)) (fun _ m' hs => ?_)
    rw [hs, zu_up_ne (Or.inl (by omega)), zu_up_ne (Or.inl (by omega))]
theorem zy_22sa49 (n : Nat) {a0 : Int} (hd : a0 + 26 ≤ 19 ∨ 19 + 26 ≤ a0) : ∀ (k : Nat) (x : Int) (m : zu_m), 0 ≤ x → x ≤ 4 → 4 - x < (k : Int) → zl (zu_ex (zt_T n) 22 49 [(27, a0), (16, 19), (0, x)] [] m) (fun _ m' => m' a0 8 = m 19 8) := by
  intro k
  induction k with
  | zero => intro x m x0 x4 hk; exfalso; omega
  | succ k ih =>
    intro x m x0 x4 hk
    refine zl_eq (zu_rega_at (zt_T n) (zm_22 n) (zdp_22 n) _ _ _ _ _ _ (zr_22_49 n _ _ a0 19 x m)) ?_
    refine zl_ite (fun h => zy_22sa80 n hd 49 0 m (by decide) (by decide) (by decide)) (fun h => ?_)
    refine zl_if (fun hx => zl_if (fun _ => ?_))
    rw [zW19 x0 (Int.lt_trans hx.2 (by decide))]
    refine zl_bd (zl_mono (zy_196 n m) (fun _ m1 hs1 => ?_))
    exact zl_mono (ih (x + 1) m1 (by omega) (by omega) (zW15 hk)) (fun _ m' hs => hs.trans (hs1.2 _ (by omega) _))
theorem zy_22sa10 (n : Nat) {a0 : Int} (hd : a0 + 26 ≤ 19 ∨ 19 + 26 ≤ a0) : ∀ (k : Nat) (x : Int) (m : zu_m), 0 ≤ x → x ≤ 16 → 16 - x < (k : Int) → zl (zu_ex (zt_T n) 22 10 [(27, a0), (16, 19), (0, x)] [] m) (fun _ m' => m' a0 8 = m 19 8) := by
  intro k
  induction k with
  | zero => intro x m x0 x4 hk; exfalso; omega
  | succ k ih =>
    intro x m x0 x4 hk
    refine zl_eq (zu_rega_at (zt_T n) (zm_22 n) (zdp_22 n) _ _ _ _ _ _ (zr_22_10 n _ _ a0 19 x m)) ?_
    refine zl_ite (fun h => ?_) (fun h => ?_)
    · exact zl_mono (zy_22sa49 n hd 5 0 _ (by decide) (by decide) (by decide)) (fun _ m' hs => hs.trans (zu_up_ne (Or.inl (by omega))))
    refine zl_if (fun hx => zl_if (fun _ => ?_))
    rw [zW19 x0 (Int.lt_trans hx.2 (by decide))]
    refine zl_bd (zl_mono (zy_197 n m) (fun _ m1 hs1 => ?_))
    exact zl_mono (ih (x + 1) m1 (by omega) (by omega) (zW15 hk)) (fun _ m' hs => hs.trans (hs1 _ (by omega) _))
theorem zy_22sa (n : Nat) {a0 : Int} (hd : a0 + 26 ≤ 19 ∨ 19 + 26 ≤ a0) (m : zu_m) : zl (zu_call (zt_T n) 22 [(27, a0), (16, 19)] m) (fun _ m' => m' a0 8 = m 19 8) := by
  refine zl_eq (zu_call_at (zt_T n) (zm_22 n) (zdp_22 n) _ _ _ _ _ rfl (zr_22_0 n _ _ a0 19 m)) ?_
  exact zl_mono (zy_22sa10 n hd 17 0 _ (by decide) (by decide) (by decide)) (fun _ m' hs => hs.trans (zu_up_ne (Or.inl (by omega))))
theorem zy_22sb80 (n : Nat) {a0 a1 : Int} (hd : a0 + 26 ≤ a1 ∨ a1 + 26 ≤ a0) : ∀ (k : Nat) (x : Int) (m : zu_m), 0 ≤ x → x ≤ 48 → 48 - x < (k : Int) → zl (zu_ex (zt_T n) 22 80 [(27, a0), (27, a1), (0, x)] [] m) (fun _ m' => m' a0 8 = m a1 8) := by
  intro k
  induction k with
  | zero => intro x m x0 x4 hk; exfalso; omega
  | succ k ih =>
    intro x m x0 x4 hk
    refine zl_eq (zu_rega_at (zt_T n) (zm_22 n) (zdp_22 n) _ _ _ _ _ _ (zr_22b_80 n _ _ a0 a1 x m)) ?_
    refine zl_ite (fun h => zl_some ?_) (fun h => ?_)
    · rw [zu_up_ne (Or.inr (by decide)), zu_up_ne (Or.inr (by decide)), zu_up_ne (Or.inr (by decide)), zu_up_eq]
    obtain ⟨h1, h2⟩ := zW17 h
    rw [zW19 x0 (Int.lt_trans h1 (by decide))]
    refine zl_if (fun _ => zl_b (zl_if (fun _ => zl_if (fun _ => zl_if (fun _ => ?_)))))
    refine zl_mono (ih (x + 1) _ (by omega) h2 (zW15 hk)) (fun _ m' hs => ?_)
    rw [hs, zu_up_ne (Or.inl (by omega)), zu_up_ne (Or.inl (by omega))]
theorem zy_22sb49 (n : Nat) {a0 a1 : Int} (hd : a0 + 26 ≤ a1 ∨ a1 + 26 ≤ a0) : ∀ (k : Nat) (x : Int) (m : zu_m), 0 ≤ x → x ≤ 4 → 4 - x < (k : Int) → zl (zu_ex (zt_T n) 22 49 [(27, a0), (27, a1), (0, x)] [] m) (fun _ m' => m' a0 8 = m a1 8) := by
  intro k
  induction k with
  | zero => intro x m x0 x4 hk; exfalso; omega
  | succ k ih =>
    intro x m x0 x4 hk
    refine zl_eq (zu_rega_at (zt_T n) (zm_22 n) (zdp_22 n) _ _ _ _ _ _ (zr_22b_49 n _ _ a0 a1 x m)) ?_
    refine zl_ite (fun h => zy_22sb80 n hd 49 0 m (by decide) (by decide) (by decide)) (fun h => ?_)
    refine zl_if (fun hx => zl_if (fun _ => ?_))
    rw [zW19 x0 (Int.lt_trans hx.2 (by decide))]
    refine zl_bd (zl_mono (zy_196 n m) (fun _ m1 hs1 => ?_))
    exact zl_mono (ih (x + 1) m1 (by omega) (by omega) (zW15 hk)) (fun _ m' hs => hs.trans (hs1.2 _ (by omega) _))
theorem zy_22sb10 (n : Nat) {a0 a1 : Int} (hd : a0 + 26 ≤ a1 ∨ a1 + 26 ≤ a0) : ∀ (k : Nat) (x : Int) (m : zu_m), 0 ≤ x → x ≤ 16 → 16 - x < (k : Int) → zl (zu_ex (zt_T n) 22 10 [(27, a0), (27, a1), (0, x)] [] m) (fun _ m' => m' a0 8 = m a1 8) := by
  intro k
  induction k with
  | zero => intro x m x0 x4 hk; exfalso; omega
  | succ k ih =>
    intro x m x0 x4 hk
    refine zl_eq (zu_rega_at (zt_T n) (zm_22 n) (zdp_22 n) _ _ _ _ _ _ (zr_22b_10 n _ _ a0 a1 x m)) ?_
    refine zl_ite (fun h => ?_) (fun h => ?_)
    · exact zl_mono (zy_22sb49 n hd 5 0 _ (by decide) (by decide) (by decide)) (fun _ m' hs => hs.trans (zu_up_ne (Or.inl (by omega))))
    refine zl_if (fun hx => zl_if (fun _ => ?_))
    rw [zW19 x0 (Int.lt_trans hx.2 (by decide))]
    refine zl_bd (zl_mono (zy_197 n m) (fun _ m1 hs1 => ?_))
    exact zl_mono (ih (x + 1) m1 (by omega) (by omega) (zW15 hk)) (fun _ m' hs => hs.trans (hs1 _ (by omega) _))
theorem zy_22sb (n : Nat) {a0 a1 : Int} (hd : a0 + 26 ≤ a1 ∨ a1 + 26 ≤ a0) (m : zu_m) : zl (zu_call (zt_T n) 22 [(27, a0), (27, a1)] m) (fun _ m' => m' a0 8 = m a1 8) := by
  refine zl_eq (zu_call_at (zt_T n) (zm_22 n) (zdp_22 n) _ _ _ _ _ rfl (zr_22b_0 n _ _ a0 a1 m)) ?_
  exact zl_mono (zy_22sb10 n hd 17 0 _ (by decide) (by decide) (by decide)) (fun _ m' hs => hs.trans (zu_up_ne (Or.inl (by omega))))
/-- adoptText: the second -/
theorem zz_adoptS (n : Nat) {m : zu_m} (hI : zi_I m) (hG : m 6 2 = m 6 0 * m 6 1) (hK : zR_K10 m) : zl (zu_call (zt_T n) 19 [(5, 3)] m) (fun _ m' => m' 89 8 = m 19 8) := by
  refine zl_eq (zu_call_at (zt_T n) (zm_19 n) (zdp_19 n) _ _ _ _ _ rfl (zr_19_0 n _ _ 3 m)) ?_
  refine zl_bd (zl_mono (zl_of (zk_20 n hI zq_50 zq_6 hG hK)) (fun _ m1 hs => ?_))
  obtain ⟨I1, f1, -, -, -, k54, -⟩ := hs
  refine zl_bd (zl_mono (zl_of (zw_zl (zk_22_13_6 n I1 zq_63 zq_19) (zy_22sa n (a0 := 63) (by decide) m1))) (fun _ m2 hs => ?_))
  obtain ⟨⟨I2, f2, -⟩, a1⟩ := hs
  refine zl_bd (zl_mono (zl_of (zk_23 n I2 zq_50 zq_63 (zR_K54_fr (zdis_fr f2 rfl) k54))) (fun _ m3 hs => ?_))
  obtain ⟨I3, f3, -⟩ := hs
  refine zl_bd (zl_mono (zy_22sb n (a0 := 89) (a1 := 63) (by decide) m3) (fun _ m4 b1 => ?_))
  rw [zu_b0]
  generalize hm5 : zu_up m4 3 9 0 = m5
  refine zl_bd (zl_mono (zc_27 n m5) (fun _ m6 hs => ?_))
  obtain ⟨c1, c2⟩ := hs
  refine zl_bd (zl_mono (zc_28 n m6) (fun _ m7 d1 => zl_some ?_))
  rw [d1 89 (by decide), c2 89 (by decide), zs_ne hm5 (Or.inl (by decide)), b1, zfr_ap (p := 8) f3 zq_63 rfl, a1]
  exact zfr_ap f1 zq_19 rfl
/-- text of the class: begun, its second is 0 -/
theorem zz_text42S (n : Nat) {a : Int} {m : zu_m} (hI : zi_I m) (hBN : zR_BN m) (hK10 : zR_K10 m) : zl (zu_call (zt_T n) 42 [(5, 3), (0, a)] m) (fun v m' => v < 0 ∨ m' 89 8 = 0) := by
  have b1 := zi_rd hI zq_3 zb_2_1
  refine zl_eq (zu_call_at (zt_T n) (zm_42 n) (zdp_42 n) _ _ _ _ _ rfl (zr_42_0 n _ _ 3 a m)) ?_
  refine zl_ite (fun _ => zl_some (Or.inl (by decide))) (fun h0 => ?_)
  refine zl_ite (fun h1 => ?_) (fun _ => zl_some (Or.inl (by decide)))
  refine zl_bd (zl_mono (zl_of (zk_12k n hI zq_5 ⟨by omega, by omega⟩ hBN hK10)) (fun v m1 hs => ?_))
  obtain ⟨I1, f1, e8, -, -, -, hG, hK, -⟩ := hs
  generalize hm2 : zu_up m1 3 1 0 = m2
  have I2 := zi_up hm2 I1 zq_3 zb_2_1 (by decide) (by decide)
  generalize hm3 : zu_up m2 3 2 (m2 5 9) = m3
  have b9 := zi_rd I2 zq_5 zb_3_9
  have I3 := zi_up hm3 I2 zq_3 zb_2_2 b9.1 b9.2
  generalize hm4 : zu_up m3 3 3 (m3 5 10) = m4
  have b10 := zi_rd I3 zq_5 zb_3_10
  have I4 := zi_up hm4 I3 zq_3 zb_2_3 b10.1 b10.2
  have f4 : zfr [(2, 2), (2, 3), (2, 4)] m1 m4 := zfr_up hm4 (zfr_up hm3 (zfr_up hm2 (zfr_rf _ _) zq_3 rfl) zq_3 rfl) zq_3 rfl
  refine zl_ite (fun _ => ?_) (fun _ => zl_some (Or.inl (by decide)))
  refine zl_bd (zl_mono (zz_adoptS n I4 (zR_G6_fr (zdis_fr f4 rfl) hG) (zR_K10_fr (zdis_fr f4 rfl) hK)) (fun _ m5 h5 => zl_some (Or.inr ?_)))
  rw [h5, zfr_ap (p := 8) f4 zq_19 rfl]
  exact e8
def zR_SC (m : zu_m) : Prop := m 89 8 = m 221 0 ∧ m 3 9 = m 190 83 ∧ (m 3 9 = 1 → m 115 8 = m 190 89)
theorem zR_SC_fr {m m' : zu_m} (h : ∀ (a p : Int), zin [(16, 9), (130, 0), (2, 10), (28, 84), (19, 9), (28, 90)] (zcls a) p = true → m' a p = m a p) (hr : zR_SC m) : zR_SC m' := by
  unfold zR_SC at hr ⊢
  rw [h 89 8 (by rw [zq_89]; rfl), h 221 0 (by rw [zq_221]; rfl), h 3 9 (by rw [zq_3]; rfl), h 190 83 (by rw [zq_190]; rfl), h 115 8 (by rw [zq_115]; rfl), h 190 89 (by rw [zq_190]; rfl)]
  exact hr
/-- a method of the reference that tries: second[0] stays -/
theorem zSC_try {W : List (Nat × Nat)} {m m' : zu_m} (hr : zR_SC m) (hf : zfr W m m') (hl : m' 221 0 = m 221 0) (hd : zdis W [(16, 9), (2, 10), (28, 84), (19, 9), (28, 90)] = true) : zR_SC m' := by
  have h := zdis_fr hf hd
  unfold zR_SC at hr ⊢
  rw [h 89 8 (by rw [zq_89]; rfl), hl, h 3 9 (by rw [zq_3]; rfl), h 190 83 (by rw [zq_190]; rfl), h 115 8 (by rw [zq_115]; rfl), h 190 89 (by rw [zq_190]; rfl)]
  exact hr
theorem zz_textS (n : Nat) {a b : Int} (hab : b = a) (ha : -2147483648 ≤ a ∧ a ≤ 2147483647) {m m1 m2 : zu_m} {v w : Int} {W V : List (Nat × Nat)} (hI : zi_I m) (hBN : zR_BN m) (hK10 : zR_K10 m) (hW1 : zR_W1 m) (hX : zR_BX m) (hI1 : zi_I m1) (hC0 : zR_C0 m1) (hKN : zR_KN m1) (hLT : zR_LT m1) (hWD : zR_WD m1) (hW2 : zR_W2 m1) (hTA : zR_TA m) (hT : m 3 1 = m 190 1) (hSC : zR_SC m) (f1 : zfr W m m1) (d1 : zdis W [(100, 0), (28, 2), (28, 84), (28, 90), (130, 0)] = true) (f2 : zfr V m1 m2) (d2 : zdis V [(2, 10), (16, 9), (19, 9)] = true) (e1 : zu_call (zt_T n) 42 [(5, 3), (0, a)] m = some (v, m1)) (e2 : zu_call (zt_T n) 106 [(40, 190), (0, b)] m1 = some (w, m2)) : zR_SC m2 := by
  subst hab
  have q := zdis_fr f1 d1
  have q2 := zdis_fr f2 d2
  have hTm : m 4 = m1 191 := hTA.trans (funext (fun p => (q 191 p (by rw [zq_191]; rfl)).symm))
  obtain ⟨h1, h2, h3⟩ := zz_textD n ha hI hBN hK10 hW1 hX hI1 hC0 hKN hLT hWD hW2 hTm (hT.trans (q 190 1 (by rw [zq_190]; rfl)).symm) v m1 e1 w m2 e2
  have q83 : m1 190 83 = m 190 83 := q 190 83 (by rw [zq_190]; rfl)
  have q89 : m1 190 89 = m 190 89 := q 190 89 (by rw [zq_190]; rfl)
  have q221 : m1 221 0 = m 221 0 := q 221 0 (by rw [zq_221]; rfl)
  have c89 : m2 89 8 = m1 89 8 := q2 89 8 (by rw [zq_89]; rfl)
  have c115 : m2 115 8 = m1 115 8 := q2 115 8 (by rw [zq_115]; rfl)
  have c39 : m2 3 9 = m1 3 9 := q2 3 9 (by rw [zq_3]; rfl)
  rcases h3 with ⟨-, e3, e4⟩ | ⟨-, g1, -, -, -, g2, g3, g4⟩ | ⟨hv, -, ma, ta, p, r, s1, s2, s3, s4, s5, s6⟩
  · have x : ∀ d p, (d ≠ 190 ∨ p ≠ 2) → m2 d p = m d p := fun d p h => by rw [e4, zu_up_ne h, e3]
    unfold zR_SC
    rw [x 89 8 (Or.inl (by decide)), x 221 0 (Or.inl (by decide)), x 3 9 (Or.inl (by decide)), x 190 83 (Or.inr (by decide)), x 115 8 (Or.inl (by decide)), x 190 89 (Or.inr (by decide))]
    exact hSC
  · unfold zR_SC
    rw [c89, c39, c115, g2, g3, g4, q83, q89, q221, show m1 89 8 = m 89 8 from zfr_ap g1 zq_89 rfl, show m1 3 9 = m 3 9 from zfr_ap g1 zq_3 rfl, show m1 115 8 = m 115 8 from zfr_ap g1 zq_115 rfl]
    exact hSC
  · obtain ⟨-, -, k3, -⟩ := zz_adopt n s1.1 s3.2.2.1 s3.2.2.2.1 s3.2.2.2.2.1 p m1 s5
    obtain ⟨r1, r2, r3, r4, r5, r6, r7, r8⟩ := s4
    obtain ⟨-, -, ⟨l1, l2⟩, -⟩ := zl_of (zk_31s n s1.2.1 zq_190 r8 r2 r3 r4) r m2 s6
    have z89 : m1 89 8 = 0 := (zz_text42S n hI hBN hK10 v m1 e1).resolve_left (by omega)
    unfold zR_SC
    rw [c89, c39, z89, l1, l2, k3]
    exact ⟨rfl, rfl, fun h => absurd h (by decide)⟩
/-- go -/
theorem zz_goC (n : Nat) {a : Int} {m : zu_m} (hI : zi_I m) (hE : zE m 89 50) (hG : zgeo m 50) (hK : zR_K54 m) : zl (zu_call (zt_T n) 57 [(5, 3), (0, a)] m) (fun v m' => (¬ (0 ≤ a ∧ a ≤ 200 ∧ m 89 8 + a ≤ 9999) ∧ v = -1 ∧ m' 89 8 = m 89 8) ∨ ((0 ≤ a ∧ a ≤ 200 ∧ m 89 8 + a ≤ 9999) ∧ v = m 89 8 + a ∧ m' 89 8 = m 89 8 + a)) := by
  have b8 := zi_rd hI zq_89 zb_16_8
  refine zl_eq (zu_call_at (zt_T n) (zm_57 n) (zdp_57 n) _ _ _ _ _ rfl (zr_57_0 n _ _ 3 a m)) ?_
  refine zl_ite (fun h => zl_some (Or.inl ⟨by omega, rfl, rfl⟩)) (fun h0 => ?_)
  refine zl_ite (fun h => zl_some (Or.inl ⟨by omega, rfl, rfl⟩)) (fun h1 => ?_)
  rw [zu_w32_id (z := m 89 8 + a) (by omega) (by omega)]
  refine zl_ite (fun h2 => ?_) (fun h => zl_some (Or.inl ⟨by omega, rfl, rfl⟩))
  refine zl_bd (zl_mono (zl_of (zk_214_16 n (a0 := 89) (a1 := a) (a2 := 0) hI zq_89 ⟨by omega, by omega⟩ (by decide) h2 hE hG hK)) (fun _ m1 hs => ?_))
  obtain ⟨-, -, -, -, -, -, e8⟩ := hs
  refine zl_ite (fun _ => zl_some (Or.inr ⟨by omega, e8, e8⟩)) (fun _ => ?_)
  refine zl_bd (zl_mono (zc_28 n m1) (fun _ m2 h2' => zl_some (Or.inr ⟨by omega, ?_, ?_⟩)))
  · rw [h2' 89 (by decide)]; exact e8
  · rw [h2' 89 (by decide)]; exact e8
theorem zz_goRL (n : Nat) {a : Int} (ha : 0 ≤ a ∧ a ≤ 200) : ∀ (k : Nat) (x s : Int) (t : zu_m), zi_I t → zE1 t 0 → zR_KN t → zR_LT t → 0 ≤ x → x ≤ a → t 221 0 = s → 0 ≤ s → s + (a - x) ≤ 9999 → a - x < (k : Int) → zl (zu_ex (zt_T n) 153 38 [(40, 190), (0, a), (0, x)] [] t) (fun w t' => w = s + (a - x) ∧ t' 221 0 = s + (a - x)) := by
  intro k
  induction k with
  | zero => intro x s t _ _ _ _ x0 x1 _ _ _ hk; exfalso; omega
  | succ k ih =>
    intro x s t hI hE hKN hLT x0 x1 hs s0 s1 hk
    refine zl_eq (zu_rega_at (zt_T n) (zm_153 n) (zdp_153 n) _ _ _ _ _ _ (zr_153_38 n _ _ 190 a x t)) ?_
    refine zl_ite (fun h => ?_) (fun h => ?_)
    · have e : a - x = 0 := by omega
      rw [e, Int.add_zero]
      have z : ∀ v, (zu_up t 190 81 v) 221 0 = s := fun v => (zu_up_ne (Or.inl (by decide))).trans hs
      refine zl_ite (fun _ => zl_if (fun _ => zl_some ⟨z _, z _⟩)) (fun _ => zl_if (fun _ => zl_some ⟨z _, z _⟩))
    · refine zl_bd (zl_mono (zl_of (zk_140k n (a0 := 190) (a1 := 0) hI zq_190 (by decide) hE hKN hLT hE)) (fun _ t1 hs1 => ?_))
      obtain ⟨i1, -, l1, e1, k1, lt1, e2, -⟩ := hs1
      have n1 : t1 221 0 = s + 1 := (l1.1 rfl).trans (by rw [hs, zu_w32_id (by omega) (by omega)])
      rw [zW19 x0 (by omega)]
      refine zl_mono (ih (x + 1) (s + 1) t1 i1 e1 k1 lt1 (by omega) (by omega) n1 (by omega) (by omega) (by omega)) (fun w t' hw => ?_)
      exact ⟨by rw [hw.1]; omega, by rw [hw.2]; omega⟩
theorem zz_goR (n : Nat) {a : Int} {t : zu_m} (hI : zi_I t) (hE : zE1 t 0) (hKN : zR_KN t) (hLT : zR_LT t) (hs : 0 ≤ t 221 0 ∧ t 221 0 ≤ 9999) (ha : -2147483648 ≤ a ∧ a ≤ 2147483647) : zl (zu_call (zt_T n) 153 [(40, 190), (0, a)] t) (fun w t' => (¬ (0 ≤ a ∧ a ≤ 200 ∧ t 221 0 + a ≤ 9999) ∧ w = -1 ∧ t' 221 0 = t 221 0) ∨ ((0 ≤ a ∧ a ≤ 200 ∧ t 221 0 + a ≤ 9999) ∧ w = t 221 0 + a ∧ t' 221 0 = t 221 0 + a)) := by
  refine zl_eq (zu_call_at (zt_T n) (zm_153 n) (zdp_153 n) _ _ _ _ _ rfl (zr_153_0 n _ _ 190 a t)) ?_
  generalize ht1 : zu_up t 190 2 0 = t1
  have i1 := zi_up ht1 hI zq_190 zb_28_2 (by decide) (by decide)
  have g1 : zfr [(28, 3)] t t1 := zfr_up ht1 (zfr_rf _ _) zq_190 rfl
  have e1 : t1 221 0 = t 221 0 := zfr_ap g1 zq_221 rfl
  rw [zc_83, zu_bds, e1]
  by_cases h : 0 ≤ a ∧ a ≤ 200
  · rw [if_pos h, if_neg (show ¬ (1 : Int) = 0 by decide), if_pos (show 0 ≤ (0 : Int) ∧ (0 : Int) < 2 by decide), zu_w32_id (z := t 221 0 + a) (by omega) (by omega)]
    refine zl_ite (fun h2 => ?_) (fun h2 => zl_some (Or.inl ⟨by omega, rfl, e1⟩))
    refine zl_bd (zl_mono (zl_of (zk_35 n i1 zq_190)) (fun _ t2 hs2 => ?_))
    obtain ⟨i2, g2, -⟩ := hs2
    refine zl_mono (zz_goRL n h 201 0 (t 221 0) t2 i2 (zR_SE_fr (zdis_fr g2 rfl) (zR_SE_fr (zdis_fr g1 rfl) hE)) (zR_KN_fr (zdis_fr g2 rfl) (zR_KN_fr (zdis_fr g1 rfl) hKN)) (zR_LT_fr (zdis_fr g2 rfl) (zR_LT_fr (zdis_fr g1 rfl) hLT)) (by decide) h.1 ((zfr_ap g2 zq_221 rfl).trans e1) hs.1 (by omega) (by omega)) (fun w t' hw => Or.inr ⟨by omega, by rw [hw.1]; omega, by rw [hw.2]; omega⟩)
  · rw [if_neg h, if_pos (show (0 : Int) = 0 from rfl)]
    exact zl_some (Or.inl ⟨by omega, rfl, e1⟩)
theorem zz_goL (n : Nat) {a b : Int} (hab : b = a) (ha : -2147483648 ≤ a ∧ a ≤ 2147483647) {m m1 m2 : zu_m} {v w : Int} {W V : List (Nat × Nat)} (hI : zi_I m) (hE : zE m 89 50) (hG : zgeo m 50) (hK : zR_K54 m) (hI1 : zi_I m1) (hE1 : zE1 m1 0) (hKN : zR_KN m1) (hLT : zR_LT m1) (hSC : zR_SC m) (f1 : zfr W m m1) (d1 : zdis W [(130, 0), (2, 10), (28, 84), (19, 9), (28, 90)] = true) (f2 : zfr V m1 m2) (d2 : zdis V [(16, 9), (2, 10), (28, 84), (19, 9), (28, 90)] = true) (e1 : zu_call (zt_T n) 57 [(5, 3), (0, a)] m = some (v, m1)) (e2 : zu_call (zt_T n) 153 [(40, 190), (0, b)] m1 = some (w, m2)) : v = w ∧ zR_SC m2 := by
  subst hab
  have q := zdis_fr f1 d1
  have q2 := zdis_fr f2 d2
  have b8 := zi_rd hI zq_89 zb_16_8
  obtain ⟨s1, s2, s3⟩ := hSC
  have t0 : m1 221 0 = m 89 8 := (q 221 0 (by rw [zq_221]; rfl)).trans s1.symm
  have hc := zz_goC n hI hE hG hK v m1 e1
  have hr := zz_goR n hI1 hE1 hKN hLT (by rw [t0]; exact b8) ha w m2 e2
  rw [t0] at hr
  have k3 : m2 3 9 = m 3 9 := (q2 3 9 (by rw [zq_3]; rfl)).trans (q 3 9 (by rw [zq_3]; rfl))
  have k83 : m2 190 83 = m 190 83 := (q2 190 83 (by rw [zq_190]; rfl)).trans (q 190 83 (by rw [zq_190]; rfl))
  have k115 : m2 115 8 = m 115 8 := (q2 115 8 (by rw [zq_115]; rfl)).trans (q 115 8 (by rw [zq_115]; rfl))
  have k89 : m2 190 89 = m 190 89 := (q2 190 89 (by rw [zq_190]; rfl)).trans (q 190 89 (by rw [zq_190]; rfl))
  have c89 : m2 89 8 = m1 89 8 := q2 89 8 (by rw [zq_89]; rfl)
  have rest : m2 3 9 = m2 190 83 ∧ (m2 3 9 = 1 → m2 115 8 = m2 190 89) := by
    rw [k3, k83, k115, k89]; exact ⟨s2, s3⟩
  rcases hc with ⟨h1, h2, h3⟩ | ⟨h1, h2, h3⟩
  · rcases hr with ⟨g1, g2, g3⟩ | ⟨g1, -⟩
    · exact ⟨h2.trans g2.symm, by rw [c89, h3, g3], rest⟩
    · exact absurd g1 h1
  · rcases hr with ⟨g1, -⟩ | ⟨g1, g2, g3⟩
    · exact absurd h1 g1
    · exact ⟨h2.trans g2.symm, by rw [c89, h3, g3], rest⟩
/-- keep -/
theorem zz_keepR (n : Nat) {t : zu_m} (hI : zi_I t) : zl (zu_call (zt_T n) 192 [(40, 190)] t) (fun w t' => w = t' 221 0 ∧ t' 190 89 = t' 221 0) := by
  have l72 : ∀ (k : Nat) (x : Int) (t : zu_m), 0 ≤ x → x ≤ 48 → 48 - x < (k : Int) → zl (zu_ex (zt_T n) 192 72 [(40, 190), (0, x)] [] t) (fun w t' => w = t' 221 0 ∧ t' 190 89 = t' 221 0) := by
    intro k
    induction k with
    | zero => intro x t x0 x1 hk; exfalso; omega
    | succ k ih =>
      intro x t x0 x1 hk
      refine zl_eq (zu_rega_at (zt_T n) (zm_192 n) (zdp_192 n) _ _ _ _ _ _ (zr_192_72 n _ _ 190 x t)) ?_
      refine zl_ite (fun _ => zl_if (fun _ => zl_if (fun _ => zl_if (fun _ => zl_some ⟨rfl, ?_⟩)))) (fun h => ?_)
      · rw [zu_up_ne (Or.inr (by decide)), zu_up_eq, zu_up_ne (σ := zu_up (zu_up t 190 88 _) 190 89 _) (Or.inl (by decide)), zu_up_ne (σ := zu_up t 190 88 _) (Or.inl (by decide))]
      · obtain ⟨h1, h2⟩ := zW17 h
        rw [zW19 x0 (Int.lt_trans h1 (by decide))]
        exact zl_if (fun _ => zl_if (fun _ => ih (x + 1) _ (by omega) h2 (zW15 hk)))
  have l47 : ∀ (k : Nat) (x : Int) (t : zu_m), 0 ≤ x → x ≤ 4 → 4 - x < (k : Int) → zl (zu_ex (zt_T n) 192 47 [(40, 190), (0, x)] [] t) (fun w t' => w = t' 221 0 ∧ t' 190 89 = t' 221 0) := by
    intro k
    induction k with
    | zero => intro x t x0 x1 hk; exfalso; omega
    | succ k ih =>
      intro x t x0 x1 hk
      refine zl_eq (zu_rega_at (zt_T n) (zm_192 n) (zdp_192 n) _ _ _ _ _ _ (zr_192_47 n _ _ 190 x t)) ?_
      refine zl_ite (fun _ => l72 49 0 t (by decide) (by decide) (by decide)) (fun h => ?_)
      obtain ⟨h1, h2⟩ := zW17 h
      rw [zW19 x0 (Int.lt_trans h1 (by decide))]
      exact zl_if (fun _ => zl_if (fun _ => ih (x + 1) _ (by omega) h2 (zW15 hk)))
  have l21 : ∀ (k : Nat) (x : Int) (t : zu_m), 0 ≤ x → x ≤ 16 → 16 - x < (k : Int) → zl (zu_ex (zt_T n) 192 21 [(40, 190), (0, x)] [] t) (fun w t' => w = t' 221 0 ∧ t' 190 89 = t' 221 0) := by
    intro k
    induction k with
    | zero => intro x t x0 x1 hk; exfalso; omega
    | succ k ih =>
      intro x t x0 x1 hk
      refine zl_eq (zu_rega_at (zt_T n) (zm_192 n) (zdp_192 n) _ _ _ _ _ _ (zr_192_21 n _ _ 190 x t)) ?_
      refine zl_ite (fun _ => l47 5 0 t (by decide) (by decide) (by decide)) (fun h => ?_)
      obtain ⟨h1, h2⟩ := zW17 h
      rw [zW19 x0 (Int.lt_trans h1 (by decide))]
      exact zl_if (fun _ => zl_if (fun _ => ih (x + 1) _ (by omega) h2 (zW15 hk)))
  refine zl_eq (zu_call_at (zt_T n) (zm_192 n) (zdp_192 n) _ _ _ _ _ rfl (zr_192_0 n _ _ 190 t)) ?_
  rw [zu_b1]
  exact zl_bd (fun v t1 _ => l21 17 0 t1 (by decide) (by decide) (by decide))
theorem zz_keepL (n : Nat) {m m1 m2 : zu_m} {v w : Int} {W V : List (Nat × Nat)} (hI1 : zi_I m1) (hSE : zE1 m1 0) (hTE : zR_TE m1) (hSC : zR_SC m) (f1 : zfr W m m1) (d1 : zdis W [(16, 9), (130, 0)] = true) (f2 : zfr V m1 m2) (d2 : zdis V [(16, 9), (130, 0), (2, 10), (19, 9)] = true) (e1 : zu_call (zt_T n) 79 [(5, 3)] m = some (v, m1)) (e2 : zu_call (zt_T n) 192 [(40, 190)] m1 = some (w, m2)) : v = w ∧ zR_SC m2 := by
  have q := zdis_fr f1 d1
  have q2 := zdis_fr f2 d2
  have hc : zl (zu_call (zt_T n) 79 [(5, 3)] m) (fun v m' => v = m' 89 8 ∧ m' 115 8 = m 89 8 ∧ m' 3 9 = 1) := by
    refine zl_eq (zu_call_at (zt_T n) (zm_79 n) (zdp_79 n) _ _ _ _ _ rfl (zr_79_0 n _ _ 3 m)) ?_
    exact zl_bd (zl_mono (zy_22sb n (a0 := 115) (a1 := 89) (by decide) m) (fun _ m' hs => zl_b (zl_some ⟨rfl, (zu_up_ne (Or.inl (by decide))).trans hs, zu_up_eq⟩)))
  obtain ⟨g1, g2, g3⟩ := hc v m1 e1
  obtain ⟨h1, h2⟩ := zz_keepR n hI1 w m2 e2
  have x83 : m2 190 83 = 1 := by
    obtain ⟨-, -, -, -, -, -, -, h⟩ := zl_of (zk_192 n hI1 zq_190 hSE hTE) w m2 e2
    exact zle2 h
  have a89 : m1 89 8 = m 89 8 := q 89 8 (by rw [zq_89]; rfl)
  have a221 : m2 221 0 = m 221 0 := (q2 221 0 (by rw [zq_221]; rfl)).trans (q 221 0 (by rw [zq_221]; rfl))
  have c89 : m2 89 8 = m1 89 8 := q2 89 8 (by rw [zq_89]; rfl)
  have c3 : m2 3 9 = m1 3 9 := q2 3 9 (by rw [zq_3]; rfl)
  have c115 : m2 115 8 = m1 115 8 := q2 115 8 (by rw [zq_115]; rfl)
  refine ⟨?_, ?_, ?_, fun _ => ?_⟩
  · rw [g1, a89, h1, a221]; exact hSC.1
  · rw [c89, a89, a221]; exact hSC.1
  · rw [c3, g3, x83]
  · rw [c115, g2, h2, a221]; exact hSC.1
/-- back -/
theorem zz_backR (n : Nat) {t : zu_m} : zl (zu_call (zt_T n) 193 [(40, 190)] t) (fun w t' => (t 190 83 = 0 ∧ w = -1 ∧ t' 221 0 = t 221 0) ∨ (t 190 83 ≠ 0 ∧ w = t' 221 0 ∧ t' 221 0 = t' 190 89)) := by
  have l76 : ∀ (k : Nat) (x : Int) (t : zu_m), 0 ≤ x → x ≤ 48 → 48 - x < (k : Int) → zl (zu_ex (zt_T n) 193 76 [(40, 190), (0, x)] [] t) (fun w t' => w = t' 221 0 ∧ t' 221 0 = t' 190 89) := by
    intro k
    induction k with
    | zero => intro x t x0 x1 hk; exfalso; omega
    | succ k ih =>
      intro x t x0 x1 hk
      refine zl_eq (zu_rega_at (zt_T n) (zm_193 n) (zdp_193 n) _ _ _ _ _ _ (zr_193_76 n _ _ 190 x t)) ?_
      refine zl_ite (fun _ => zl_if (fun _ => zl_if (fun _ => zl_if (fun _ => zl_some ⟨rfl, ?_⟩)))) (fun h => ?_)
      · simp [zu_up_app]
      · obtain ⟨h1, h2⟩ := zW17 h
        rw [zW19 x0 (Int.lt_trans h1 (by decide))]
        exact zl_if (fun _ => zl_if (fun _ => ih (x + 1) _ (by omega) h2 (zW15 hk)))
  have l51 : ∀ (k : Nat) (x : Int) (t : zu_m), 0 ≤ x → x ≤ 4 → 4 - x < (k : Int) → zl (zu_ex (zt_T n) 193 51 [(40, 190), (0, x)] [] t) (fun w t' => w = t' 221 0 ∧ t' 221 0 = t' 190 89) := by
    intro k
    induction k with
    | zero => intro x t x0 x1 hk; exfalso; omega
    | succ k ih =>
      intro x t x0 x1 hk
      refine zl_eq (zu_rega_at (zt_T n) (zm_193 n) (zdp_193 n) _ _ _ _ _ _ (zr_193_51 n _ _ 190 x t)) ?_
      refine zl_ite (fun _ => l76 49 0 t (by decide) (by decide) (by decide)) (fun h => ?_)
      obtain ⟨h1, h2⟩ := zW17 h
      rw [zW19 x0 (Int.lt_trans h1 (by decide))]
      exact zl_if (fun _ => zl_if (fun _ => ih (x + 1) _ (by omega) h2 (zW15 hk)))
  have l25 : ∀ (k : Nat) (x : Int) (t : zu_m), 0 ≤ x → x ≤ 16 → 16 - x < (k : Int) → zl (zu_ex (zt_T n) 193 25 [(40, 190), (0, x)] [] t) (fun w t' => w = t' 221 0 ∧ t' 221 0 = t' 190 89) := by
    intro k
    induction k with
    | zero => intro x t x0 x1 hk; exfalso; omega
    | succ k ih =>
      intro x t x0 x1 hk
      refine zl_eq (zu_rega_at (zt_T n) (zm_193 n) (zdp_193 n) _ _ _ _ _ _ (zr_193_25 n _ _ 190 x t)) ?_
      refine zl_ite (fun _ => l51 5 0 t (by decide) (by decide) (by decide)) (fun h => ?_)
      obtain ⟨h1, h2⟩ := zW17 h
      rw [zW19 x0 (Int.lt_trans h1 (by decide))]
      exact zl_if (fun _ => zl_if (fun _ => ih (x + 1) _ (by omega) h2 (zW15 hk)))
  refine zl_eq (zu_call_at (zt_T n) (zm_193 n) (zdp_193 n) _ _ _ _ _ rfl (zr_193_0 n _ _ 190 t)) ?_
  rw [show (zu_up t 190 2 0) 190 83 = t 190 83 from zu_up_ne (Or.inr (by decide))]
  refine zl_ite (fun h => ?_) (fun h => zl_some (Or.inl ⟨Decidable.not_not.mp h, rfl, zu_up_ne (Or.inl (by decide))⟩))
  exact zl_bd (fun v t1 _ => zl_mono (l25 17 0 t1 (by decide) (by decide) (by decide)) (fun w t' hw => Or.inr ⟨h, hw⟩))
theorem zz_backL (n : Nat) {m m1 m2 : zu_m} {v w : Int} {W V : List (Nat × Nat)} (hI : zi_I m) (hSC : zR_SC m) (f1 : zfr W m m1) (d1 : zdis W [(130, 0), (2, 10), (28, 84), (19, 9), (28, 90)] = true) (f2 : zfr V m1 m2) (d2 : zdis V [(16, 9), (2, 10), (28, 84), (19, 9), (28, 90)] = true) (e1 : zu_call (zt_T n) 80 [(5, 3)] m = some (v, m1)) (e2 : zu_call (zt_T n) 193 [(40, 190)] m1 = some (w, m2)) : v = w ∧ zR_SC m2 := by
  have q := zdis_fr f1 d1
  have q2 := zdis_fr f2 d2
  have b9 := zi_rd hI zq_3 zb_2_9
  obtain ⟨s1, s2, s3⟩ := hSC
  have hc : zl (zu_call (zt_T n) 80 [(5, 3)] m) (fun v m' => (m 3 9 = 0 ∧ v = -1 ∧ m' 89 8 = m 89 8) ∨ (m 3 9 ≠ 0 ∧ v = m' 89 8 ∧ m' 89 8 = m 115 8)) := by
    refine zl_eq (zu_call_at (zt_T n) (zm_80 n) (zdp_80 n) _ _ _ _ _ rfl (zr_80_0 n _ _ 3 m)) ?_
    refine zl_ite (fun h => ?_) (fun h => zl_some (Or.inl ⟨Decidable.not_not.mp h, rfl, rfl⟩))
    exact zl_bd (zl_mono (zy_22sb n (a0 := 89) (a1 := 115) (by decide) m) (fun _ m' hs => zl_bd (zl_mono (zc_28 n m') (fun _ m2 hs2 => zl_some (Or.inr ⟨h, rfl, (hs2 _ (by decide) _).trans hs⟩)))))
  have k3 : m2 3 9 = m 3 9 := (q2 3 9 (by rw [zq_3]; rfl)).trans (q 3 9 (by rw [zq_3]; rfl))
  have t83 : m1 190 83 = m 190 83 := q 190 83 (by rw [zq_190]; rfl)
  have k83 : m2 190 83 = m 190 83 := (q2 190 83 (by rw [zq_190]; rfl)).trans t83
  have k115 : m2 115 8 = m 115 8 := (q2 115 8 (by rw [zq_115]; rfl)).trans (q 115 8 (by rw [zq_115]; rfl))
  have k89 : m2 190 89 = m 190 89 := (q2 190 89 (by rw [zq_190]; rfl)).trans (q 190 89 (by rw [zq_190]; rfl))
  have c89 : m2 89 8 = m1 89 8 := q2 89 8 (by rw [zq_89]; rfl)
  have t221 : m1 221 0 = m 221 0 := q 221 0 (by rw [zq_221]; rfl)
  have rest : m2 3 9 = m2 190 83 ∧ (m2 3 9 = 1 → m2 115 8 = m2 190 89) := by
    rw [k3, k83, k115, k89]; exact ⟨s2, s3⟩
  have hr := zz_backR n w m2 e2
  rw [t83, ← s2] at hr
  rcases hc v m1 e1 with ⟨h1, h2, h3⟩ | ⟨h1, h2, h3⟩
  · rcases hr with ⟨-, g2, g3⟩ | ⟨g1, -⟩
    · exact ⟨h2.trans g2.symm, by rw [c89, h3, g3, t221]; exact s1, rest⟩
    · exact absurd h1 g1
  · rcases hr with ⟨g1, -⟩ | ⟨-, g2, g3⟩
    · exact absurd g1 h1
    · have e9 : m 3 9 = 1 := by omega
      have e : m1 89 8 = m2 221 0 := by rw [h3, g3, k89]; exact s3 e9
      exact ⟨by rw [h2, g2, e], by rw [c89]; exact e, rest⟩
