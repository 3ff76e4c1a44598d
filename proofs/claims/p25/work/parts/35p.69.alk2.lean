/-! alike answers alike -/
def zan (b S Q : Int) : Int := if S = 0 then -1 else if b = 0 then Int.tdiv (S * S) (Int.gcd (S * S) Q : Int) else Int.tdiv Q (Int.gcd (S * S) Q : Int)
theorem ztd_b {a b : Int} (ha : 0 ≤ a) (hb : 0 ≤ b) : 0 ≤ Int.tdiv a b ∧ Int.tdiv a b ≤ a := by
  rw [Int.tdiv_eq_ediv_of_nonneg ha]
  exact ⟨Int.ediv_nonneg ha hb, Int.ediv_le_self _ ha⟩
theorem zSS_b {S : Int} (h0 : 0 ≤ S) (h1 : S ≤ 47952) : 0 ≤ S * S ∧ S * S ≤ 2299394304 := ⟨Int.mul_nonneg h0 h0, Int.le_trans (Int.mul_le_mul h1 h1 h0 (by decide)) (by decide)⟩
theorem zSS_0 {S : Int} (h : S ≠ 0) : S * S ≠ 0 := fun q => by
  rcases Int.mul_eq_zero.mp q with q | q <;> exact h q
theorem zgcd_0 {a b : Int} (h : a ≠ 0) : (Int.gcd a b : Int) ≠ 0 := fun q => h (Int.gcd_eq_zero_iff.mp (show Int.gcd a b = 0 by omega)).1
theorem zv_255L (n : Nat) {a1 : Int} {m : zu_m} (N : Nat) (hN : m 50 2 = (N : Int)) (hN48 : N ≤ 48) (hg : ∀ i : Nat, i < N → 0 ≤ m 60 (i : Int) ∧ m 60 (i : Int) ≤ 999) : ∀ (g k : Nat), k + g = N → zw (zu_ex (zt_T n) 255 8 [(8, 50), (0, a1), (1, zS (fun i => m 60 i) k), (2, 0), (1, zQ (fun i => m 60 i) k), (2, 0), (0, (k : Int)), (2, 0)] [] m) (fun v m' => m' = m ∧ v = zan a1 (zS (fun i => m 60 i) N) (zQ (fun i => m 60 i) N)) := by
  intro g
  induction g with
  | zero =>
    intro k hk
    have hk : k = N := hk
    subst hk
    refine zw_eq (zu_rega_at (zt_T n) (zm_255 n) (zdp_255 n) _ _ _ _ _ _ (zr_255_8 n _ _ 50 a1 _ _ _ m)) ?_
    obtain ⟨b1, b2, b3, b4, b5⟩ := zS_b k hg
    generalize zS (fun i => m 60 i) k = S at *
    generalize zQ (fun i => m 60 i) k = Q at *
    obtain ⟨c1, c2⟩ := zSS_b b1 (by omega)
    rw [hN, if_pos (Int.le_refl _), zu_w64_id (z := S * S) (by omega) (by omega)]
    refine zw_bd (zw_mono (zv_256 n c1 b3 (by omega)) (fun v m' hs => ?_))
    obtain ⟨rfl, hv⟩ := hs
    subst hv
    unfold zan
    by_cases e : S = 0
    · have e2 := b5 e
      rw [if_pos e, e, e2, if_neg (show ¬ zu_lcmp ((Int.gcd (0 * 0) 0 : Nat) : Int) 0 ≠ 0 from fun q => q (zlc_eq.mpr rfl))]
      exact zw_some ⟨rfl, rfl⟩
    · have g0 := zgcd_0 (b := Q) (zSS_0 e)
      rw [if_neg e, if_pos (zlc_ne.mpr g0)]
      refine zw_ite (fun ha => ?_) (fun ha => ?_)
      · rw [if_neg g0, if_pos ha]
        have d := ztd_b (b := (Int.gcd (S * S) Q : Int)) c1 (by omega)
        rw [zu_w64_id (by omega) (by omega)]
        exact zw_some ⟨rfl, rfl⟩
      · rw [if_neg g0, if_neg ha]
        have d := ztd_b (b := (Int.gcd (S * S) Q : Int)) b3 (by omega)
        rw [zu_w64_id (by omega) (by omega)]
        exact zw_some ⟨rfl, rfl⟩
  | succ g ih =>
    intro k hk
    refine zw_eq (zu_rega_at (zt_T n) (zm_255 n) (zdp_255 n) _ _ _ _ _ _ (zr_255_8 n _ _ 50 a1 _ _ _ m)) ?_
    obtain ⟨b1, b2, b3, b4, b5⟩ := zS_b (g := fun i => m 60 i) k (fun i hi => hg i (by omega))
    have gk := hg k (by omega)
    obtain ⟨c1, c2⟩ := zsq_b gk
    have hb : 0 ≤ (k : Int) ∧ (k : Int) < 48 := by omega
    have e1 : zS (fun i => m 60 i) (k + 1) = zS (fun i => m 60 i) k + m 60 (k : Int) := rfl
    have e2 : zQ (fun i => m 60 i) (k + 1) = zQ (fun i => m 60 i) k + m 60 (k : Int) * m 60 (k : Int) := rfl
    have hz := ih (k + 1) (by omega)
    rw [e1, e2] at hz
    rw [hN, if_neg (show ¬ (N : Int) ≤ (k : Int) by omega), if_pos hb, if_pos hb, if_pos hb]
    show zw (zu_ex (zt_T n) 255 8 [(8, 50), (0, a1), (1, zu_w64 (zS (fun i => m 60 i) k + m 60 (k : Int))), (2, 0), (1, zu_w64 (zQ (fun i => m 60 i) k + zu_w64 (m 60 (k : Int) * m 60 (k : Int)))), (2, 0), (0, zu_w32 ((k : Int) + 1)), (2, 0)] [] m) _
    generalize m 60 (k : Int) * m 60 (k : Int) = y at *
    rw [zu_w64_id (z := zS (fun i => m 60 i) k + m 60 (k : Int)) (by omega) (by omega), zu_w64_id (z := y) (by omega) (by omega), zu_w64_id (z := zQ (fun i => m 60 i) k + y) (by omega) (by omega), zu_w32_id (z := (k : Int) + 1) (by omega) (by omega), show (k : Int) + 1 = ((k + 1 : Nat) : Int) by omega]
    exact hz
theorem zv_67 (n : Nat) {w : Int} {m : zu_m} (hI : zi_I m) : zw (zu_call (zt_T n) 67 [(5, 3), (0, w)] m) (fun v m' => m' = m ∧ v = if w < 0 then -1 else if 1 < w then -1 else if w ≠ 0 then zan 0 (zS (fun i => m 60 i) (m 50 2).toNat) (zQ (fun i => m 60 i) (m 50 2).toNat) else zan 1 (zS (fun i => m 60 i) (m 50 2).toNat) (zQ (fun i => m 60 i) (m 50 2).toNat)) := by
  have b2 := zi_rd hI zq_50 zb_11_2
  refine zw_eq (zu_call_at (zt_T n) (zm_67 n) (zdp_67 n) _ _ _ _ _ rfl (zr_67_0 n _ _ 3 w m)) ?_
  have h5 : ∀ a : Int, zw (zu_call (zt_T n) 255 [(8, 50), (0, a)] m) (fun v m' => m' = m ∧ v = zan a (zS (fun i => m 60 i) (m 50 2).toNat) (zQ (fun i => m 60 i) (m 50 2).toNat)) := fun a => by
    refine zw_eq (zu_call_at (zt_T n) (zm_255 n) (zdp_255 n) _ _ _ _ _ rfl (zr_255_0 n _ _ 50 a m)) ?_
    exact zv_255L n (m 50 2).toNat (by omega) (by omega) (fun i _ => zi_rd hI zq_60 (zb_57 _)) (m 50 2).toNat 0 (Nat.zero_add _)
  refine zw_ite (fun h => zw_some ⟨rfl, by rw [if_pos h]⟩) (fun h => ?_)
  refine zw_ite (fun h1 => ?_) (fun h1 => zw_some ⟨rfl, by rw [if_neg h, if_pos (by omega)]⟩)
  refine zw_ite (fun h2 => ?_) (fun h2 => ?_)
  · refine zw_bd (zw_mono (h5 0) (fun v m' hs => zw_some ⟨hs.1, ?_⟩))
    rw [if_neg h, if_neg (by omega), if_pos h2]
    exact hs.2
  · refine zw_bd (zw_mono (h5 1) (fun v m' hs => zw_some ⟨hs.1, ?_⟩))
    rw [if_neg h, if_neg (by omega), if_neg h2]
    exact hs.2
/-- the reference's divisor -/
theorem zv_172G (n : Nat) {a1 S Q : Int} {t : zu_m} (s0 : 0 ≤ S * S) (s1 : S * S ≤ 2299394304) (q0 : 0 ≤ Q) (q1 : Q ≤ 47904048) : ∀ (d : Nat) (x6 x8 : Int), 0 ≤ x6 → 0 ≤ x8 → x8 < (d : Int) → (Int.gcd x8 x6 : Int) ≠ 0 → zw (zu_ex (zt_T n) 172 80 [(40, 190), (0, a1), (1, S), (2, 0), (1, Q), (2, 0), (1, x6), (2, 0), (1, x8), (2, 0), (2, 0), (2, 0)] [] t) (fun v t' => t' = t ∧ v = if a1 ≠ 0 then Int.tdiv (S * S) (Int.gcd x8 x6 : Int) else Int.tdiv Q (Int.gcd x8 x6 : Int)) := by
  intro d
  induction d with
  | zero => intro x6 x8 _ h8 hd _; exfalso; omega
  | succ d ih =>
    intro x6 x8 h6 h8 hd hg
    refine zw_eq (zu_rega_at (zt_T n) (zm_172 n) (zdp_172 n) _ _ _ _ _ _ (zr_172_80 n _ _ 190 a1 S Q x6 x8 t)) ?_
    refine zw_ite (fun h0 => ?_) (fun h0 => ?_)
    · have e : x8 = 0 := zlc_eq.mp h0
      subst e
      have eg : (Int.gcd 0 x6 : Int) = x6 := by rw [Int.gcd_zero_left]; omega
      rw [eg] at hg ⊢
      rw [zu_w64_id (z := S * S) (by omega) (by omega)]
      have d1 := ztd_b (b := x6) s0 h6
      have d2 := ztd_b (b := x6) q0 h6
      refine zw_ite (fun ha => ?_) (fun ha => ?_)
      · rw [if_neg hg, if_pos ha, zu_w64_id (by omega) (by omega)]
        exact zw_some ⟨rfl, rfl⟩
      · rw [if_neg hg, if_neg ha, zu_w64_id (by omega) (by omega)]
        exact zw_some ⟨rfl, rfl⟩
    · have e : x8 ≠ 0 := fun q => h0 (zlc_eq.mpr q)
      obtain ⟨t1, t2, t3⟩ := ztm (a := x6) (b := x8) h6 (by omega)
      rw [if_neg e]
      have hG : (Int.gcd (Int.tmod x6 x8) x8 : Int) = (Int.gcd x8 x6 : Int) := by
        rw [Int.gcd_comm (Int.tmod x6 x8), t3, Int.gcd_comm]
      have hz := ih x8 (Int.tmod x6 x8) h8 t1 (by omega) (by rw [hG]; exact hg)
      rw [hG] at hz
      exact zw_le (zu_forget (zu_lr_same (zu_lr_same (zu_lr_same (zu_lr_same (zu_lr_same (zu_lr_same (zu_lr_same (zu_lr_same (zu_lr_same (zu_lr_same (zu_lr_drop (v := 0) (zu_lr_same zu_lr_nil))))))))))))) hz
theorem zvO_fr {W : List (Nat × Nat)} {t t' : zu_m} {nm V0 : Int → Int} {L d most : Int} (hf : zfr W t t') (hd : zdis W [(114, 0), (115, 0), (116, 0), (117, 0), (118, 0), (119, 0)] = true) : zvO t' nm V0 L d most = zvO t nm V0 L d most := by
  have e := zdis_fr hf hd
  unfold zvO
  rw [e 205 L (by rw [zq_205]; rfl), e 206 L (by rw [zq_206]; rfl), e 207 L (by rw [zq_207]; rfl), funext (fun q => e 208 q (by rw [zq_208]; rfl) : ∀ q, t' 208 q = t 208 q), funext (fun q => e 209 q (by rw [zq_209]; rfl) : ∀ q, t' 209 q = t 209 q), funext (fun q => e 210 q (by rw [zq_210]; rfl) : ∀ q, t' 210 q = t 210 q)]
