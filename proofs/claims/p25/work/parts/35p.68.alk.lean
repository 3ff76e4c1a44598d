/-! alike: sums and the common divisor -/
def zS (g : Int → Int) : Nat → Int
  | 0 => 0
  | k + 1 => zS g k + g (k : Int)
def zQ (g : Int → Int) : Nat → Int
  | 0 => 0
  | k + 1 => zQ g k + g (k : Int) * g (k : Int)
theorem zsq_b {x : Int} (h : 0 ≤ x ∧ x ≤ 999) : 0 ≤ x * x ∧ x * x ≤ 998001 := ⟨Int.mul_nonneg h.1 h.1, Int.le_trans (Int.mul_le_mul h.2 h.2 h.1 (by decide)) (by decide)⟩
theorem zS_b {g : Int → Int} : ∀ k : Nat, (∀ i : Nat, i < k → 0 ≤ g (i : Int) ∧ g (i : Int) ≤ 999) → 0 ≤ zS g k ∧ zS g k ≤ 999 * (k : Int) ∧ 0 ≤ zQ g k ∧ zQ g k ≤ 998001 * (k : Int) ∧ (zS g k = 0 → zQ g k = 0) := by
  intro k
  induction k with
  | zero => intro _; exact ⟨Int.le_refl 0, Int.le_refl 0, Int.le_refl 0, Int.le_refl 0, fun _ => rfl⟩
  | succ k ih =>
    intro h
    obtain ⟨a1, a2, a3, a4, a5⟩ := ih (fun i hi => h i (Nat.lt_succ_of_lt hi))
    have b := h k (Nat.lt_succ_self k)
    obtain ⟨c1, c2⟩ := zsq_b b
    have e1 : zS g (k + 1) = zS g k + g (k : Int) := rfl
    have e2 : zQ g (k + 1) = zQ g k + g (k : Int) * g (k : Int) := rfl
    have c3 : g (k : Int) = 0 → g (k : Int) * g (k : Int) = 0 := fun q => by rw [q]; rfl
    rw [e1, e2]
    generalize g (k : Int) * g (k : Int) = y at *
    refine ⟨by omega, by omega, by omega, by omega, fun q => ?_⟩
    have := c3 (by omega)
    have := a5 (by omega)
    omega
theorem zS_cg {g h : Int → Int} : ∀ k : Nat, (∀ i : Nat, i < k → g (i : Int) = h (i : Int)) → zS g k = zS h k ∧ zQ g k = zQ h k := by
  intro k
  induction k with
  | zero => intro _; exact ⟨rfl, rfl⟩
  | succ k ih =>
    intro e
    obtain ⟨a1, a2⟩ := ih (fun i hi => e i (Nat.lt_succ_of_lt hi))
    have e1 := e k (Nat.lt_succ_self k)
    exact ⟨by show zS g k + g (k : Int) = zS h k + h (k : Int); rw [a1, e1], by show zQ g k + g (k : Int) * g (k : Int) = zQ h k + h (k : Int) * h (k : Int); rw [a2, e1]⟩
theorem ztm {a b : Int} (ha : 0 ≤ a) (hb : 0 < b) : 0 ≤ Int.tmod a b ∧ Int.tmod a b < b ∧ Int.gcd b (Int.tmod a b) = Int.gcd a b := by
  rw [Int.tmod_eq_emod_of_nonneg ha]
  refine ⟨Int.emod_nonneg a (by omega), Int.emod_lt_of_pos a hb, ?_⟩
  obtain ⟨A, rfl⟩ := Int.eq_ofNat_of_zero_le ha
  obtain ⟨B, rfl⟩ := Int.eq_ofNat_of_zero_le (Int.le_of_lt hb)
  show Nat.gcd B (A % B) = Nat.gcd A B
  rw [Nat.gcd_comm B (A % B), ← Nat.gcd_rec B A, Nat.gcd_comm]
theorem zhalf {s r : Int} (hr : 0 < r) (h : r < s) : 2 * Int.tmod s r < s := by
  rw [Int.tmod_eq_emod_of_nonneg (by omega)]
  have h1 := Int.emod_lt_of_pos s hr
  have h2 := Int.emod_add_mul_ediv s r
  have h3 : 1 ≤ s / r := by
    rw [Int.le_ediv_iff_mul_le hr]
    omega
  have h4 : r * 1 ≤ r * (s / r) := Int.mul_le_mul_of_nonneg_left h3 (Int.le_of_lt hr)
  generalize r * (s / r) = y at *
  generalize s % r = z at *
  omega
/-- the class's commonDivisor: x8 rounds done, at most 2 k + 1 to go -/
theorem zv_256L (n : Nat) {a b : Int} {m : zu_m} : ∀ (k : Nat) (x4 x6 x8 : Int), 0 ≤ x4 → 0 ≤ x6 → x6 < 2 ^ k → 0 ≤ x8 → x8 + 2 * (k : Int) < 1000 → zw (zu_ex (zt_T n) 256 9 [(1, a), (2, 0), (1, b), (2, 0), (1, x4), (2, 0), (1, x6), (2, 0), (0, x8), (2, 0), (2, 0)] [] m) (fun v m' => m' = m ∧ v = (Int.gcd x4 x6 : Int)) := by
  have one : ∀ (x4 x8 : Int), 0 ≤ x4 → 0 ≤ x8 → x8 < 1000 → zw (zu_ex (zt_T n) 256 9 [(1, a), (2, 0), (1, b), (2, 0), (1, x4), (2, 0), (1, 0), (2, 0), (0, x8), (2, 0), (2, 0)] [] m) (fun v m' => m' = m ∧ v = (Int.gcd x4 0 : Int)) := fun x4 x8 h4 h8 h9 => by
    refine zw_eq (zu_rega_at (zt_T n) (zm_256 n) (zdp_256 n) _ _ _ _ _ _ (zr_256_9 n _ _ a b x4 0 x8 m)) ?_
    rw [if_neg (show ¬ 1000 ≤ x8 by omega), if_pos (show zu_lcmp 0 0 = 0 from zlc_eq.mpr rfl)]
    exact zw_some ⟨rfl, by rw [Int.gcd_zero_right]; omega⟩
  have step : ∀ (x4 x6 x8 : Int) (P : Int → zu_m → Prop), 0 < x6 → 0 ≤ x8 → x8 < 999 → zw (zu_ex (zt_T n) 256 9 [(1, a), (2, 0), (1, b), (2, 0), (1, x6), (2, 0), (1, Int.tmod x4 x6), (2, 0), (0, x8 + 1), (2, 0), (2, 0)] [] m) P → zw (zu_ex (zt_T n) 256 9 [(1, a), (2, 0), (1, b), (2, 0), (1, x4), (2, 0), (1, x6), (2, 0), (0, x8), (2, 0), (2, 0)] [] m) P := fun x4 x6 x8 P h6 h8 h9 hz => by
    refine zw_eq (zu_rega_at (zt_T n) (zm_256 n) (zdp_256 n) _ _ _ _ _ _ (zr_256_9 n _ _ a b x4 x6 x8 m)) ?_
    rw [if_neg (show ¬ 1000 ≤ x8 by omega), if_neg (show ¬ zu_lcmp x6 0 = 0 from fun q => by have := zlc_eq.mp q; omega), if_neg (show ¬ x6 = 0 by omega), zu_w32_id (z := x8 + 1) (by omega) (by omega)]
    exact zw_le (zu_forget (zu_lr_same (zu_lr_same (zu_lr_same (zu_lr_same (zu_lr_same (zu_lr_same (zu_lr_same (zu_lr_same (zu_lr_same (zu_lr_drop (v := 0) (zu_lr_same zu_lr_nil)))))))))))) hz
  intro k
  induction k with
  | zero =>
    intro x4 x6 x8 h4 h6 hk h8 h9
    have e : x6 = 0 := by
      have : x6 < 1 := hk
      omega
    rw [e]
    exact one x4 x8 h4 h8 (by omega)
  | succ k ih =>
    intro x4 x6 x8 h4 h6 hk h8 h9
    by_cases e : x6 = 0
    · rw [e]
      exact one x4 x8 h4 h8 (by omega)
    have p6 : 0 < x6 := by omega
    obtain ⟨t1, t2, t3⟩ := ztm h4 p6
    refine step x4 x6 x8 _ p6 h8 (by omega) ?_
    by_cases e2 : Int.tmod x4 x6 = 0
    · rw [e2]
      rw [e2] at t3
      rw [← t3]
      exact one x6 (x8 + 1) h6 (by omega) (by omega)
    have q6 : 0 < Int.tmod x4 x6 := by omega
    obtain ⟨u1, u2, u3⟩ := ztm h6 q6
    have hh := zhalf q6 t2
    refine step x6 (Int.tmod x4 x6) (x8 + 1) _ q6 (by omega) (by omega) ?_
    have hk' : x6 < 2 * 2 ^ k := by rw [Int.pow_succ, Int.mul_comm] at hk; exact hk
    rw [← t3, ← u3]
    exact ih _ _ (x8 + 1 + 1) (Int.le_of_lt q6) u1 (by omega) (by omega) (by omega)
theorem zv_256 (n : Nat) {a b : Int} {m : zu_m} (ha : 0 ≤ a) (hb : 0 ≤ b) (hb2 : b < 67108864) : zw (zu_call (zt_T n) 256 [(1, a), (1, b)] m) (fun v m' => m' = m ∧ v = (Int.gcd a b : Int)) := by
  refine zw_eq (zu_call_at (zt_T n) (zm_256 n) (zdp_256 n) _ _ _ _ _ rfl (zr_256_0 n _ _ a b m)) ?_
  exact zv_256L n 26 a b 0 ha hb hb2 (by decide) (by decide)
