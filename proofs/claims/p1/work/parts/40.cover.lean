theorem zt_K {o : xv_O xd_V} (h : zt_go o = true) : zt_goK [] o = true := h
def xb : xd_V → Int → Prop
  | .inl n, x => x = n
  | .inr q, x => q.1 ≤ q.2 ∧ q.1 ≤ x ∧ x ≤ q.2
def zt_in (x : Int) : Prop := -2147483648 ≤ x ∧ x ≤ 2147483647
theorem zt_top {x : Int} (h : zt_in x) : xb xd_top x := ⟨by decide, h.1, h.2⟩
/-- a call's numbers lie in a box that was worked out -/
def zt_Ok (k : Int) (x1 x2 x3 x4 x5 : Int) : Prop := ∃ (ks : List Nat) (v1 v2 v3 v4 v5 : xd_V), zt_goK ks (zt_bx [.inr (64, k), v1, v2, v3, v4, v5]) = true ∧ xb v1 x1 ∧ xb v2 x2 ∧ xb v3 x3 ∧ xb v4 x4 ∧ xb v5 x5
theorem zt_cov0 {x1 x2 x3 x4 x5 : Int} (h1 : zt_in x1) (h2 : zt_in x2) (h3 : zt_in x3) (h4 : zt_in x4) (h5 : zt_in x5) : zt_Ok 0 x1 x2 x3 x4 x5 := by
  have m1 := h1.1; have m2 := h1.2; have m3 := h2.1; have m4 := h2.2; have m5 := h3.1; have m6 := h3.2; have m7 := h4.1; have m8 := h4.2; have m9 := h5.1; have m10 := h5.2
  exact ⟨[], xd_top, xd_top, xd_top, xd_top, xd_top, (zt_K zt_b0_), zt_top h1, zt_top h2, zt_top h3, zt_top h4, zt_top h5⟩
theorem zt_cov1 {x1 x2 x3 x4 x5 : Int} (h1 : zt_in x1) (h2 : zt_in x2) (h3 : zt_in x3) (h4 : zt_in x4) (h5 : zt_in x5) : zt_Ok 1 x1 x2 x3 x4 x5 := by
  have m1 := h1.1; have m2 := h1.2; have m3 := h2.1; have m4 := h2.2; have m5 := h3.1; have m6 := h3.2; have m7 := h4.1; have m8 := h4.2; have m9 := h5.1; have m10 := h5.2
  by_cases g0_0 : x1 ≤ (-1)
  · exact ⟨[], .inr ((-2147483648), (-1)), xd_top, xd_top, xd_top, xd_top, (zt_K zt_b1__0c0), ⟨by decide, (show (-2147483648) ≤ x1 by omega), (show x1 ≤ (-1) by omega)⟩, zt_top h2, zt_top h3, zt_top h4, zt_top h5⟩
  by_cases g0_1 : x1 ≤ 0
  · exact ⟨[], .inl 0, xd_top, xd_top, xd_top, xd_top, (zt_K zt_b1__0c1), (show x1 = 0 by omega), zt_top h2, zt_top h3, zt_top h4, zt_top h5⟩
  exact ⟨[], .inr (1, 2147483647), xd_top, xd_top, xd_top, xd_top, (zt_K zt_b1__0c2), ⟨by decide, (show 1 ≤ x1 by omega), (show x1 ≤ 2147483647 by omega)⟩, zt_top h2, zt_top h3, zt_top h4, zt_top h5⟩
theorem zt_cov2 {x1 x2 x3 x4 x5 : Int} (h1 : zt_in x1) (h2 : zt_in x2) (h3 : zt_in x3) (h4 : zt_in x4) (h5 : zt_in x5) : zt_Ok 2 x1 x2 x3 x4 x5 := by
  have m1 := h1.1; have m2 := h1.2; have m3 := h2.1; have m4 := h2.2; have m5 := h3.1; have m6 := h3.2; have m7 := h4.1; have m8 := h4.2; have m9 := h5.1; have m10 := h5.2
  by_cases g0_0 : x1 ≤ (-1)
  · exact ⟨[], .inr ((-2147483648), (-1)), xd_top, xd_top, xd_top, xd_top, (zt_K zt_b2__0c0), ⟨by decide, (show (-2147483648) ≤ x1 by omega), (show x1 ≤ (-1) by omega)⟩, zt_top h2, zt_top h3, zt_top h4, zt_top h5⟩
  by_cases g0_1 : x1 ≤ 0
  · exact ⟨[], .inl 0, xd_top, xd_top, xd_top, xd_top, (zt_K zt_b2__0c1), (show x1 = 0 by omega), zt_top h2, zt_top h3, zt_top h4, zt_top h5⟩
  by_cases g0_2 : x1 ≤ 1
  · exact ⟨[], .inl 1, xd_top, xd_top, xd_top, xd_top, (zt_K zt_b2__0c2), (show x1 = 1 by omega), zt_top h2, zt_top h3, zt_top h4, zt_top h5⟩
  exact ⟨[], .inr (2, 2147483647), xd_top, xd_top, xd_top, xd_top, (zt_K zt_b2__0c3), ⟨by decide, (show 2 ≤ x1 by omega), (show x1 ≤ 2147483647 by omega)⟩, zt_top h2, zt_top h3, zt_top h4, zt_top h5⟩
theorem zt_cov3 {x1 x2 x3 x4 x5 : Int} (h1 : zt_in x1) (h2 : zt_in x2) (h3 : zt_in x3) (h4 : zt_in x4) (h5 : zt_in x5) : zt_Ok 3 x1 x2 x3 x4 x5 := by
  have m1 := h1.1; have m2 := h1.2; have m3 := h2.1; have m4 := h2.2; have m5 := h3.1; have m6 := h3.2; have m7 := h4.1; have m8 := h4.2; have m9 := h5.1; have m10 := h5.2
  exact ⟨[], xd_top, xd_top, xd_top, xd_top, xd_top, (zt_K zt_b3_), zt_top h1, zt_top h2, zt_top h3, zt_top h4, zt_top h5⟩
theorem zt_cov5 {x1 x2 x3 x4 x5 : Int} (h1 : zt_in x1) (h2 : zt_in x2) (h3 : zt_in x3) (h4 : zt_in x4) (h5 : zt_in x5) : zt_Ok 5 x1 x2 x3 x4 x5 := by
  have m1 := h1.1; have m2 := h1.2; have m3 := h2.1; have m4 := h2.2; have m5 := h3.1; have m6 := h3.2; have m7 := h4.1; have m8 := h4.2; have m9 := h5.1; have m10 := h5.2
  by_cases g0_0 : x1 ≤ (-1)
  · exact ⟨[], .inr ((-2147483648), (-1)), xd_top, xd_top, xd_top, xd_top, (zt_K zt_b5__0c0), ⟨by decide, (show (-2147483648) ≤ x1 by omega), (show x1 ≤ (-1) by omega)⟩, zt_top h2, zt_top h3, zt_top h4, zt_top h5⟩
  exact ⟨[], .inr (0, 2147483647), xd_top, xd_top, xd_top, xd_top, (zt_K zt_b5__0c1), ⟨by decide, (show 0 ≤ x1 by omega), (show x1 ≤ 2147483647 by omega)⟩, zt_top h2, zt_top h3, zt_top h4, zt_top h5⟩
theorem zt_cov6 {x1 x2 x3 x4 x5 : Int} (h1 : zt_in x1) (h2 : zt_in x2) (h3 : zt_in x3) (h4 : zt_in x4) (h5 : zt_in x5) : zt_Ok 6 x1 x2 x3 x4 x5 := by
  have m1 := h1.1; have m2 := h1.2; have m3 := h2.1; have m4 := h2.2; have m5 := h3.1; have m6 := h3.2; have m7 := h4.1; have m8 := h4.2; have m9 := h5.1; have m10 := h5.2
  by_cases g0_0 : x1 ≤ (-1)
  · exact ⟨[], .inr ((-2147483648), (-1)), xd_top, xd_top, xd_top, xd_top, (zt_K zt_b6__0c0), ⟨by decide, (show (-2147483648) ≤ x1 by omega), (show x1 ≤ (-1) by omega)⟩, zt_top h2, zt_top h3, zt_top h4, zt_top h5⟩
  exact ⟨[], .inr (0, 2147483647), xd_top, xd_top, xd_top, xd_top, (zt_K zt_b6__0c1), ⟨by decide, (show 0 ≤ x1 by omega), (show x1 ≤ 2147483647 by omega)⟩, zt_top h2, zt_top h3, zt_top h4, zt_top h5⟩
theorem zt_cov7 {x1 x2 x3 x4 x5 : Int} (h1 : zt_in x1) (h2 : zt_in x2) (h3 : zt_in x3) (h4 : zt_in x4) (h5 : zt_in x5) : zt_Ok 7 x1 x2 x3 x4 x5 := by
  have m1 := h1.1; have m2 := h1.2; have m3 := h2.1; have m4 := h2.2; have m5 := h3.1; have m6 := h3.2; have m7 := h4.1; have m8 := h4.2; have m9 := h5.1; have m10 := h5.2
  by_cases g0_0 : x1 ≤ (-1)
  · exact ⟨[], .inr ((-2147483648), (-1)), xd_top, xd_top, xd_top, xd_top, (zt_K zt_b7__0c0), ⟨by decide, (show (-2147483648) ≤ x1 by omega), (show x1 ≤ (-1) by omega)⟩, zt_top h2, zt_top h3, zt_top h4, zt_top h5⟩
  exact ⟨[], .inr (0, 2147483647), xd_top, xd_top, xd_top, xd_top, (zt_K zt_b7__0c1), ⟨by decide, (show 0 ≤ x1 by omega), (show x1 ≤ 2147483647 by omega)⟩, zt_top h2, zt_top h3, zt_top h4, zt_top h5⟩
theorem zt_cov8 {x1 x2 x3 x4 x5 : Int} (h1 : zt_in x1) (h2 : zt_in x2) (h3 : zt_in x3) (h4 : zt_in x4) (h5 : zt_in x5) : zt_Ok 8 x1 x2 x3 x4 x5 := by
  have m1 := h1.1; have m2 := h1.2; have m3 := h2.1; have m4 := h2.2; have m5 := h3.1; have m6 := h3.2; have m7 := h4.1; have m8 := h4.2; have m9 := h5.1; have m10 := h5.2
  by_cases g0_0 : x1 ≤ (-1)
  · exact ⟨[], .inr ((-2147483648), (-1)), xd_top, xd_top, xd_top, xd_top, (zt_K zt_b8__0c0), ⟨by decide, (show (-2147483648) ≤ x1 by omega), (show x1 ≤ (-1) by omega)⟩, zt_top h2, zt_top h3, zt_top h4, zt_top h5⟩
  by_cases g0_1 : x1 ≤ 0
  · by_cases g1_0 : x2 ≤ (-1)
    · exact ⟨[], .inl 0, .inr ((-2147483648), (-1)), xd_top, xd_top, xd_top, (zt_K zt_b8__0c1_1c0), (show x1 = 0 by omega), ⟨by decide, (show (-2147483648) ≤ x2 by omega), (show x2 ≤ (-1) by omega)⟩, zt_top h3, zt_top h4, zt_top h5⟩
    exact ⟨[], .inl 0, .inr (0, 2147483647), xd_top, xd_top, xd_top, (zt_K zt_b8__0c1_1c1), (show x1 = 0 by omega), ⟨by decide, (show 0 ≤ x2 by omega), (show x2 ≤ 2147483647 by omega)⟩, zt_top h3, zt_top h4, zt_top h5⟩
  by_cases g0_2 : x1 ≤ 1
  · by_cases g1_0 : x2 ≤ (-1)
    · exact ⟨[], .inl 1, .inr ((-2147483648), (-1)), xd_top, xd_top, xd_top, (zt_K zt_b8__0c2_1c0), (show x1 = 1 by omega), ⟨by decide, (show (-2147483648) ≤ x2 by omega), (show x2 ≤ (-1) by omega)⟩, zt_top h3, zt_top h4, zt_top h5⟩
    exact ⟨[], .inl 1, .inr (0, 2147483647), xd_top, xd_top, xd_top, (zt_K zt_b8__0c2_1c1), (show x1 = 1 by omega), ⟨by decide, (show 0 ≤ x2 by omega), (show x2 ≤ 2147483647 by omega)⟩, zt_top h3, zt_top h4, zt_top h5⟩
  by_cases g0_3 : x1 ≤ 2
  · by_cases g1_0 : x2 ≤ (-1)
    · exact ⟨[], .inl 2, .inr ((-2147483648), (-1)), xd_top, xd_top, xd_top, (zt_K zt_b8__0c3_1c0), (show x1 = 2 by omega), ⟨by decide, (show (-2147483648) ≤ x2 by omega), (show x2 ≤ (-1) by omega)⟩, zt_top h3, zt_top h4, zt_top h5⟩
    by_cases g1_1000 : x2 ≤ 29
    · exact ⟨[], .inl 2, .inl (Int.ofNat ((x2 - 0).toNat + 0)), xd_top, xd_top, xd_top, zt_K (List.all_eq_true.mp zt_b8__0c3e_0 (x2 - 0).toNat (List.mem_range.mpr (by omega))), (show x1 = 2 by omega), (show x2 = Int.ofNat ((x2 - 0).toNat + 0) by rw [Int.ofNat_eq_natCast]; omega), zt_top h3, zt_top h4, zt_top h5⟩
    exact ⟨[], .inl 2, .inr (30, 2147483647), xd_top, xd_top, xd_top, (zt_K zt_b8__0c3_1c31), (show x1 = 2 by omega), ⟨by decide, (show 30 ≤ x2 by omega), (show x2 ≤ 2147483647 by omega)⟩, zt_top h3, zt_top h4, zt_top h5⟩
  by_cases g0_4 : x1 ≤ 3
  · by_cases g1_0 : x2 ≤ (-1)
    · exact ⟨[], .inl 3, .inr ((-2147483648), (-1)), xd_top, xd_top, xd_top, (zt_K zt_b8__0c4_1c0), (show x1 = 3 by omega), ⟨by decide, (show (-2147483648) ≤ x2 by omega), (show x2 ≤ (-1) by omega)⟩, zt_top h3, zt_top h4, zt_top h5⟩
    exact ⟨[], .inl 3, .inr (0, 2147483647), xd_top, xd_top, xd_top, (zt_K zt_b8__0c4_1c1), (show x1 = 3 by omega), ⟨by decide, (show 0 ≤ x2 by omega), (show x2 ≤ 2147483647 by omega)⟩, zt_top h3, zt_top h4, zt_top h5⟩
  exact ⟨[], .inr (4, 2147483647), xd_top, xd_top, xd_top, xd_top, (zt_K zt_b8__0c5), ⟨by decide, (show 4 ≤ x1 by omega), (show x1 ≤ 2147483647 by omega)⟩, zt_top h2, zt_top h3, zt_top h4, zt_top h5⟩
theorem zt_cov9 {x1 x2 x3 x4 x5 : Int} (h1 : zt_in x1) (h2 : zt_in x2) (h3 : zt_in x3) (h4 : zt_in x4) (h5 : zt_in x5) : zt_Ok 9 x1 x2 x3 x4 x5 := by
  have m1 := h1.1; have m2 := h1.2; have m3 := h2.1; have m4 := h2.2; have m5 := h3.1; have m6 := h3.2; have m7 := h4.1; have m8 := h4.2; have m9 := h5.1; have m10 := h5.2
  by_cases g0_0 : x1 ≤ (-1)
  · exact ⟨[], .inr ((-2147483648), (-1)), xd_top, xd_top, xd_top, xd_top, (zt_K zt_b9__0c0), ⟨by decide, (show (-2147483648) ≤ x1 by omega), (show x1 ≤ (-1) by omega)⟩, zt_top h2, zt_top h3, zt_top h4, zt_top h5⟩
  by_cases g0_1 : x1 ≤ 29
  · by_cases g1_0 : x2 ≤ (-1)
    · exact ⟨[], .inr (0, 29), .inr ((-2147483648), (-1)), xd_top, xd_top, xd_top, (zt_K zt_b9__0c1_1c0), ⟨by decide, (show 0 ≤ x1 by omega), (show x1 ≤ 29 by omega)⟩, ⟨by decide, (show (-2147483648) ≤ x2 by omega), (show x2 ≤ (-1) by omega)⟩, zt_top h3, zt_top h4, zt_top h5⟩
    by_cases g1_1 : x2 ≤ 3
    · by_cases g2_0 : x3 ≤ (-1)
      · exact ⟨[], .inr (0, 29), .inr (0, 3), .inr ((-2147483648), (-1)), xd_top, xd_top, (zt_K zt_b9__0c1_1c1_2c0), ⟨by decide, (show 0 ≤ x1 by omega), (show x1 ≤ 29 by omega)⟩, ⟨by decide, (show 0 ≤ x2 by omega), (show x2 ≤ 3 by omega)⟩, ⟨by decide, (show (-2147483648) ≤ x3 by omega), (show x3 ≤ (-1) by omega)⟩, zt_top h4, zt_top h5⟩
      by_cases g2_1 : x3 ≤ 9
      · exact ⟨[], .inr (0, 29), .inr (0, 3), .inr (0, 9), xd_top, xd_top, (zt_K zt_b9__0c1_1c1_2c1), ⟨by decide, (show 0 ≤ x1 by omega), (show x1 ≤ 29 by omega)⟩, ⟨by decide, (show 0 ≤ x2 by omega), (show x2 ≤ 3 by omega)⟩, ⟨by decide, (show 0 ≤ x3 by omega), (show x3 ≤ 9 by omega)⟩, zt_top h4, zt_top h5⟩
      exact ⟨[], .inr (0, 29), .inr (0, 3), .inr (10, 2147483647), xd_top, xd_top, (zt_K zt_b9__0c1_1c1_2c2), ⟨by decide, (show 0 ≤ x1 by omega), (show x1 ≤ 29 by omega)⟩, ⟨by decide, (show 0 ≤ x2 by omega), (show x2 ≤ 3 by omega)⟩, ⟨by decide, (show 10 ≤ x3 by omega), (show x3 ≤ 2147483647 by omega)⟩, zt_top h4, zt_top h5⟩
    exact ⟨[], .inr (0, 29), .inr (4, 2147483647), xd_top, xd_top, xd_top, (zt_K zt_b9__0c1_1c2), ⟨by decide, (show 0 ≤ x1 by omega), (show x1 ≤ 29 by omega)⟩, ⟨by decide, (show 4 ≤ x2 by omega), (show x2 ≤ 2147483647 by omega)⟩, zt_top h3, zt_top h4, zt_top h5⟩
  exact ⟨[], .inr (30, 2147483647), xd_top, xd_top, xd_top, xd_top, (zt_K zt_b9__0c2), ⟨by decide, (show 30 ≤ x1 by omega), (show x1 ≤ 2147483647 by omega)⟩, zt_top h2, zt_top h3, zt_top h4, zt_top h5⟩
theorem zt_cov10 {x1 x2 x3 x4 x5 : Int} (h1 : zt_in x1) (h2 : zt_in x2) (h3 : zt_in x3) (h4 : zt_in x4) (h5 : zt_in x5) : zt_Ok 10 x1 x2 x3 x4 x5 := by
  have m1 := h1.1; have m2 := h1.2; have m3 := h2.1; have m4 := h2.2; have m5 := h3.1; have m6 := h3.2; have m7 := h4.1; have m8 := h4.2; have m9 := h5.1; have m10 := h5.2
  exact ⟨[], xd_top, xd_top, xd_top, xd_top, xd_top, (zt_K zt_b10_), zt_top h1, zt_top h2, zt_top h3, zt_top h4, zt_top h5⟩
theorem zt_cov11 {x1 x2 x3 x4 x5 : Int} (h1 : zt_in x1) (h2 : zt_in x2) (h3 : zt_in x3) (h4 : zt_in x4) (h5 : zt_in x5) : zt_Ok 11 x1 x2 x3 x4 x5 := by
  have m1 := h1.1; have m2 := h1.2; have m3 := h2.1; have m4 := h2.2; have m5 := h3.1; have m6 := h3.2; have m7 := h4.1; have m8 := h4.2; have m9 := h5.1; have m10 := h5.2
  by_cases g0_0 : x1 ≤ (-1)
  · exact ⟨[], .inr ((-2147483648), (-1)), xd_top, xd_top, xd_top, xd_top, (zt_K zt_b11__0c0), ⟨by decide, (show (-2147483648) ≤ x1 by omega), (show x1 ≤ (-1) by omega)⟩, zt_top h2, zt_top h3, zt_top h4, zt_top h5⟩
  exact ⟨[], .inr (0, 2147483647), xd_top, xd_top, xd_top, xd_top, (zt_K zt_b11__0c1), ⟨by decide, (show 0 ≤ x1 by omega), (show x1 ≤ 2147483647 by omega)⟩, zt_top h2, zt_top h3, zt_top h4, zt_top h5⟩
theorem zt_cov12 {x1 x2 x3 x4 x5 : Int} (h1 : zt_in x1) (h2 : zt_in x2) (h3 : zt_in x3) (h4 : zt_in x4) (h5 : zt_in x5) : zt_Ok 12 x1 x2 x3 x4 x5 := by
  have m1 := h1.1; have m2 := h1.2; have m3 := h2.1; have m4 := h2.2; have m5 := h3.1; have m6 := h3.2; have m7 := h4.1; have m8 := h4.2; have m9 := h5.1; have m10 := h5.2
  by_cases g0_0 : x1 ≤ (-1)
  · exact ⟨[], .inr ((-2147483648), (-1)), xd_top, xd_top, xd_top, xd_top, (zt_K zt_b12__0c0), ⟨by decide, (show (-2147483648) ≤ x1 by omega), (show x1 ≤ (-1) by omega)⟩, zt_top h2, zt_top h3, zt_top h4, zt_top h5⟩
  by_cases g0_1 : x1 ≤ 0
  · exact ⟨[], .inl 0, xd_top, xd_top, xd_top, xd_top, (zt_K zt_b12__0c1), (show x1 = 0 by omega), zt_top h2, zt_top h3, zt_top h4, zt_top h5⟩
  by_cases g0_2 : x1 ≤ 1
  · exact ⟨[], .inl 1, xd_top, xd_top, xd_top, xd_top, (zt_K zt_b12__0c2), (show x1 = 1 by omega), zt_top h2, zt_top h3, zt_top h4, zt_top h5⟩
  by_cases g0_3 : x1 ≤ 2
  · exact ⟨[], .inl 2, xd_top, xd_top, xd_top, xd_top, (zt_K zt_b12__0c3), (show x1 = 2 by omega), zt_top h2, zt_top h3, zt_top h4, zt_top h5⟩
  exact ⟨[], .inr (3, 2147483647), xd_top, xd_top, xd_top, xd_top, (zt_K zt_b12__0c4), ⟨by decide, (show 3 ≤ x1 by omega), (show x1 ≤ 2147483647 by omega)⟩, zt_top h2, zt_top h3, zt_top h4, zt_top h5⟩
theorem zt_cov13 {x1 x2 x3 x4 x5 : Int} (h1 : zt_in x1) (h2 : zt_in x2) (h3 : zt_in x3) (h4 : zt_in x4) (h5 : zt_in x5) : zt_Ok 13 x1 x2 x3 x4 x5 := by
  have m1 := h1.1; have m2 := h1.2; have m3 := h2.1; have m4 := h2.2; have m5 := h3.1; have m6 := h3.2; have m7 := h4.1; have m8 := h4.2; have m9 := h5.1; have m10 := h5.2
  by_cases g0_0 : x1 ≤ (-1)
  · exact ⟨[], .inr ((-2147483648), (-1)), xd_top, xd_top, xd_top, xd_top, (zt_K zt_b13__0c0), ⟨by decide, (show (-2147483648) ≤ x1 by omega), (show x1 ≤ (-1) by omega)⟩, zt_top h2, zt_top h3, zt_top h4, zt_top h5⟩
  by_cases g0_1000 : x1 ≤ 56
  · exact ⟨[], .inl (Int.ofNat ((x1 - 0).toNat + 0)), xd_top, xd_top, xd_top, xd_top, zt_K (List.all_eq_true.mp zt_b13_e_0 (x1 - 0).toNat (List.mem_range.mpr (by omega))), (show x1 = Int.ofNat ((x1 - 0).toNat + 0) by rw [Int.ofNat_eq_natCast]; omega), zt_top h2, zt_top h3, zt_top h4, zt_top h5⟩
  by_cases g0_1057 : x1 ≤ 80
  · exact ⟨[], .inl (Int.ofNat ((x1 - 57).toNat + 57)), xd_top, xd_top, xd_top, xd_top, zt_K (List.all_eq_true.mp zt_b13_e_57 (x1 - 57).toNat (List.mem_range.mpr (by omega))), (show x1 = Int.ofNat ((x1 - 57).toNat + 57) by rw [Int.ofNat_eq_natCast]; omega), zt_top h2, zt_top h3, zt_top h4, zt_top h5⟩
  by_cases g0_1081 : x1 ≤ 98
  · exact ⟨[], .inl (Int.ofNat ((x1 - 81).toNat + 81)), xd_top, xd_top, xd_top, xd_top, zt_K (List.all_eq_true.mp zt_b13_e_81 (x1 - 81).toNat (List.mem_range.mpr (by omega))), (show x1 = Int.ofNat ((x1 - 81).toNat + 81) by rw [Int.ofNat_eq_natCast]; omega), zt_top h2, zt_top h3, zt_top h4, zt_top h5⟩
  by_cases g0_1099 : x1 ≤ 114
  · exact ⟨[], .inl (Int.ofNat ((x1 - 99).toNat + 99)), xd_top, xd_top, xd_top, xd_top, zt_K (List.all_eq_true.mp zt_b13_e_99 (x1 - 99).toNat (List.mem_range.mpr (by omega))), (show x1 = Int.ofNat ((x1 - 99).toNat + 99) by rw [Int.ofNat_eq_natCast]; omega), zt_top h2, zt_top h3, zt_top h4, zt_top h5⟩
  by_cases g0_1115 : x1 ≤ 128
  · exact ⟨[], .inl (Int.ofNat ((x1 - 115).toNat + 115)), xd_top, xd_top, xd_top, xd_top, zt_K (List.all_eq_true.mp zt_b13_e_115 (x1 - 115).toNat (List.mem_range.mpr (by omega))), (show x1 = Int.ofNat ((x1 - 115).toNat + 115) by rw [Int.ofNat_eq_natCast]; omega), zt_top h2, zt_top h3, zt_top h4, zt_top h5⟩
  by_cases g0_1129 : x1 ≤ 140
  · exact ⟨[], .inl (Int.ofNat ((x1 - 129).toNat + 129)), xd_top, xd_top, xd_top, xd_top, zt_K (List.all_eq_true.mp zt_b13_e_129 (x1 - 129).toNat (List.mem_range.mpr (by omega))), (show x1 = Int.ofNat ((x1 - 129).toNat + 129) by rw [Int.ofNat_eq_natCast]; omega), zt_top h2, zt_top h3, zt_top h4, zt_top h5⟩
  by_cases g0_1141 : x1 ≤ 151
  · exact ⟨[], .inl (Int.ofNat ((x1 - 141).toNat + 141)), xd_top, xd_top, xd_top, xd_top, zt_K (List.all_eq_true.mp zt_b13_e_141 (x1 - 141).toNat (List.mem_range.mpr (by omega))), (show x1 = Int.ofNat ((x1 - 141).toNat + 141) by rw [Int.ofNat_eq_natCast]; omega), zt_top h2, zt_top h3, zt_top h4, zt_top h5⟩
  by_cases g0_1152 : x1 ≤ 161
  · exact ⟨[], .inl (Int.ofNat ((x1 - 152).toNat + 152)), xd_top, xd_top, xd_top, xd_top, zt_K (List.all_eq_true.mp zt_b13_e_152 (x1 - 152).toNat (List.mem_range.mpr (by omega))), (show x1 = Int.ofNat ((x1 - 152).toNat + 152) by rw [Int.ofNat_eq_natCast]; omega), zt_top h2, zt_top h3, zt_top h4, zt_top h5⟩
  by_cases g0_1162 : x1 ≤ 171
  · exact ⟨[], .inl (Int.ofNat ((x1 - 162).toNat + 162)), xd_top, xd_top, xd_top, xd_top, zt_K (List.all_eq_true.mp zt_b13_e_162 (x1 - 162).toNat (List.mem_range.mpr (by omega))), (show x1 = Int.ofNat ((x1 - 162).toNat + 162) by rw [Int.ofNat_eq_natCast]; omega), zt_top h2, zt_top h3, zt_top h4, zt_top h5⟩
  by_cases g0_1172 : x1 ≤ 180
  · exact ⟨[], .inl (Int.ofNat ((x1 - 172).toNat + 172)), xd_top, xd_top, xd_top, xd_top, zt_K (List.all_eq_true.mp zt_b13_e_172 (x1 - 172).toNat (List.mem_range.mpr (by omega))), (show x1 = Int.ofNat ((x1 - 172).toNat + 172) by rw [Int.ofNat_eq_natCast]; omega), zt_top h2, zt_top h3, zt_top h4, zt_top h5⟩
  by_cases g0_1181 : x1 ≤ 189
  · exact ⟨[], .inl (Int.ofNat ((x1 - 181).toNat + 181)), xd_top, xd_top, xd_top, xd_top, zt_K (List.all_eq_true.mp zt_b13_e_181 (x1 - 181).toNat (List.mem_range.mpr (by omega))), (show x1 = Int.ofNat ((x1 - 181).toNat + 181) by rw [Int.ofNat_eq_natCast]; omega), zt_top h2, zt_top h3, zt_top h4, zt_top h5⟩
  by_cases g0_1190 : x1 ≤ 197
  · exact ⟨[], .inl (Int.ofNat ((x1 - 190).toNat + 190)), xd_top, xd_top, xd_top, xd_top, zt_K (List.all_eq_true.mp zt_b13_e_190 (x1 - 190).toNat (List.mem_range.mpr (by omega))), (show x1 = Int.ofNat ((x1 - 190).toNat + 190) by rw [Int.ofNat_eq_natCast]; omega), zt_top h2, zt_top h3, zt_top h4, zt_top h5⟩
  by_cases g0_1198 : x1 ≤ 200
  · exact ⟨[], .inl (Int.ofNat ((x1 - 198).toNat + 198)), xd_top, xd_top, xd_top, xd_top, zt_K (List.all_eq_true.mp zt_b13_e_198 (x1 - 198).toNat (List.mem_range.mpr (by omega))), (show x1 = Int.ofNat ((x1 - 198).toNat + 198) by rw [Int.ofNat_eq_natCast]; omega), zt_top h2, zt_top h3, zt_top h4, zt_top h5⟩
  exact ⟨[], .inr (201, 2147483647), xd_top, xd_top, xd_top, xd_top, (zt_K zt_b13__0c202), ⟨by decide, (show 201 ≤ x1 by omega), (show x1 ≤ 2147483647 by omega)⟩, zt_top h2, zt_top h3, zt_top h4, zt_top h5⟩
theorem zt_cov14 {x1 x2 x3 x4 x5 : Int} (h1 : zt_in x1) (h2 : zt_in x2) (h3 : zt_in x3) (h4 : zt_in x4) (h5 : zt_in x5) : zt_Ok 14 x1 x2 x3 x4 x5 := by
  have m1 := h1.1; have m2 := h1.2; have m3 := h2.1; have m4 := h2.2; have m5 := h3.1; have m6 := h3.2; have m7 := h4.1; have m8 := h4.2; have m9 := h5.1; have m10 := h5.2
  by_cases g0_0 : x1 ≤ (-1)
  · exact ⟨[], .inr ((-2147483648), (-1)), xd_top, xd_top, xd_top, xd_top, (zt_K zt_b14__0c0), ⟨by decide, (show (-2147483648) ≤ x1 by omega), (show x1 ≤ (-1) by omega)⟩, zt_top h2, zt_top h3, zt_top h4, zt_top h5⟩
  by_cases g0_1000 : x1 ≤ 29
  · exact ⟨[], .inl (Int.ofNat ((x1 - 0).toNat + 0)), xd_top, xd_top, xd_top, xd_top, zt_K (List.all_eq_true.mp zt_b14_e_0 (x1 - 0).toNat (List.mem_range.mpr (by omega))), (show x1 = Int.ofNat ((x1 - 0).toNat + 0) by rw [Int.ofNat_eq_natCast]; omega), zt_top h2, zt_top h3, zt_top h4, zt_top h5⟩
  exact ⟨[], .inr (30, 2147483647), xd_top, xd_top, xd_top, xd_top, (zt_K zt_b14__0c31), ⟨by decide, (show 30 ≤ x1 by omega), (show x1 ≤ 2147483647 by omega)⟩, zt_top h2, zt_top h3, zt_top h4, zt_top h5⟩
theorem zt_cov15 {x1 x2 x3 x4 x5 : Int} (h1 : zt_in x1) (h2 : zt_in x2) (h3 : zt_in x3) (h4 : zt_in x4) (h5 : zt_in x5) : zt_Ok 15 x1 x2 x3 x4 x5 := by
  have m1 := h1.1; have m2 := h1.2; have m3 := h2.1; have m4 := h2.2; have m5 := h3.1; have m6 := h3.2; have m7 := h4.1; have m8 := h4.2; have m9 := h5.1; have m10 := h5.2
  by_cases g0_0 : x1 ≤ (-1)
  · exact ⟨[], .inr ((-2147483648), (-1)), xd_top, xd_top, xd_top, xd_top, (zt_K zt_b15__0c0), ⟨by decide, (show (-2147483648) ≤ x1 by omega), (show x1 ≤ (-1) by omega)⟩, zt_top h2, zt_top h3, zt_top h4, zt_top h5⟩
  exact ⟨[], .inr (0, 2147483647), xd_top, xd_top, xd_top, xd_top, (zt_K zt_b15__0c1), ⟨by decide, (show 0 ≤ x1 by omega), (show x1 ≤ 2147483647 by omega)⟩, zt_top h2, zt_top h3, zt_top h4, zt_top h5⟩
theorem zt_cov16 {x1 x2 x3 x4 x5 : Int} (h1 : zt_in x1) (h2 : zt_in x2) (h3 : zt_in x3) (h4 : zt_in x4) (h5 : zt_in x5) : zt_Ok 16 x1 x2 x3 x4 x5 := by
  have m1 := h1.1; have m2 := h1.2; have m3 := h2.1; have m4 := h2.2; have m5 := h3.1; have m6 := h3.2; have m7 := h4.1; have m8 := h4.2; have m9 := h5.1; have m10 := h5.2
  by_cases g0_0 : x1 ≤ (-1)
  · exact ⟨[], .inr ((-2147483648), (-1)), xd_top, xd_top, xd_top, xd_top, (zt_K zt_b16__0c0), ⟨by decide, (show (-2147483648) ≤ x1 by omega), (show x1 ≤ (-1) by omega)⟩, zt_top h2, zt_top h3, zt_top h4, zt_top h5⟩
  exact ⟨[], .inr (0, 2147483647), xd_top, xd_top, xd_top, xd_top, (zt_K zt_b16__0c1), ⟨by decide, (show 0 ≤ x1 by omega), (show x1 ≤ 2147483647 by omega)⟩, zt_top h2, zt_top h3, zt_top h4, zt_top h5⟩
theorem zt_cov17 {x1 x2 x3 x4 x5 : Int} (h1 : zt_in x1) (h2 : zt_in x2) (h3 : zt_in x3) (h4 : zt_in x4) (h5 : zt_in x5) : zt_Ok 17 x1 x2 x3 x4 x5 := by
  have m1 := h1.1; have m2 := h1.2; have m3 := h2.1; have m4 := h2.2; have m5 := h3.1; have m6 := h3.2; have m7 := h4.1; have m8 := h4.2; have m9 := h5.1; have m10 := h5.2
  by_cases g0_0 : x1 ≤ 0
  · exact ⟨[], .inr ((-2147483648), 0), xd_top, xd_top, xd_top, xd_top, (zt_K zt_b17__0c0), ⟨by decide, (show (-2147483648) ≤ x1 by omega), (show x1 ≤ 0 by omega)⟩, zt_top h2, zt_top h3, zt_top h4, zt_top h5⟩
  by_cases g0_1 : x1 ≤ 2
  · by_cases g1_0 : x2 ≤ (-1)
    · exact ⟨[], .inr (1, 2), .inr ((-2147483648), (-1)), xd_top, xd_top, xd_top, (zt_K zt_b17__0c1_1c0), ⟨by decide, (show 1 ≤ x1 by omega), (show x1 ≤ 2 by omega)⟩, ⟨by decide, (show (-2147483648) ≤ x2 by omega), (show x2 ≤ (-1) by omega)⟩, zt_top h3, zt_top h4, zt_top h5⟩
    by_cases g1_1 : x2 ≤ 3
    · by_cases g2_0 : x3 ≤ (-1)
      · exact ⟨[], .inr (1, 2), .inr (0, 3), .inr ((-2147483648), (-1)), xd_top, xd_top, (zt_K zt_b17__0c1_1c1_2c0), ⟨by decide, (show 1 ≤ x1 by omega), (show x1 ≤ 2 by omega)⟩, ⟨by decide, (show 0 ≤ x2 by omega), (show x2 ≤ 3 by omega)⟩, ⟨by decide, (show (-2147483648) ≤ x3 by omega), (show x3 ≤ (-1) by omega)⟩, zt_top h4, zt_top h5⟩
      by_cases g2_1 : x3 ≤ 9
      · by_cases g3_0 : x4 ≤ 0
        · exact ⟨[], .inr (1, 2), .inr (0, 3), .inr (0, 9), .inr ((-2147483648), 0), xd_top, (zt_K zt_b17__0c1_1c1_2c1_3c0), ⟨by decide, (show 1 ≤ x1 by omega), (show x1 ≤ 2 by omega)⟩, ⟨by decide, (show 0 ≤ x2 by omega), (show x2 ≤ 3 by omega)⟩, ⟨by decide, (show 0 ≤ x3 by omega), (show x3 ≤ 9 by omega)⟩, ⟨by decide, (show (-2147483648) ≤ x4 by omega), (show x4 ≤ 0 by omega)⟩, zt_top h5⟩
        by_cases g3_1 : x4 ≤ 40
        · by_cases g4_0 : x5 ≤ (-1)
          · exact ⟨[], .inr (1, 2), .inr (0, 3), .inr (0, 9), .inr (1, 40), .inr ((-2147483648), (-1)), (zt_K zt_b17__0c1_1c1_2c1_3c1_4c0), ⟨by decide, (show 1 ≤ x1 by omega), (show x1 ≤ 2 by omega)⟩, ⟨by decide, (show 0 ≤ x2 by omega), (show x2 ≤ 3 by omega)⟩, ⟨by decide, (show 0 ≤ x3 by omega), (show x3 ≤ 9 by omega)⟩, ⟨by decide, (show 1 ≤ x4 by omega), (show x4 ≤ 40 by omega)⟩, ⟨by decide, (show (-2147483648) ≤ x5 by omega), (show x5 ≤ (-1) by omega)⟩⟩
          by_cases g4_1 : x5 ≤ 2
          · exact ⟨[], .inr (1, 2), .inr (0, 3), .inr (0, 9), .inr (1, 40), .inr (0, 2), (zt_K zt_b17__0c1_1c1_2c1_3c1_4c1), ⟨by decide, (show 1 ≤ x1 by omega), (show x1 ≤ 2 by omega)⟩, ⟨by decide, (show 0 ≤ x2 by omega), (show x2 ≤ 3 by omega)⟩, ⟨by decide, (show 0 ≤ x3 by omega), (show x3 ≤ 9 by omega)⟩, ⟨by decide, (show 1 ≤ x4 by omega), (show x4 ≤ 40 by omega)⟩, ⟨by decide, (show 0 ≤ x5 by omega), (show x5 ≤ 2 by omega)⟩⟩
          exact ⟨[], .inr (1, 2), .inr (0, 3), .inr (0, 9), .inr (1, 40), .inr (3, 2147483647), (zt_K zt_b17__0c1_1c1_2c1_3c1_4c2), ⟨by decide, (show 1 ≤ x1 by omega), (show x1 ≤ 2 by omega)⟩, ⟨by decide, (show 0 ≤ x2 by omega), (show x2 ≤ 3 by omega)⟩, ⟨by decide, (show 0 ≤ x3 by omega), (show x3 ≤ 9 by omega)⟩, ⟨by decide, (show 1 ≤ x4 by omega), (show x4 ≤ 40 by omega)⟩, ⟨by decide, (show 3 ≤ x5 by omega), (show x5 ≤ 2147483647 by omega)⟩⟩
        exact ⟨[], .inr (1, 2), .inr (0, 3), .inr (0, 9), .inr (41, 2147483647), xd_top, (zt_K zt_b17__0c1_1c1_2c1_3c2), ⟨by decide, (show 1 ≤ x1 by omega), (show x1 ≤ 2 by omega)⟩, ⟨by decide, (show 0 ≤ x2 by omega), (show x2 ≤ 3 by omega)⟩, ⟨by decide, (show 0 ≤ x3 by omega), (show x3 ≤ 9 by omega)⟩, ⟨by decide, (show 41 ≤ x4 by omega), (show x4 ≤ 2147483647 by omega)⟩, zt_top h5⟩
      exact ⟨[], .inr (1, 2), .inr (0, 3), .inr (10, 2147483647), xd_top, xd_top, (zt_K zt_b17__0c1_1c1_2c2), ⟨by decide, (show 1 ≤ x1 by omega), (show x1 ≤ 2 by omega)⟩, ⟨by decide, (show 0 ≤ x2 by omega), (show x2 ≤ 3 by omega)⟩, ⟨by decide, (show 10 ≤ x3 by omega), (show x3 ≤ 2147483647 by omega)⟩, zt_top h4, zt_top h5⟩
    exact ⟨[], .inr (1, 2), .inr (4, 2147483647), xd_top, xd_top, xd_top, (zt_K zt_b17__0c1_1c2), ⟨by decide, (show 1 ≤ x1 by omega), (show x1 ≤ 2 by omega)⟩, ⟨by decide, (show 4 ≤ x2 by omega), (show x2 ≤ 2147483647 by omega)⟩, zt_top h3, zt_top h4, zt_top h5⟩
  exact ⟨[], .inr (3, 2147483647), xd_top, xd_top, xd_top, xd_top, (zt_K zt_b17__0c2), ⟨by decide, (show 3 ≤ x1 by omega), (show x1 ≤ 2147483647 by omega)⟩, zt_top h2, zt_top h3, zt_top h4, zt_top h5⟩
theorem zt_cov18 {x1 x2 x3 x4 x5 : Int} (h1 : zt_in x1) (h2 : zt_in x2) (h3 : zt_in x3) (h4 : zt_in x4) (h5 : zt_in x5) : zt_Ok 18 x1 x2 x3 x4 x5 := by
  have m1 := h1.1; have m2 := h1.2; have m3 := h2.1; have m4 := h2.2; have m5 := h3.1; have m6 := h3.2; have m7 := h4.1; have m8 := h4.2; have m9 := h5.1; have m10 := h5.2
  by_cases g0_0 : x1 ≤ 0
  · exact ⟨[], .inr ((-2147483648), 0), xd_top, xd_top, xd_top, xd_top, (zt_K zt_b18__0c0), ⟨by decide, (show (-2147483648) ≤ x1 by omega), (show x1 ≤ 0 by omega)⟩, zt_top h2, zt_top h3, zt_top h4, zt_top h5⟩
  by_cases g0_1 : x1 ≤ 200
  · by_cases g1_0 : x2 ≤ (-1)
    · exact ⟨[], .inr (1, 200), .inr ((-2147483648), (-1)), xd_top, xd_top, xd_top, (zt_K zt_b18__0c1_1c0), ⟨by decide, (show 1 ≤ x1 by omega), (show x1 ≤ 200 by omega)⟩, ⟨by decide, (show (-2147483648) ≤ x2 by omega), (show x2 ≤ (-1) by omega)⟩, zt_top h3, zt_top h4, zt_top h5⟩
    by_cases g1_1 : x2 ≤ 1
    · exact ⟨[], .inr (1, 200), .inr (0, 1), xd_top, xd_top, xd_top, (zt_K zt_b18__0c1_1c1), ⟨by decide, (show 1 ≤ x1 by omega), (show x1 ≤ 200 by omega)⟩, ⟨by decide, (show 0 ≤ x2 by omega), (show x2 ≤ 1 by omega)⟩, zt_top h3, zt_top h4, zt_top h5⟩
    exact ⟨[], .inr (1, 200), .inr (2, 2147483647), xd_top, xd_top, xd_top, (zt_K zt_b18__0c1_1c2), ⟨by decide, (show 1 ≤ x1 by omega), (show x1 ≤ 200 by omega)⟩, ⟨by decide, (show 2 ≤ x2 by omega), (show x2 ≤ 2147483647 by omega)⟩, zt_top h3, zt_top h4, zt_top h5⟩
  exact ⟨[], .inr (201, 2147483647), xd_top, xd_top, xd_top, xd_top, (zt_K zt_b18__0c2), ⟨by decide, (show 201 ≤ x1 by omega), (show x1 ≤ 2147483647 by omega)⟩, zt_top h2, zt_top h3, zt_top h4, zt_top h5⟩
theorem zt_cov19 {x1 x2 x3 x4 x5 : Int} (h1 : zt_in x1) (h2 : zt_in x2) (h3 : zt_in x3) (h4 : zt_in x4) (h5 : zt_in x5) : zt_Ok 19 x1 x2 x3 x4 x5 := by
  have m1 := h1.1; have m2 := h1.2; have m3 := h2.1; have m4 := h2.2; have m5 := h3.1; have m6 := h3.2; have m7 := h4.1; have m8 := h4.2; have m9 := h5.1; have m10 := h5.2
  by_cases g0_0 : x1 ≤ (-1)
  · exact ⟨[], .inr ((-2147483648), (-1)), xd_top, xd_top, xd_top, xd_top, (zt_K zt_b19__0c0), ⟨by decide, (show (-2147483648) ≤ x1 by omega), (show x1 ≤ (-1) by omega)⟩, zt_top h2, zt_top h3, zt_top h4, zt_top h5⟩
  by_cases g0_1 : x1 ≤ 0
  · by_cases g1_0 : x2 ≤ 0
    · exact ⟨[], .inl 0, .inr ((-2147483648), 0), xd_top, xd_top, xd_top, (zt_K zt_b19__0c1_1c0), (show x1 = 0 by omega), ⟨by decide, (show (-2147483648) ≤ x2 by omega), (show x2 ≤ 0 by omega)⟩, zt_top h3, zt_top h4, zt_top h5⟩
    by_cases g1_1 : x2 ≤ 200
    · exact ⟨[], .inl 0, .inr (1, 200), xd_top, xd_top, xd_top, (zt_K zt_b19__0c1_1c1), (show x1 = 0 by omega), ⟨by decide, (show 1 ≤ x2 by omega), (show x2 ≤ 200 by omega)⟩, zt_top h3, zt_top h4, zt_top h5⟩
    exact ⟨[], .inl 0, .inr (201, 2147483647), xd_top, xd_top, xd_top, (zt_K zt_b19__0c1_1c2), (show x1 = 0 by omega), ⟨by decide, (show 201 ≤ x2 by omega), (show x2 ≤ 2147483647 by omega)⟩, zt_top h3, zt_top h4, zt_top h5⟩
  by_cases g0_2 : x1 ≤ 1
  · by_cases g1_0 : x2 ≤ 0
    · exact ⟨[], .inl 1, .inr ((-2147483648), 0), xd_top, xd_top, xd_top, (zt_K zt_b19__0c2_1c0), (show x1 = 1 by omega), ⟨by decide, (show (-2147483648) ≤ x2 by omega), (show x2 ≤ 0 by omega)⟩, zt_top h3, zt_top h4, zt_top h5⟩
    by_cases g1_1 : x2 ≤ 200
    · exact ⟨[], .inl 1, .inr (1, 200), xd_top, xd_top, xd_top, (zt_K zt_b19__0c2_1c1), (show x1 = 1 by omega), ⟨by decide, (show 1 ≤ x2 by omega), (show x2 ≤ 200 by omega)⟩, zt_top h3, zt_top h4, zt_top h5⟩
    exact ⟨[], .inl 1, .inr (201, 2147483647), xd_top, xd_top, xd_top, (zt_K zt_b19__0c2_1c2), (show x1 = 1 by omega), ⟨by decide, (show 201 ≤ x2 by omega), (show x2 ≤ 2147483647 by omega)⟩, zt_top h3, zt_top h4, zt_top h5⟩
  by_cases g0_3 : x1 ≤ 2
  · by_cases g1_0 : x2 ≤ 0
    · exact ⟨[], .inl 2, .inr ((-2147483648), 0), xd_top, xd_top, xd_top, (zt_K zt_b19__0c3_1c0), (show x1 = 2 by omega), ⟨by decide, (show (-2147483648) ≤ x2 by omega), (show x2 ≤ 0 by omega)⟩, zt_top h3, zt_top h4, zt_top h5⟩
    by_cases g1_1 : x2 ≤ 200
    · exact ⟨[], .inl 2, .inr (1, 200), xd_top, xd_top, xd_top, (zt_K zt_b19__0c3_1c1), (show x1 = 2 by omega), ⟨by decide, (show 1 ≤ x2 by omega), (show x2 ≤ 200 by omega)⟩, zt_top h3, zt_top h4, zt_top h5⟩
    exact ⟨[], .inl 2, .inr (201, 2147483647), xd_top, xd_top, xd_top, (zt_K zt_b19__0c3_1c2), (show x1 = 2 by omega), ⟨by decide, (show 201 ≤ x2 by omega), (show x2 ≤ 2147483647 by omega)⟩, zt_top h3, zt_top h4, zt_top h5⟩
  exact ⟨[], .inr (3, 2147483647), xd_top, xd_top, xd_top, xd_top, (zt_K zt_b19__0c4), ⟨by decide, (show 3 ≤ x1 by omega), (show x1 ≤ 2147483647 by omega)⟩, zt_top h2, zt_top h3, zt_top h4, zt_top h5⟩
theorem zt_cov20 {x1 x2 x3 x4 x5 : Int} (h1 : zt_in x1) (h2 : zt_in x2) (h3 : zt_in x3) (h4 : zt_in x4) (h5 : zt_in x5) : zt_Ok 20 x1 x2 x3 x4 x5 := by
  have m1 := h1.1; have m2 := h1.2; have m3 := h2.1; have m4 := h2.2; have m5 := h3.1; have m6 := h3.2; have m7 := h4.1; have m8 := h4.2; have m9 := h5.1; have m10 := h5.2
  by_cases g0_0 : x1 ≤ 0
  · exact ⟨[], .inr ((-2147483648), 0), xd_top, xd_top, xd_top, xd_top, (zt_K zt_b20__0c0), ⟨by decide, (show (-2147483648) ≤ x1 by omega), (show x1 ≤ 0 by omega)⟩, zt_top h2, zt_top h3, zt_top h4, zt_top h5⟩
  by_cases g0_1 : x1 ≤ 200
  · exact ⟨zt_ks, .inr (1, 200), xd_top, xd_top, xd_top, xd_top, zt_b20__0c1, ⟨by decide, (show 1 ≤ x1 by omega), (show x1 ≤ 200 by omega)⟩, zt_top h2, zt_top h3, zt_top h4, zt_top h5⟩
  exact ⟨[], .inr (201, 2147483647), xd_top, xd_top, xd_top, xd_top, (zt_K zt_b20__0c2), ⟨by decide, (show 201 ≤ x1 by omega), (show x1 ≤ 2147483647 by omega)⟩, zt_top h2, zt_top h3, zt_top h4, zt_top h5⟩
theorem zt_cov21 {x1 x2 x3 x4 x5 : Int} (h1 : zt_in x1) (h2 : zt_in x2) (h3 : zt_in x3) (h4 : zt_in x4) (h5 : zt_in x5) : zt_Ok 21 x1 x2 x3 x4 x5 := by
  have m1 := h1.1; have m2 := h1.2; have m3 := h2.1; have m4 := h2.2; have m5 := h3.1; have m6 := h3.2; have m7 := h4.1; have m8 := h4.2; have m9 := h5.1; have m10 := h5.2
  exact ⟨[], xd_top, xd_top, xd_top, xd_top, xd_top, (zt_K zt_b21_), zt_top h1, zt_top h2, zt_top h3, zt_top h4, zt_top h5⟩
theorem zt_cov22 {x1 x2 x3 x4 x5 : Int} (h1 : zt_in x1) (h2 : zt_in x2) (h3 : zt_in x3) (h4 : zt_in x4) (h5 : zt_in x5) : zt_Ok 22 x1 x2 x3 x4 x5 := by
  have m1 := h1.1; have m2 := h1.2; have m3 := h2.1; have m4 := h2.2; have m5 := h3.1; have m6 := h3.2; have m7 := h4.1; have m8 := h4.2; have m9 := h5.1; have m10 := h5.2
  by_cases g0_0 : x1 ≤ (-1)
  · exact ⟨[], .inr ((-2147483648), (-1)), xd_top, xd_top, xd_top, xd_top, (zt_K zt_b22__0c0), ⟨by decide, (show (-2147483648) ≤ x1 by omega), (show x1 ≤ (-1) by omega)⟩, zt_top h2, zt_top h3, zt_top h4, zt_top h5⟩
  by_cases g0_1000 : x1 ≤ 10
  · exact ⟨[], .inl (Int.ofNat ((x1 - 0).toNat + 0)), xd_top, xd_top, xd_top, xd_top, zt_K (List.all_eq_true.mp zt_b22_e_0 (x1 - 0).toNat (List.mem_range.mpr (by omega))), (show x1 = Int.ofNat ((x1 - 0).toNat + 0) by rw [Int.ofNat_eq_natCast]; omega), zt_top h2, zt_top h3, zt_top h4, zt_top h5⟩
  by_cases g0_1011 : x1 ≤ 11
  · exact ⟨[], .inl (Int.ofNat ((x1 - 11).toNat + 11)), xd_top, xd_top, xd_top, xd_top, zt_K (List.all_eq_true.mp zt_b22_e_11 (x1 - 11).toNat (List.mem_range.mpr (by omega))), (show x1 = Int.ofNat ((x1 - 11).toNat + 11) by rw [Int.ofNat_eq_natCast]; omega), zt_top h2, zt_top h3, zt_top h4, zt_top h5⟩
  exact ⟨[], .inr (12, 2147483647), xd_top, xd_top, xd_top, xd_top, (zt_K zt_b22__0c13), ⟨by decide, (show 12 ≤ x1 by omega), (show x1 ≤ 2147483647 by omega)⟩, zt_top h2, zt_top h3, zt_top h4, zt_top h5⟩
theorem zt_cov23 {x1 x2 x3 x4 x5 : Int} (h1 : zt_in x1) (h2 : zt_in x2) (h3 : zt_in x3) (h4 : zt_in x4) (h5 : zt_in x5) : zt_Ok 23 x1 x2 x3 x4 x5 := by
  have m1 := h1.1; have m2 := h1.2; have m3 := h2.1; have m4 := h2.2; have m5 := h3.1; have m6 := h3.2; have m7 := h4.1; have m8 := h4.2; have m9 := h5.1; have m10 := h5.2
  by_cases g0_0 : x1 ≤ (-1)
  · exact ⟨[], .inr ((-2147483648), (-1)), xd_top, xd_top, xd_top, xd_top, (zt_K zt_b23__0c0), ⟨by decide, (show (-2147483648) ≤ x1 by omega), (show x1 ≤ (-1) by omega)⟩, zt_top h2, zt_top h3, zt_top h4, zt_top h5⟩
  by_cases g0_1 : x1 ≤ 0
  · exact ⟨[], .inl 0, xd_top, xd_top, xd_top, xd_top, (zt_K zt_b23__0c1), (show x1 = 0 by omega), zt_top h2, zt_top h3, zt_top h4, zt_top h5⟩
  by_cases g0_2 : x1 ≤ 1
  · exact ⟨[], .inl 1, xd_top, xd_top, xd_top, xd_top, (zt_K zt_b23__0c2), (show x1 = 1 by omega), zt_top h2, zt_top h3, zt_top h4, zt_top h5⟩
  exact ⟨[], .inr (2, 2147483647), xd_top, xd_top, xd_top, xd_top, (zt_K zt_b23__0c3), ⟨by decide, (show 2 ≤ x1 by omega), (show x1 ≤ 2147483647 by omega)⟩, zt_top h2, zt_top h3, zt_top h4, zt_top h5⟩
theorem zt_cov24 {x1 x2 x3 x4 x5 : Int} (h1 : zt_in x1) (h2 : zt_in x2) (h3 : zt_in x3) (h4 : zt_in x4) (h5 : zt_in x5) : zt_Ok 24 x1 x2 x3 x4 x5 := by
  have m1 := h1.1; have m2 := h1.2; have m3 := h2.1; have m4 := h2.2; have m5 := h3.1; have m6 := h3.2; have m7 := h4.1; have m8 := h4.2; have m9 := h5.1; have m10 := h5.2
  exact ⟨[], xd_top, xd_top, xd_top, xd_top, xd_top, (zt_K zt_b24_), zt_top h1, zt_top h2, zt_top h3, zt_top h4, zt_top h5⟩
theorem zt_cov25 {x1 x2 x3 x4 x5 : Int} (h1 : zt_in x1) (h2 : zt_in x2) (h3 : zt_in x3) (h4 : zt_in x4) (h5 : zt_in x5) : zt_Ok 25 x1 x2 x3 x4 x5 := by
  have m1 := h1.1; have m2 := h1.2; have m3 := h2.1; have m4 := h2.2; have m5 := h3.1; have m6 := h3.2; have m7 := h4.1; have m8 := h4.2; have m9 := h5.1; have m10 := h5.2
  by_cases g0_0 : x1 ≤ (-1)
  · exact ⟨[], .inr ((-2147483648), (-1)), xd_top, xd_top, xd_top, xd_top, (zt_K zt_b25__0c0), ⟨by decide, (show (-2147483648) ≤ x1 by omega), (show x1 ≤ (-1) by omega)⟩, zt_top h2, zt_top h3, zt_top h4, zt_top h5⟩
  exact ⟨[], .inr (0, 2147483647), xd_top, xd_top, xd_top, xd_top, (zt_K zt_b25__0c1), ⟨by decide, (show 0 ≤ x1 by omega), (show x1 ≤ 2147483647 by omega)⟩, zt_top h2, zt_top h3, zt_top h4, zt_top h5⟩
theorem zt_cov26 {x1 x2 x3 x4 x5 : Int} (h1 : zt_in x1) (h2 : zt_in x2) (h3 : zt_in x3) (h4 : zt_in x4) (h5 : zt_in x5) : zt_Ok 26 x1 x2 x3 x4 x5 := by
  have m1 := h1.1; have m2 := h1.2; have m3 := h2.1; have m4 := h2.2; have m5 := h3.1; have m6 := h3.2; have m7 := h4.1; have m8 := h4.2; have m9 := h5.1; have m10 := h5.2
  by_cases g0_0 : x1 ≤ (-1)
  · exact ⟨[], .inr ((-2147483648), (-1)), xd_top, xd_top, xd_top, xd_top, (zt_K zt_b26__0c0), ⟨by decide, (show (-2147483648) ≤ x1 by omega), (show x1 ≤ (-1) by omega)⟩, zt_top h2, zt_top h3, zt_top h4, zt_top h5⟩
  by_cases g0_1 : x1 ≤ 3
  · exact ⟨[], .inr (0, 3), xd_top, xd_top, xd_top, xd_top, (zt_K zt_b26__0c1), ⟨by decide, (show 0 ≤ x1 by omega), (show x1 ≤ 3 by omega)⟩, zt_top h2, zt_top h3, zt_top h4, zt_top h5⟩
  exact ⟨[], .inr (4, 2147483647), xd_top, xd_top, xd_top, xd_top, (zt_K zt_b26__0c2), ⟨by decide, (show 4 ≤ x1 by omega), (show x1 ≤ 2147483647 by omega)⟩, zt_top h2, zt_top h3, zt_top h4, zt_top h5⟩
theorem zt_cov27 {x1 x2 x3 x4 x5 : Int} (h1 : zt_in x1) (h2 : zt_in x2) (h3 : zt_in x3) (h4 : zt_in x4) (h5 : zt_in x5) : zt_Ok 27 x1 x2 x3 x4 x5 := by
  have m1 := h1.1; have m2 := h1.2; have m3 := h2.1; have m4 := h2.2; have m5 := h3.1; have m6 := h3.2; have m7 := h4.1; have m8 := h4.2; have m9 := h5.1; have m10 := h5.2
  by_cases g0_0 : x1 ≤ (-1)
  · exact ⟨[], .inr ((-2147483648), (-1)), xd_top, xd_top, xd_top, xd_top, (zt_K zt_b27__0c0), ⟨by decide, (show (-2147483648) ≤ x1 by omega), (show x1 ≤ (-1) by omega)⟩, zt_top h2, zt_top h3, zt_top h4, zt_top h5⟩
  exact ⟨[], .inr (0, 2147483647), xd_top, xd_top, xd_top, xd_top, (zt_K zt_b27__0c1), ⟨by decide, (show 0 ≤ x1 by omega), (show x1 ≤ 2147483647 by omega)⟩, zt_top h2, zt_top h3, zt_top h4, zt_top h5⟩
theorem zt_cov28 {x1 x2 x3 x4 x5 : Int} (h1 : zt_in x1) (h2 : zt_in x2) (h3 : zt_in x3) (h4 : zt_in x4) (h5 : zt_in x5) : zt_Ok 28 x1 x2 x3 x4 x5 := by
  have m1 := h1.1; have m2 := h1.2; have m3 := h2.1; have m4 := h2.2; have m5 := h3.1; have m6 := h3.2; have m7 := h4.1; have m8 := h4.2; have m9 := h5.1; have m10 := h5.2
  by_cases g3_0 : x4 ≤ (-1)
  · by_cases g0_0 : x1 ≤ 0
    · exact ⟨[], .inr ((-2147483648), 0), xd_top, xd_top, .inr ((-2147483648), (-1)), xd_top, (zt_K zt_b28__3c0_0c0), ⟨by decide, (show (-2147483648) ≤ x1 by omega), (show x1 ≤ 0 by omega)⟩, zt_top h2, zt_top h3, ⟨by decide, (show (-2147483648) ≤ x4 by omega), (show x4 ≤ (-1) by omega)⟩, zt_top h5⟩
    by_cases g0_1 : x1 ≤ 200
    · by_cases g1_0 : x2 ≤ (-1)
      · exact ⟨[], .inr (1, 200), .inr ((-2147483648), (-1)), xd_top, .inr ((-2147483648), (-1)), xd_top, (zt_K zt_b28__3c0_0c1_1c0), ⟨by decide, (show 1 ≤ x1 by omega), (show x1 ≤ 200 by omega)⟩, ⟨by decide, (show (-2147483648) ≤ x2 by omega), (show x2 ≤ (-1) by omega)⟩, zt_top h3, ⟨by decide, (show (-2147483648) ≤ x4 by omega), (show x4 ≤ (-1) by omega)⟩, zt_top h5⟩
      exact ⟨[], .inr (1, 200), .inr (0, 2147483647), xd_top, .inr ((-2147483648), (-1)), xd_top, (zt_K zt_b28__3c0_0c1_1c1), ⟨by decide, (show 1 ≤ x1 by omega), (show x1 ≤ 200 by omega)⟩, ⟨by decide, (show 0 ≤ x2 by omega), (show x2 ≤ 2147483647 by omega)⟩, zt_top h3, ⟨by decide, (show (-2147483648) ≤ x4 by omega), (show x4 ≤ (-1) by omega)⟩, zt_top h5⟩
    exact ⟨[], .inr (201, 2147483647), xd_top, xd_top, .inr ((-2147483648), (-1)), xd_top, (zt_K zt_b28__3c0_0c2), ⟨by decide, (show 201 ≤ x1 by omega), (show x1 ≤ 2147483647 by omega)⟩, zt_top h2, zt_top h3, ⟨by decide, (show (-2147483648) ≤ x4 by omega), (show x4 ≤ (-1) by omega)⟩, zt_top h5⟩
  by_cases g3_1 : x4 ≤ 0
  · by_cases g0_0 : x1 ≤ 0
    · exact ⟨[], .inr ((-2147483648), 0), xd_top, xd_top, .inl 0, xd_top, (zt_K zt_b28__3c1_0c0), ⟨by decide, (show (-2147483648) ≤ x1 by omega), (show x1 ≤ 0 by omega)⟩, zt_top h2, zt_top h3, (show x4 = 0 by omega), zt_top h5⟩
    by_cases g0_1 : x1 ≤ 200
    · by_cases g1_0 : x2 ≤ (-1)
      · exact ⟨[], .inr (1, 200), .inr ((-2147483648), (-1)), xd_top, .inl 0, xd_top, (zt_K zt_b28__3c1_0c1_1c0), ⟨by decide, (show 1 ≤ x1 by omega), (show x1 ≤ 200 by omega)⟩, ⟨by decide, (show (-2147483648) ≤ x2 by omega), (show x2 ≤ (-1) by omega)⟩, zt_top h3, (show x4 = 0 by omega), zt_top h5⟩
      exact ⟨[], .inr (1, 200), .inr (0, 2147483647), xd_top, .inl 0, xd_top, (zt_K zt_b28__3c1_0c1_1c1), ⟨by decide, (show 1 ≤ x1 by omega), (show x1 ≤ 200 by omega)⟩, ⟨by decide, (show 0 ≤ x2 by omega), (show x2 ≤ 2147483647 by omega)⟩, zt_top h3, (show x4 = 0 by omega), zt_top h5⟩
    exact ⟨[], .inr (201, 2147483647), xd_top, xd_top, .inl 0, xd_top, (zt_K zt_b28__3c1_0c2), ⟨by decide, (show 201 ≤ x1 by omega), (show x1 ≤ 2147483647 by omega)⟩, zt_top h2, zt_top h3, (show x4 = 0 by omega), zt_top h5⟩
  by_cases g0_0 : x1 ≤ 0
  · exact ⟨[], .inr ((-2147483648), 0), xd_top, xd_top, .inr (1, 2147483647), xd_top, (zt_K zt_b28__3c2_0c0), ⟨by decide, (show (-2147483648) ≤ x1 by omega), (show x1 ≤ 0 by omega)⟩, zt_top h2, zt_top h3, ⟨by decide, (show 1 ≤ x4 by omega), (show x4 ≤ 2147483647 by omega)⟩, zt_top h5⟩
  by_cases g0_1 : x1 ≤ 200
  · by_cases g1_0 : x2 ≤ (-1)
    · exact ⟨[], .inr (1, 200), .inr ((-2147483648), (-1)), xd_top, .inr (1, 2147483647), xd_top, (zt_K zt_b28__3c2_0c1_1c0), ⟨by decide, (show 1 ≤ x1 by omega), (show x1 ≤ 200 by omega)⟩, ⟨by decide, (show (-2147483648) ≤ x2 by omega), (show x2 ≤ (-1) by omega)⟩, zt_top h3, ⟨by decide, (show 1 ≤ x4 by omega), (show x4 ≤ 2147483647 by omega)⟩, zt_top h5⟩
    exact ⟨[], .inr (1, 200), .inr (0, 2147483647), xd_top, .inr (1, 2147483647), xd_top, (zt_K zt_b28__3c2_0c1_1c1), ⟨by decide, (show 1 ≤ x1 by omega), (show x1 ≤ 200 by omega)⟩, ⟨by decide, (show 0 ≤ x2 by omega), (show x2 ≤ 2147483647 by omega)⟩, zt_top h3, ⟨by decide, (show 1 ≤ x4 by omega), (show x4 ≤ 2147483647 by omega)⟩, zt_top h5⟩
  exact ⟨[], .inr (201, 2147483647), xd_top, xd_top, .inr (1, 2147483647), xd_top, (zt_K zt_b28__3c2_0c2), ⟨by decide, (show 201 ≤ x1 by omega), (show x1 ≤ 2147483647 by omega)⟩, zt_top h2, zt_top h3, ⟨by decide, (show 1 ≤ x4 by omega), (show x4 ≤ 2147483647 by omega)⟩, zt_top h5⟩
theorem zt_cov29 {x1 x2 x3 x4 x5 : Int} (h1 : zt_in x1) (h2 : zt_in x2) (h3 : zt_in x3) (h4 : zt_in x4) (h5 : zt_in x5) : zt_Ok 29 x1 x2 x3 x4 x5 := by
  have m1 := h1.1; have m2 := h1.2; have m3 := h2.1; have m4 := h2.2; have m5 := h3.1; have m6 := h3.2; have m7 := h4.1; have m8 := h4.2; have m9 := h5.1; have m10 := h5.2
  by_cases g0_0 : x1 ≤ (-1)
  · exact ⟨[], .inr ((-2147483648), (-1)), xd_top, xd_top, xd_top, xd_top, (zt_K zt_b29__0c0), ⟨by decide, (show (-2147483648) ≤ x1 by omega), (show x1 ≤ (-1) by omega)⟩, zt_top h2, zt_top h3, zt_top h4, zt_top h5⟩
  exact ⟨[], .inr (0, 2147483647), xd_top, xd_top, xd_top, xd_top, (zt_K zt_b29__0c1), ⟨by decide, (show 0 ≤ x1 by omega), (show x1 ≤ 2147483647 by omega)⟩, zt_top h2, zt_top h3, zt_top h4, zt_top h5⟩
theorem zt_cov30 {x1 x2 x3 x4 x5 : Int} (h1 : zt_in x1) (h2 : zt_in x2) (h3 : zt_in x3) (h4 : zt_in x4) (h5 : zt_in x5) : zt_Ok 30 x1 x2 x3 x4 x5 := by
  have m1 := h1.1; have m2 := h1.2; have m3 := h2.1; have m4 := h2.2; have m5 := h3.1; have m6 := h3.2; have m7 := h4.1; have m8 := h4.2; have m9 := h5.1; have m10 := h5.2
  by_cases g0_0 : x1 ≤ (-2)
  · exact ⟨[], .inr ((-2147483648), (-2)), xd_top, xd_top, xd_top, xd_top, (zt_K zt_b30__0c0), ⟨by decide, (show (-2147483648) ≤ x1 by omega), (show x1 ≤ (-2) by omega)⟩, zt_top h2, zt_top h3, zt_top h4, zt_top h5⟩
  by_cases g0_1 : x1 ≤ (-1)
  · exact ⟨[], .inl (-1), xd_top, xd_top, xd_top, xd_top, (zt_K zt_b30__0c1), (show x1 = (-1) by omega), zt_top h2, zt_top h3, zt_top h4, zt_top h5⟩
  by_cases g0_2 : x1 ≤ 0
  · exact ⟨[], .inl 0, xd_top, xd_top, xd_top, xd_top, (zt_K zt_b30__0c2), (show x1 = 0 by omega), zt_top h2, zt_top h3, zt_top h4, zt_top h5⟩
  exact ⟨[], .inr (1, 2147483647), xd_top, xd_top, xd_top, xd_top, (zt_K zt_b30__0c3), ⟨by decide, (show 1 ≤ x1 by omega), (show x1 ≤ 2147483647 by omega)⟩, zt_top h2, zt_top h3, zt_top h4, zt_top h5⟩
theorem zt_cov31 {x1 x2 x3 x4 x5 : Int} (h1 : zt_in x1) (h2 : zt_in x2) (h3 : zt_in x3) (h4 : zt_in x4) (h5 : zt_in x5) : zt_Ok 31 x1 x2 x3 x4 x5 := by
  have m1 := h1.1; have m2 := h1.2; have m3 := h2.1; have m4 := h2.2; have m5 := h3.1; have m6 := h3.2; have m7 := h4.1; have m8 := h4.2; have m9 := h5.1; have m10 := h5.2
  by_cases g0_0 : x1 ≤ (-1)
  · exact ⟨[], .inr ((-2147483648), (-1)), xd_top, xd_top, xd_top, xd_top, (zt_K zt_b31__0c0), ⟨by decide, (show (-2147483648) ≤ x1 by omega), (show x1 ≤ (-1) by omega)⟩, zt_top h2, zt_top h3, zt_top h4, zt_top h5⟩
  exact ⟨[], .inr (0, 2147483647), xd_top, xd_top, xd_top, xd_top, (zt_K zt_b31__0c1), ⟨by decide, (show 0 ≤ x1 by omega), (show x1 ≤ 2147483647 by omega)⟩, zt_top h2, zt_top h3, zt_top h4, zt_top h5⟩
theorem zt_cov32 {x1 x2 x3 x4 x5 : Int} (h1 : zt_in x1) (h2 : zt_in x2) (h3 : zt_in x3) (h4 : zt_in x4) (h5 : zt_in x5) : zt_Ok 32 x1 x2 x3 x4 x5 := by
  have m1 := h1.1; have m2 := h1.2; have m3 := h2.1; have m4 := h2.2; have m5 := h3.1; have m6 := h3.2; have m7 := h4.1; have m8 := h4.2; have m9 := h5.1; have m10 := h5.2
  by_cases g0_0 : x1 ≤ (-1)
  · exact ⟨[], .inr ((-2147483648), (-1)), xd_top, xd_top, xd_top, xd_top, (zt_K zt_b32__0c0), ⟨by decide, (show (-2147483648) ≤ x1 by omega), (show x1 ≤ (-1) by omega)⟩, zt_top h2, zt_top h3, zt_top h4, zt_top h5⟩
  by_cases g1_0 : x2 ≤ 0
  · exact ⟨[], .inr (0, 2147483647), .inr ((-2147483648), 0), xd_top, xd_top, xd_top, (zt_K zt_b32__0c1_1c0), ⟨by decide, (show 0 ≤ x1 by omega), (show x1 ≤ 2147483647 by omega)⟩, ⟨by decide, (show (-2147483648) ≤ x2 by omega), (show x2 ≤ 0 by omega)⟩, zt_top h3, zt_top h4, zt_top h5⟩
  by_cases g1_1 : x2 ≤ 200
  · by_cases g2_0 : x3 ≤ (-1)
    · exact ⟨[], .inr (0, 2147483647), .inr (1, 200), .inr ((-2147483648), (-1)), xd_top, xd_top, (zt_K zt_b32__0c1_1c1_2c0), ⟨by decide, (show 0 ≤ x1 by omega), (show x1 ≤ 2147483647 by omega)⟩, ⟨by decide, (show 1 ≤ x2 by omega), (show x2 ≤ 200 by omega)⟩, ⟨by decide, (show (-2147483648) ≤ x3 by omega), (show x3 ≤ (-1) by omega)⟩, zt_top h4, zt_top h5⟩
    exact ⟨[], .inr (0, 2147483647), .inr (1, 200), .inr (0, 2147483647), xd_top, xd_top, (zt_K zt_b32__0c1_1c1_2c1), ⟨by decide, (show 0 ≤ x1 by omega), (show x1 ≤ 2147483647 by omega)⟩, ⟨by decide, (show 1 ≤ x2 by omega), (show x2 ≤ 200 by omega)⟩, ⟨by decide, (show 0 ≤ x3 by omega), (show x3 ≤ 2147483647 by omega)⟩, zt_top h4, zt_top h5⟩
  exact ⟨[], .inr (0, 2147483647), .inr (201, 2147483647), xd_top, xd_top, xd_top, (zt_K zt_b32__0c1_1c2), ⟨by decide, (show 0 ≤ x1 by omega), (show x1 ≤ 2147483647 by omega)⟩, ⟨by decide, (show 201 ≤ x2 by omega), (show x2 ≤ 2147483647 by omega)⟩, zt_top h3, zt_top h4, zt_top h5⟩
theorem zt_cov33 {x1 x2 x3 x4 x5 : Int} (h1 : zt_in x1) (h2 : zt_in x2) (h3 : zt_in x3) (h4 : zt_in x4) (h5 : zt_in x5) : zt_Ok 33 x1 x2 x3 x4 x5 := by
  have m1 := h1.1; have m2 := h1.2; have m3 := h2.1; have m4 := h2.2; have m5 := h3.1; have m6 := h3.2; have m7 := h4.1; have m8 := h4.2; have m9 := h5.1; have m10 := h5.2
  by_cases g0_0 : x1 ≤ (-1)
  · exact ⟨[], .inr ((-2147483648), (-1)), xd_top, xd_top, xd_top, xd_top, (zt_K zt_b33__0c0), ⟨by decide, (show (-2147483648) ≤ x1 by omega), (show x1 ≤ (-1) by omega)⟩, zt_top h2, zt_top h3, zt_top h4, zt_top h5⟩
  by_cases g0_1 : x1 ≤ 0
  · by_cases g2_0 : x3 ≤ (-1)
    · exact ⟨[], .inl 0, xd_top, .inr ((-2147483648), (-1)), xd_top, xd_top, (zt_K zt_b33__0c1_2c0), (show x1 = 0 by omega), zt_top h2, ⟨by decide, (show (-2147483648) ≤ x3 by omega), (show x3 ≤ (-1) by omega)⟩, zt_top h4, zt_top h5⟩
    by_cases g2_1 : x3 ≤ 200
    · by_cases g1_0 : x2 ≤ (-1)
      · exact ⟨[], .inl 0, .inr ((-2147483648), (-1)), .inr (0, 200), xd_top, xd_top, (zt_K zt_b33__0c1_2c1_1c0), (show x1 = 0 by omega), ⟨by decide, (show (-2147483648) ≤ x2 by omega), (show x2 ≤ (-1) by omega)⟩, ⟨by decide, (show 0 ≤ x3 by omega), (show x3 ≤ 200 by omega)⟩, zt_top h4, zt_top h5⟩
      by_cases g1_1 : x2 ≤ 0
      · exact ⟨[], .inl 0, .inl 0, .inr (0, 200), xd_top, xd_top, (zt_K zt_b33__0c1_2c1_1c1), (show x1 = 0 by omega), (show x2 = 0 by omega), ⟨by decide, (show 0 ≤ x3 by omega), (show x3 ≤ 200 by omega)⟩, zt_top h4, zt_top h5⟩
      exact ⟨[], .inl 0, .inr (1, 2147483647), .inr (0, 200), xd_top, xd_top, (zt_K zt_b33__0c1_2c1_1c2), (show x1 = 0 by omega), ⟨by decide, (show 1 ≤ x2 by omega), (show x2 ≤ 2147483647 by omega)⟩, ⟨by decide, (show 0 ≤ x3 by omega), (show x3 ≤ 200 by omega)⟩, zt_top h4, zt_top h5⟩
    exact ⟨[], .inl 0, xd_top, .inr (201, 2147483647), xd_top, xd_top, (zt_K zt_b33__0c1_2c2), (show x1 = 0 by omega), zt_top h2, ⟨by decide, (show 201 ≤ x3 by omega), (show x3 ≤ 2147483647 by omega)⟩, zt_top h4, zt_top h5⟩
  by_cases g0_2 : x1 ≤ 1
  · by_cases g2_0 : x3 ≤ (-1)
    · exact ⟨[], .inl 1, xd_top, .inr ((-2147483648), (-1)), xd_top, xd_top, (zt_K zt_b33__0c2_2c0), (show x1 = 1 by omega), zt_top h2, ⟨by decide, (show (-2147483648) ≤ x3 by omega), (show x3 ≤ (-1) by omega)⟩, zt_top h4, zt_top h5⟩
    by_cases g2_1 : x3 ≤ 200
    · by_cases g1_0 : x2 ≤ (-1)
      · exact ⟨[], .inl 1, .inr ((-2147483648), (-1)), .inr (0, 200), xd_top, xd_top, (zt_K zt_b33__0c2_2c1_1c0), (show x1 = 1 by omega), ⟨by decide, (show (-2147483648) ≤ x2 by omega), (show x2 ≤ (-1) by omega)⟩, ⟨by decide, (show 0 ≤ x3 by omega), (show x3 ≤ 200 by omega)⟩, zt_top h4, zt_top h5⟩
      by_cases g1_1 : x2 ≤ 0
      · exact ⟨[], .inl 1, .inl 0, .inr (0, 200), xd_top, xd_top, (zt_K zt_b33__0c2_2c1_1c1), (show x1 = 1 by omega), (show x2 = 0 by omega), ⟨by decide, (show 0 ≤ x3 by omega), (show x3 ≤ 200 by omega)⟩, zt_top h4, zt_top h5⟩
      exact ⟨[], .inl 1, .inr (1, 2147483647), .inr (0, 200), xd_top, xd_top, (zt_K zt_b33__0c2_2c1_1c2), (show x1 = 1 by omega), ⟨by decide, (show 1 ≤ x2 by omega), (show x2 ≤ 2147483647 by omega)⟩, ⟨by decide, (show 0 ≤ x3 by omega), (show x3 ≤ 200 by omega)⟩, zt_top h4, zt_top h5⟩
    exact ⟨[], .inl 1, xd_top, .inr (201, 2147483647), xd_top, xd_top, (zt_K zt_b33__0c2_2c2), (show x1 = 1 by omega), zt_top h2, ⟨by decide, (show 201 ≤ x3 by omega), (show x3 ≤ 2147483647 by omega)⟩, zt_top h4, zt_top h5⟩
  by_cases g0_3 : x1 ≤ 2
  · by_cases g2_0 : x3 ≤ (-1)
    · exact ⟨[], .inl 2, xd_top, .inr ((-2147483648), (-1)), xd_top, xd_top, (zt_K zt_b33__0c3_2c0), (show x1 = 2 by omega), zt_top h2, ⟨by decide, (show (-2147483648) ≤ x3 by omega), (show x3 ≤ (-1) by omega)⟩, zt_top h4, zt_top h5⟩
    by_cases g2_1 : x3 ≤ 200
    · by_cases g1_0 : x2 ≤ (-1)
      · exact ⟨[], .inl 2, .inr ((-2147483648), (-1)), .inr (0, 200), xd_top, xd_top, (zt_K zt_b33__0c3_2c1_1c0), (show x1 = 2 by omega), ⟨by decide, (show (-2147483648) ≤ x2 by omega), (show x2 ≤ (-1) by omega)⟩, ⟨by decide, (show 0 ≤ x3 by omega), (show x3 ≤ 200 by omega)⟩, zt_top h4, zt_top h5⟩
      exact ⟨[], .inl 2, .inr (0, 2147483647), .inr (0, 200), xd_top, xd_top, (zt_K zt_b33__0c3_2c1_1c1), (show x1 = 2 by omega), ⟨by decide, (show 0 ≤ x2 by omega), (show x2 ≤ 2147483647 by omega)⟩, ⟨by decide, (show 0 ≤ x3 by omega), (show x3 ≤ 200 by omega)⟩, zt_top h4, zt_top h5⟩
    exact ⟨[], .inl 2, xd_top, .inr (201, 2147483647), xd_top, xd_top, (zt_K zt_b33__0c3_2c2), (show x1 = 2 by omega), zt_top h2, ⟨by decide, (show 201 ≤ x3 by omega), (show x3 ≤ 2147483647 by omega)⟩, zt_top h4, zt_top h5⟩
  by_cases g0_4 : x1 ≤ 3
  · by_cases g2_0 : x3 ≤ (-1)
    · exact ⟨[], .inl 3, xd_top, .inr ((-2147483648), (-1)), xd_top, xd_top, (zt_K zt_b33__0c4_2c0), (show x1 = 3 by omega), zt_top h2, ⟨by decide, (show (-2147483648) ≤ x3 by omega), (show x3 ≤ (-1) by omega)⟩, zt_top h4, zt_top h5⟩
    by_cases g2_1 : x3 ≤ 200
    · by_cases g1_0 : x2 ≤ (-1)
      · exact ⟨[], .inl 3, .inr ((-2147483648), (-1)), .inr (0, 200), xd_top, xd_top, (zt_K zt_b33__0c4_2c1_1c0), (show x1 = 3 by omega), ⟨by decide, (show (-2147483648) ≤ x2 by omega), (show x2 ≤ (-1) by omega)⟩, ⟨by decide, (show 0 ≤ x3 by omega), (show x3 ≤ 200 by omega)⟩, zt_top h4, zt_top h5⟩
      by_cases g1_1 : x2 ≤ 0
      · exact ⟨[], .inl 3, .inl 0, .inr (0, 200), xd_top, xd_top, (zt_K zt_b33__0c4_2c1_1c1), (show x1 = 3 by omega), (show x2 = 0 by omega), ⟨by decide, (show 0 ≤ x3 by omega), (show x3 ≤ 200 by omega)⟩, zt_top h4, zt_top h5⟩
      exact ⟨[], .inl 3, .inr (1, 2147483647), .inr (0, 200), xd_top, xd_top, (zt_K zt_b33__0c4_2c1_1c2), (show x1 = 3 by omega), ⟨by decide, (show 1 ≤ x2 by omega), (show x2 ≤ 2147483647 by omega)⟩, ⟨by decide, (show 0 ≤ x3 by omega), (show x3 ≤ 200 by omega)⟩, zt_top h4, zt_top h5⟩
    exact ⟨[], .inl 3, xd_top, .inr (201, 2147483647), xd_top, xd_top, (zt_K zt_b33__0c4_2c2), (show x1 = 3 by omega), zt_top h2, ⟨by decide, (show 201 ≤ x3 by omega), (show x3 ≤ 2147483647 by omega)⟩, zt_top h4, zt_top h5⟩
  by_cases g0_5 : x1 ≤ 4
  · by_cases g2_0 : x3 ≤ (-1)
    · exact ⟨[], .inl 4, xd_top, .inr ((-2147483648), (-1)), xd_top, xd_top, (zt_K zt_b33__0c5_2c0), (show x1 = 4 by omega), zt_top h2, ⟨by decide, (show (-2147483648) ≤ x3 by omega), (show x3 ≤ (-1) by omega)⟩, zt_top h4, zt_top h5⟩
    by_cases g2_1 : x3 ≤ 200
    · by_cases g1_0 : x2 ≤ (-1)
      · exact ⟨[], .inl 4, .inr ((-2147483648), (-1)), .inr (0, 200), xd_top, xd_top, (zt_K zt_b33__0c5_2c1_1c0), (show x1 = 4 by omega), ⟨by decide, (show (-2147483648) ≤ x2 by omega), (show x2 ≤ (-1) by omega)⟩, ⟨by decide, (show 0 ≤ x3 by omega), (show x3 ≤ 200 by omega)⟩, zt_top h4, zt_top h5⟩
      by_cases g1_1 : x2 ≤ 0
      · exact ⟨[], .inl 4, .inl 0, .inr (0, 200), xd_top, xd_top, (zt_K zt_b33__0c5_2c1_1c1), (show x1 = 4 by omega), (show x2 = 0 by omega), ⟨by decide, (show 0 ≤ x3 by omega), (show x3 ≤ 200 by omega)⟩, zt_top h4, zt_top h5⟩
      exact ⟨[], .inl 4, .inr (1, 2147483647), .inr (0, 200), xd_top, xd_top, (zt_K zt_b33__0c5_2c1_1c2), (show x1 = 4 by omega), ⟨by decide, (show 1 ≤ x2 by omega), (show x2 ≤ 2147483647 by omega)⟩, ⟨by decide, (show 0 ≤ x3 by omega), (show x3 ≤ 200 by omega)⟩, zt_top h4, zt_top h5⟩
    exact ⟨[], .inl 4, xd_top, .inr (201, 2147483647), xd_top, xd_top, (zt_K zt_b33__0c5_2c2), (show x1 = 4 by omega), zt_top h2, ⟨by decide, (show 201 ≤ x3 by omega), (show x3 ≤ 2147483647 by omega)⟩, zt_top h4, zt_top h5⟩
  exact ⟨[], .inr (5, 2147483647), xd_top, xd_top, xd_top, xd_top, (zt_K zt_b33__0c6), ⟨by decide, (show 5 ≤ x1 by omega), (show x1 ≤ 2147483647 by omega)⟩, zt_top h2, zt_top h3, zt_top h4, zt_top h5⟩
theorem zt_cov34 {x1 x2 x3 x4 x5 : Int} (h1 : zt_in x1) (h2 : zt_in x2) (h3 : zt_in x3) (h4 : zt_in x4) (h5 : zt_in x5) : zt_Ok 34 x1 x2 x3 x4 x5 := by
  have m1 := h1.1; have m2 := h1.2; have m3 := h2.1; have m4 := h2.2; have m5 := h3.1; have m6 := h3.2; have m7 := h4.1; have m8 := h4.2; have m9 := h5.1; have m10 := h5.2
  exact ⟨[], xd_top, xd_top, xd_top, xd_top, xd_top, (zt_K zt_b34_), zt_top h1, zt_top h2, zt_top h3, zt_top h4, zt_top h5⟩
theorem zt_cov35 {x1 x2 x3 x4 x5 : Int} (h1 : zt_in x1) (h2 : zt_in x2) (h3 : zt_in x3) (h4 : zt_in x4) (h5 : zt_in x5) : zt_Ok 35 x1 x2 x3 x4 x5 := by
  have m1 := h1.1; have m2 := h1.2; have m3 := h2.1; have m4 := h2.2; have m5 := h3.1; have m6 := h3.2; have m7 := h4.1; have m8 := h4.2; have m9 := h5.1; have m10 := h5.2
  exact ⟨[], xd_top, xd_top, xd_top, xd_top, xd_top, (zt_K zt_b35_), zt_top h1, zt_top h2, zt_top h3, zt_top h4, zt_top h5⟩
theorem zt_cov36 {x1 x2 x3 x4 x5 : Int} (h1 : zt_in x1) (h2 : zt_in x2) (h3 : zt_in x3) (h4 : zt_in x4) (h5 : zt_in x5) : zt_Ok 36 x1 x2 x3 x4 x5 := by
  have m1 := h1.1; have m2 := h1.2; have m3 := h2.1; have m4 := h2.2; have m5 := h3.1; have m6 := h3.2; have m7 := h4.1; have m8 := h4.2; have m9 := h5.1; have m10 := h5.2
  exact ⟨[], xd_top, xd_top, xd_top, xd_top, xd_top, (zt_K zt_b36_), zt_top h1, zt_top h2, zt_top h3, zt_top h4, zt_top h5⟩
theorem zt_cov37 {x1 x2 x3 x4 x5 : Int} (h1 : zt_in x1) (h2 : zt_in x2) (h3 : zt_in x3) (h4 : zt_in x4) (h5 : zt_in x5) : zt_Ok 37 x1 x2 x3 x4 x5 := by
  have m1 := h1.1; have m2 := h1.2; have m3 := h2.1; have m4 := h2.2; have m5 := h3.1; have m6 := h3.2; have m7 := h4.1; have m8 := h4.2; have m9 := h5.1; have m10 := h5.2
  by_cases g0_0 : x1 ≤ (-1)
  · exact ⟨[], .inr ((-2147483648), (-1)), xd_top, xd_top, xd_top, xd_top, (zt_K zt_b37__0c0), ⟨by decide, (show (-2147483648) ≤ x1 by omega), (show x1 ≤ (-1) by omega)⟩, zt_top h2, zt_top h3, zt_top h4, zt_top h5⟩
  by_cases g0_1000 : x1 ≤ 15
  · exact ⟨[], .inl (Int.ofNat ((x1 - 0).toNat + 0)), xd_top, xd_top, xd_top, xd_top, zt_K (List.all_eq_true.mp zt_b37_e_0 (x1 - 0).toNat (List.mem_range.mpr (by omega))), (show x1 = Int.ofNat ((x1 - 0).toNat + 0) by rw [Int.ofNat_eq_natCast]; omega), zt_top h2, zt_top h3, zt_top h4, zt_top h5⟩
  exact ⟨[], .inr (16, 2147483647), xd_top, xd_top, xd_top, xd_top, (zt_K zt_b37__0c17), ⟨by decide, (show 16 ≤ x1 by omega), (show x1 ≤ 2147483647 by omega)⟩, zt_top h2, zt_top h3, zt_top h4, zt_top h5⟩
theorem zt_cov38 {x1 x2 x3 x4 x5 : Int} (h1 : zt_in x1) (h2 : zt_in x2) (h3 : zt_in x3) (h4 : zt_in x4) (h5 : zt_in x5) : zt_Ok 38 x1 x2 x3 x4 x5 := by
  have m1 := h1.1; have m2 := h1.2; have m3 := h2.1; have m4 := h2.2; have m5 := h3.1; have m6 := h3.2; have m7 := h4.1; have m8 := h4.2; have m9 := h5.1; have m10 := h5.2
  exact ⟨[], xd_top, xd_top, xd_top, xd_top, xd_top, (zt_K zt_b38_), zt_top h1, zt_top h2, zt_top h3, zt_top h4, zt_top h5⟩
theorem zt_cov39 {x1 x2 x3 x4 x5 : Int} (h1 : zt_in x1) (h2 : zt_in x2) (h3 : zt_in x3) (h4 : zt_in x4) (h5 : zt_in x5) : zt_Ok 39 x1 x2 x3 x4 x5 := by
  have m1 := h1.1; have m2 := h1.2; have m3 := h2.1; have m4 := h2.2; have m5 := h3.1; have m6 := h3.2; have m7 := h4.1; have m8 := h4.2; have m9 := h5.1; have m10 := h5.2
  exact ⟨[], xd_top, xd_top, xd_top, xd_top, xd_top, (zt_K zt_b39_), zt_top h1, zt_top h2, zt_top h3, zt_top h4, zt_top h5⟩
theorem zt_cov40 {x1 x2 x3 x4 x5 : Int} (h1 : zt_in x1) (h2 : zt_in x2) (h3 : zt_in x3) (h4 : zt_in x4) (h5 : zt_in x5) : zt_Ok 40 x1 x2 x3 x4 x5 := by
  have m1 := h1.1; have m2 := h1.2; have m3 := h2.1; have m4 := h2.2; have m5 := h3.1; have m6 := h3.2; have m7 := h4.1; have m8 := h4.2; have m9 := h5.1; have m10 := h5.2
  exact ⟨[], xd_top, xd_top, xd_top, xd_top, xd_top, (zt_K zt_b40_), zt_top h1, zt_top h2, zt_top h3, zt_top h4, zt_top h5⟩
theorem zt_cov41 {x1 x2 x3 x4 x5 : Int} (h1 : zt_in x1) (h2 : zt_in x2) (h3 : zt_in x3) (h4 : zt_in x4) (h5 : zt_in x5) : zt_Ok 41 x1 x2 x3 x4 x5 := by
  have m1 := h1.1; have m2 := h1.2; have m3 := h2.1; have m4 := h2.2; have m5 := h3.1; have m6 := h3.2; have m7 := h4.1; have m8 := h4.2; have m9 := h5.1; have m10 := h5.2
  exact ⟨[], xd_top, xd_top, xd_top, xd_top, xd_top, (zt_K zt_b41_), zt_top h1, zt_top h2, zt_top h3, zt_top h4, zt_top h5⟩
theorem zt_cov42 {x1 x2 x3 x4 x5 : Int} (h1 : zt_in x1) (h2 : zt_in x2) (h3 : zt_in x3) (h4 : zt_in x4) (h5 : zt_in x5) : zt_Ok 42 x1 x2 x3 x4 x5 := by
  have m1 := h1.1; have m2 := h1.2; have m3 := h2.1; have m4 := h2.2; have m5 := h3.1; have m6 := h3.2; have m7 := h4.1; have m8 := h4.2; have m9 := h5.1; have m10 := h5.2
  exact ⟨[], xd_top, xd_top, xd_top, xd_top, xd_top, (zt_K zt_b42_), zt_top h1, zt_top h2, zt_top h3, zt_top h4, zt_top h5⟩
theorem zt_cov43 {x1 x2 x3 x4 x5 : Int} (h1 : zt_in x1) (h2 : zt_in x2) (h3 : zt_in x3) (h4 : zt_in x4) (h5 : zt_in x5) : zt_Ok 43 x1 x2 x3 x4 x5 := by
  have m1 := h1.1; have m2 := h1.2; have m3 := h2.1; have m4 := h2.2; have m5 := h3.1; have m6 := h3.2; have m7 := h4.1; have m8 := h4.2; have m9 := h5.1; have m10 := h5.2
  exact ⟨[], xd_top, xd_top, xd_top, xd_top, xd_top, (zt_K zt_b43_), zt_top h1, zt_top h2, zt_top h3, zt_top h4, zt_top h5⟩
theorem zt_cov44 {x1 x2 x3 x4 x5 : Int} (h1 : zt_in x1) (h2 : zt_in x2) (h3 : zt_in x3) (h4 : zt_in x4) (h5 : zt_in x5) : zt_Ok 44 x1 x2 x3 x4 x5 := by
  have m1 := h1.1; have m2 := h1.2; have m3 := h2.1; have m4 := h2.2; have m5 := h3.1; have m6 := h3.2; have m7 := h4.1; have m8 := h4.2; have m9 := h5.1; have m10 := h5.2
  exact ⟨[], xd_top, xd_top, xd_top, xd_top, xd_top, (zt_K zt_b44_), zt_top h1, zt_top h2, zt_top h3, zt_top h4, zt_top h5⟩
theorem zt_cov45 {x1 x2 x3 x4 x5 : Int} (h1 : zt_in x1) (h2 : zt_in x2) (h3 : zt_in x3) (h4 : zt_in x4) (h5 : zt_in x5) : zt_Ok 45 x1 x2 x3 x4 x5 := by
  have m1 := h1.1; have m2 := h1.2; have m3 := h2.1; have m4 := h2.2; have m5 := h3.1; have m6 := h3.2; have m7 := h4.1; have m8 := h4.2; have m9 := h5.1; have m10 := h5.2
  exact ⟨[], xd_top, xd_top, xd_top, xd_top, xd_top, (zt_K zt_b45_), zt_top h1, zt_top h2, zt_top h3, zt_top h4, zt_top h5⟩
theorem zt_cov46 {x1 x2 x3 x4 x5 : Int} (h1 : zt_in x1) (h2 : zt_in x2) (h3 : zt_in x3) (h4 : zt_in x4) (h5 : zt_in x5) : zt_Ok 46 x1 x2 x3 x4 x5 := by
  have m1 := h1.1; have m2 := h1.2; have m3 := h2.1; have m4 := h2.2; have m5 := h3.1; have m6 := h3.2; have m7 := h4.1; have m8 := h4.2; have m9 := h5.1; have m10 := h5.2
  exact ⟨[], xd_top, xd_top, xd_top, xd_top, xd_top, (zt_K zt_b46_), zt_top h1, zt_top h2, zt_top h3, zt_top h4, zt_top h5⟩
theorem zt_cov47 {x1 x2 x3 x4 x5 : Int} (h1 : zt_in x1) (h2 : zt_in x2) (h3 : zt_in x3) (h4 : zt_in x4) (h5 : zt_in x5) : zt_Ok 47 x1 x2 x3 x4 x5 := by
  have m1 := h1.1; have m2 := h1.2; have m3 := h2.1; have m4 := h2.2; have m5 := h3.1; have m6 := h3.2; have m7 := h4.1; have m8 := h4.2; have m9 := h5.1; have m10 := h5.2
  exact ⟨[], xd_top, xd_top, xd_top, xd_top, xd_top, (zt_K zt_b47_), zt_top h1, zt_top h2, zt_top h3, zt_top h4, zt_top h5⟩
theorem zt_cov48 {x1 x2 x3 x4 x5 : Int} (h1 : zt_in x1) (h2 : zt_in x2) (h3 : zt_in x3) (h4 : zt_in x4) (h5 : zt_in x5) : zt_Ok 48 x1 x2 x3 x4 x5 := by
  have m1 := h1.1; have m2 := h1.2; have m3 := h2.1; have m4 := h2.2; have m5 := h3.1; have m6 := h3.2; have m7 := h4.1; have m8 := h4.2; have m9 := h5.1; have m10 := h5.2
  exact ⟨[], xd_top, xd_top, xd_top, xd_top, xd_top, (zt_K zt_b48_), zt_top h1, zt_top h2, zt_top h3, zt_top h4, zt_top h5⟩
theorem zt_cov49 {x1 x2 x3 x4 x5 : Int} (h1 : zt_in x1) (h2 : zt_in x2) (h3 : zt_in x3) (h4 : zt_in x4) (h5 : zt_in x5) : zt_Ok 49 x1 x2 x3 x4 x5 := by
  have m1 := h1.1; have m2 := h1.2; have m3 := h2.1; have m4 := h2.2; have m5 := h3.1; have m6 := h3.2; have m7 := h4.1; have m8 := h4.2; have m9 := h5.1; have m10 := h5.2
  exact ⟨[], xd_top, xd_top, xd_top, xd_top, xd_top, (zt_K zt_b49_), zt_top h1, zt_top h2, zt_top h3, zt_top h4, zt_top h5⟩
theorem zt_cov50 {x1 x2 x3 x4 x5 : Int} (h1 : zt_in x1) (h2 : zt_in x2) (h3 : zt_in x3) (h4 : zt_in x4) (h5 : zt_in x5) : zt_Ok 50 x1 x2 x3 x4 x5 := by
  have m1 := h1.1; have m2 := h1.2; have m3 := h2.1; have m4 := h2.2; have m5 := h3.1; have m6 := h3.2; have m7 := h4.1; have m8 := h4.2; have m9 := h5.1; have m10 := h5.2
  exact ⟨[], xd_top, xd_top, xd_top, xd_top, xd_top, (zt_K zt_b50_), zt_top h1, zt_top h2, zt_top h3, zt_top h4, zt_top h5⟩
theorem zt_cov51 {x1 x2 x3 x4 x5 : Int} (h1 : zt_in x1) (h2 : zt_in x2) (h3 : zt_in x3) (h4 : zt_in x4) (h5 : zt_in x5) : zt_Ok 51 x1 x2 x3 x4 x5 := by
  have m1 := h1.1; have m2 := h1.2; have m3 := h2.1; have m4 := h2.2; have m5 := h3.1; have m6 := h3.2; have m7 := h4.1; have m8 := h4.2; have m9 := h5.1; have m10 := h5.2
  exact ⟨[], xd_top, xd_top, xd_top, xd_top, xd_top, (zt_K zt_b51_), zt_top h1, zt_top h2, zt_top h3, zt_top h4, zt_top h5⟩
theorem zt_cov52 {x1 x2 x3 x4 x5 : Int} (h1 : zt_in x1) (h2 : zt_in x2) (h3 : zt_in x3) (h4 : zt_in x4) (h5 : zt_in x5) : zt_Ok 52 x1 x2 x3 x4 x5 := by
  have m1 := h1.1; have m2 := h1.2; have m3 := h2.1; have m4 := h2.2; have m5 := h3.1; have m6 := h3.2; have m7 := h4.1; have m8 := h4.2; have m9 := h5.1; have m10 := h5.2
  exact ⟨[], xd_top, xd_top, xd_top, xd_top, xd_top, (zt_K zt_b52_), zt_top h1, zt_top h2, zt_top h3, zt_top h4, zt_top h5⟩
theorem zt_cov53 {x1 x2 x3 x4 x5 : Int} (h1 : zt_in x1) (h2 : zt_in x2) (h3 : zt_in x3) (h4 : zt_in x4) (h5 : zt_in x5) : zt_Ok 53 x1 x2 x3 x4 x5 := by
  have m1 := h1.1; have m2 := h1.2; have m3 := h2.1; have m4 := h2.2; have m5 := h3.1; have m6 := h3.2; have m7 := h4.1; have m8 := h4.2; have m9 := h5.1; have m10 := h5.2
  exact ⟨[], xd_top, xd_top, xd_top, xd_top, xd_top, (zt_K zt_b53_), zt_top h1, zt_top h2, zt_top h3, zt_top h4, zt_top h5⟩
theorem zt_cov54 {x1 x2 x3 x4 x5 : Int} (h1 : zt_in x1) (h2 : zt_in x2) (h3 : zt_in x3) (h4 : zt_in x4) (h5 : zt_in x5) : zt_Ok 54 x1 x2 x3 x4 x5 := by
  have m1 := h1.1; have m2 := h1.2; have m3 := h2.1; have m4 := h2.2; have m5 := h3.1; have m6 := h3.2; have m7 := h4.1; have m8 := h4.2; have m9 := h5.1; have m10 := h5.2
  exact ⟨[], xd_top, xd_top, xd_top, xd_top, xd_top, (zt_K zt_b54_), zt_top h1, zt_top h2, zt_top h3, zt_top h4, zt_top h5⟩
theorem zt_cov55 {x1 x2 x3 x4 x5 : Int} (h1 : zt_in x1) (h2 : zt_in x2) (h3 : zt_in x3) (h4 : zt_in x4) (h5 : zt_in x5) : zt_Ok 55 x1 x2 x3 x4 x5 := by
  have m1 := h1.1; have m2 := h1.2; have m3 := h2.1; have m4 := h2.2; have m5 := h3.1; have m6 := h3.2; have m7 := h4.1; have m8 := h4.2; have m9 := h5.1; have m10 := h5.2
  exact ⟨[], xd_top, xd_top, xd_top, xd_top, xd_top, (zt_K zt_b55_), zt_top h1, zt_top h2, zt_top h3, zt_top h4, zt_top h5⟩
theorem zt_cov56 {x1 x2 x3 x4 x5 : Int} (h1 : zt_in x1) (h2 : zt_in x2) (h3 : zt_in x3) (h4 : zt_in x4) (h5 : zt_in x5) : zt_Ok 56 x1 x2 x3 x4 x5 := by
  have m1 := h1.1; have m2 := h1.2; have m3 := h2.1; have m4 := h2.2; have m5 := h3.1; have m6 := h3.2; have m7 := h4.1; have m8 := h4.2; have m9 := h5.1; have m10 := h5.2
  exact ⟨[], xd_top, xd_top, xd_top, xd_top, xd_top, (zt_K zt_b56_), zt_top h1, zt_top h2, zt_top h3, zt_top h4, zt_top h5⟩
theorem zt_cov57 {x1 x2 x3 x4 x5 : Int} (h1 : zt_in x1) (h2 : zt_in x2) (h3 : zt_in x3) (h4 : zt_in x4) (h5 : zt_in x5) : zt_Ok 57 x1 x2 x3 x4 x5 := by
  have m1 := h1.1; have m2 := h1.2; have m3 := h2.1; have m4 := h2.2; have m5 := h3.1; have m6 := h3.2; have m7 := h4.1; have m8 := h4.2; have m9 := h5.1; have m10 := h5.2
  exact ⟨[], xd_top, xd_top, xd_top, xd_top, xd_top, (zt_K zt_b57_), zt_top h1, zt_top h2, zt_top h3, zt_top h4, zt_top h5⟩
theorem zt_cov58 {x1 x2 x3 x4 x5 : Int} (h1 : zt_in x1) (h2 : zt_in x2) (h3 : zt_in x3) (h4 : zt_in x4) (h5 : zt_in x5) : zt_Ok 58 x1 x2 x3 x4 x5 := by
  have m1 := h1.1; have m2 := h1.2; have m3 := h2.1; have m4 := h2.2; have m5 := h3.1; have m6 := h3.2; have m7 := h4.1; have m8 := h4.2; have m9 := h5.1; have m10 := h5.2
  exact ⟨[], xd_top, xd_top, xd_top, xd_top, xd_top, (zt_K zt_b58_), zt_top h1, zt_top h2, zt_top h3, zt_top h4, zt_top h5⟩
theorem zt_cov59 {x1 x2 x3 x4 x5 : Int} (h1 : zt_in x1) (h2 : zt_in x2) (h3 : zt_in x3) (h4 : zt_in x4) (h5 : zt_in x5) : zt_Ok 59 x1 x2 x3 x4 x5 := by
  have m1 := h1.1; have m2 := h1.2; have m3 := h2.1; have m4 := h2.2; have m5 := h3.1; have m6 := h3.2; have m7 := h4.1; have m8 := h4.2; have m9 := h5.1; have m10 := h5.2
  exact ⟨[], xd_top, xd_top, xd_top, xd_top, xd_top, (zt_K zt_b59_), zt_top h1, zt_top h2, zt_top h3, zt_top h4, zt_top h5⟩
theorem zt_cov60 {x1 x2 x3 x4 x5 : Int} (h1 : zt_in x1) (h2 : zt_in x2) (h3 : zt_in x3) (h4 : zt_in x4) (h5 : zt_in x5) : zt_Ok 60 x1 x2 x3 x4 x5 := by
  have m1 := h1.1; have m2 := h1.2; have m3 := h2.1; have m4 := h2.2; have m5 := h3.1; have m6 := h3.2; have m7 := h4.1; have m8 := h4.2; have m9 := h5.1; have m10 := h5.2
  exact ⟨[], xd_top, xd_top, xd_top, xd_top, xd_top, (zt_K zt_b60_), zt_top h1, zt_top h2, zt_top h3, zt_top h4, zt_top h5⟩
theorem zt_cov61 {x1 x2 x3 x4 x5 : Int} (h1 : zt_in x1) (h2 : zt_in x2) (h3 : zt_in x3) (h4 : zt_in x4) (h5 : zt_in x5) : zt_Ok 61 x1 x2 x3 x4 x5 := by
  have m1 := h1.1; have m2 := h1.2; have m3 := h2.1; have m4 := h2.2; have m5 := h3.1; have m6 := h3.2; have m7 := h4.1; have m8 := h4.2; have m9 := h5.1; have m10 := h5.2
  exact ⟨[], xd_top, xd_top, xd_top, xd_top, xd_top, (zt_K zt_b61_), zt_top h1, zt_top h2, zt_top h3, zt_top h4, zt_top h5⟩
theorem zt_cov62 {x1 x2 x3 x4 x5 : Int} (h1 : zt_in x1) (h2 : zt_in x2) (h3 : zt_in x3) (h4 : zt_in x4) (h5 : zt_in x5) : zt_Ok 62 x1 x2 x3 x4 x5 := by
  have m1 := h1.1; have m2 := h1.2; have m3 := h2.1; have m4 := h2.2; have m5 := h3.1; have m6 := h3.2; have m7 := h4.1; have m8 := h4.2; have m9 := h5.1; have m10 := h5.2
  exact ⟨[], xd_top, xd_top, xd_top, xd_top, xd_top, (zt_K zt_b62_), zt_top h1, zt_top h2, zt_top h3, zt_top h4, zt_top h5⟩
theorem zt_cov63 {x1 x2 x3 x4 x5 : Int} (h1 : zt_in x1) (h2 : zt_in x2) (h3 : zt_in x3) (h4 : zt_in x4) (h5 : zt_in x5) : zt_Ok 63 x1 x2 x3 x4 x5 := by
  have m1 := h1.1; have m2 := h1.2; have m3 := h2.1; have m4 := h2.2; have m5 := h3.1; have m6 := h3.2; have m7 := h4.1; have m8 := h4.2; have m9 := h5.1; have m10 := h5.2
  exact ⟨[], xd_top, xd_top, xd_top, xd_top, xd_top, (zt_K zt_b63_), zt_top h1, zt_top h2, zt_top h3, zt_top h4, zt_top h5⟩
