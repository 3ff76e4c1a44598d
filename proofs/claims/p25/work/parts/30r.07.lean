set_option maxRecDepth 100000 in
set_option maxHeartbeats 4000000 in
theorem zr_231_4 (n : Nat) (c : zu_C) (ex : zu_I) (a0 a1 x2 x3 : Int) (σ : zu_m) : zu_rega (zt_T n) c ex 0 zt_m231 [4] 400 4 [(27, a0), (0, a1), (0, x2), (0, x3)] [] σ = (if (σ a0 2) ≤ x3 then (some (x2, σ)) else (if 0 ≤ x3 ∧ x3 < 16 then (if (σ ((a0 + 1) + 5 + x3) 3) ≠ (-1) then (ex 4 [(27, a0), (0, a1), (0, x2), (0, (zu_w32 (x3 + 1)))] [] σ) else (if 0 ≤ x3 ∧ x3 < 16 then (if (σ ((a0 + 1) + 5 + x3) 0) ≠ a1 then (ex 4 [(27, a0), (0, a1), (0, x2), (0, (zu_w32 (x3 + 1)))] [] σ) else (ex 4 [(27, a0), (0, a1), (0, (zu_w32 (x2 + 1))), (0, (zu_w32 (x3 + 1)))] [] σ)) else none)) else none)) := Eq.trans (Eq.refl _) rfl
set_option maxRecDepth 100000 in
set_option maxHeartbeats 4000000 in
theorem zr_232_0 (n : Nat) (c : zu_C) (ex : zu_I) (a0 a1 : Int) (σ : zu_m) : zu_rega (zt_T n) c ex 0 zt_m232 [4] 400 0 [(27, a0), (0, a1), (2, 0), (2, 0)] [] σ = (ex 4 [(27, a0), (0, a1), (0, 0), (0, 0)] [] σ) := Eq.trans (Eq.refl _) rfl
set_option maxRecDepth 100000 in
set_option maxHeartbeats 4000000 in
theorem zr_232_4 (n : Nat) (c : zu_C) (ex : zu_I) (a0 a1 x2 x3 : Int) (σ : zu_m) : zu_rega (zt_T n) c ex 0 zt_m232 [4] 400 4 [(27, a0), (0, a1), (0, x2), (0, x3)] [] σ = (if (σ a0 4) ≤ x3 then (some (x2, σ)) else (if 0 ≤ x3 ∧ x3 < 4 then (if (σ ((a0 + 2) + 20 + x3) 1) ≠ a1 then (ex 4 [(27, a0), (0, a1), (0, x2), (0, (zu_w32 (x3 + 1)))] [] σ) else (ex 4 [(27, a0), (0, a1), (0, (zu_w32 (x2 + 1))), (0, (zu_w32 (x3 + 1)))] [] σ)) else none)) := Eq.trans (Eq.refl _) rfl
set_option maxRecDepth 100000 in
set_option maxHeartbeats 4000000 in
theorem zr_233_0 (n : Nat) (c : zu_C) (ex : zu_I) (a0 a1 : Int) (σ : zu_m) : zu_rega (zt_T n) c ex 0 zt_m233 [4] 400 0 [(27, a0), (0, a1), (2, 0), (2, 0)] [] σ = (ex 4 [(27, a0), (0, a1), (0, 0), (0, 0)] [] σ) := Eq.trans (Eq.refl _) rfl
set_option maxRecDepth 100000 in
set_option maxHeartbeats 4000000 in
theorem zr_233_4 (n : Nat) (c : zu_C) (ex : zu_I) (a0 a1 x2 x3 : Int) (σ : zu_m) : zu_rega (zt_T n) c ex 0 zt_m233 [4] 400 4 [(27, a0), (0, a1), (0, x2), (0, x3)] [] σ = (if (σ a0 2) ≤ x3 then (some (x2, σ)) else (if 0 ≤ x3 ∧ x3 < 16 then (if (σ ((a0 + 1) + 5 + x3) 3) ≠ a1 then (ex 4 [(27, a0), (0, a1), (0, x2), (0, (zu_w32 (x3 + 1)))] [] σ) else (ex 4 [(27, a0), (0, a1), (0, (zu_w32 (x2 + 1))), (0, (zu_w32 (x3 + 1)))] [] σ)) else none)) := Eq.trans (Eq.refl _) rfl
set_option maxRecDepth 100000 in
set_option maxHeartbeats 4000000 in
theorem zr_234_0 (n : Nat) (c : zu_C) (ex : zu_I) (a0 : Int) (σ : zu_m) : zu_rega (zt_T n) c ex 0 zt_m234 [4] 400 0 [(27, a0), (2, 0), (2, 0)] [] σ = (ex 4 [(27, a0), (0, 0), (0, 0)] [] σ) := Eq.trans (Eq.refl _) rfl
set_option maxRecDepth 100000 in
set_option maxHeartbeats 4000000 in
theorem zr_234_4 (n : Nat) (c : zu_C) (ex : zu_I) (a0 x1 x2 : Int) (σ : zu_m) : zu_rega (zt_T n) c ex 0 zt_m234 [4] 400 4 [(27, a0), (0, x1), (0, x2)] [] σ = (if (σ a0 2) ≤ x2 then (some (x1, σ)) else (if 0 ≤ x2 ∧ x2 < 16 then (if (σ ((a0 + 1) + 5 + x2) 3) < 0 then (ex 4 [(27, a0), (0, x1), (0, (zu_w32 (x2 + 1)))] [] σ) else (ex 4 [(27, a0), (0, (zu_w32 (x1 + 1))), (0, (zu_w32 (x2 + 1)))] [] σ)) else none)) := Eq.trans (Eq.refl _) rfl
set_option maxRecDepth 100000 in
set_option maxHeartbeats 4000000 in
theorem zr_235_0 (n : Nat) (c : zu_C) (ex : zu_I) (a0 : Int) (σ : zu_m) : zu_rega (zt_T n) c ex 0 zt_m235 [4] 400 0 [(27, a0), (2, 0), (2, 0)] [] σ = (ex 4 [(27, a0), (0, 0), (0, 0)] [] σ) := Eq.trans (Eq.refl _) rfl
set_option maxRecDepth 100000 in
set_option maxHeartbeats 4000000 in
theorem zr_235_4 (n : Nat) (c : zu_C) (ex : zu_I) (a0 x1 x2 : Int) (σ : zu_m) : zu_rega (zt_T n) c ex 0 zt_m235 [4] 400 4 [(27, a0), (0, x1), (0, x2)] [] σ = (if (σ 50 2) ≤ x2 then (some (x1, σ)) else (if 0 ≤ x2 ∧ x2 < 48 then (if (σ (a0 + 3) x2) = 0 then (ex 4 [(27, a0), (0, x1), (0, (zu_w32 (x2 + 1)))] [] σ) else (ex 4 [(27, a0), (0, (zu_w32 (x1 + 1))), (0, (zu_w32 (x2 + 1)))] [] σ)) else none)) := Eq.trans (Eq.refl _) rfl
set_option maxRecDepth 100000 in
set_option maxHeartbeats 4000000 in
theorem zr_236_0 (n : Nat) (c : zu_C) (ex : zu_I) (a0 a1 : Int) (σ : zu_m) : zu_rega (zt_T n) c ex 0 zt_m236 [4] 400 0 [(27, a0), (0, a1), (2, 0), (2, 0)] [] σ = (ex 4 [(27, a0), (0, a1), (0, 0), (0, 0)] [] σ) := Eq.trans (Eq.refl _) rfl
set_option maxRecDepth 100000 in
set_option maxHeartbeats 4000000 in
theorem zr_236_4 (n : Nat) (c : zu_C) (ex : zu_I) (a0 a1 x2 x3 : Int) (σ : zu_m) : zu_rega (zt_T n) c ex 0 zt_m236 [4] 400 4 [(27, a0), (0, a1), (0, x2), (0, x3)] [] σ = (if (σ a0 2) ≤ x3 then (some (x2, σ)) else (if 0 ≤ x3 ∧ x3 < 16 then (if (σ ((a0 + 1) + 5 + x3) 3) ≠ a1 then (ex 4 [(27, a0), (0, a1), (0, x2), (0, (zu_w32 (x3 + 1)))] [] σ) else (ex 4 [(27, a0), (0, a1), (0, (zu_i32 4 x2 (zu_i32 5 1 x3))), (0, (zu_w32 (x3 + 1)))] [] σ)) else none)) := Eq.trans (Eq.refl _) rfl
set_option maxRecDepth 100000 in
set_option maxHeartbeats 4000000 in
theorem zr_238_0 (n : Nat) (c : zu_C) (ex : zu_I) (a0 : Int) (σ : zu_m) : zu_rega (zt_T n) c ex 0 zt_m238 [4] 400 0 [(27, a0), (2, 0), (2, 0)] [] σ = (ex 4 [(27, a0), (0, 0), (0, 0)] [] σ) := Eq.trans (Eq.refl _) rfl
set_option maxRecDepth 100000 in
set_option maxHeartbeats 4000000 in
theorem zr_238_4 (n : Nat) (c : zu_C) (ex : zu_I) (a0 x1 x2 : Int) (σ : zu_m) : zu_rega (zt_T n) c ex 0 zt_m238 [4] 400 4 [(27, a0), (0, x1), (0, x2)] [] σ = (if (σ a0 4) ≤ x2 then (some (x1, σ)) else (if 0 ≤ x2 ∧ x2 < 4 then (ex 4 [(27, a0), (0, (zu_max x1 (σ ((a0 + 2) + 20 + x2) 6))), (0, (zu_w32 (x2 + 1)))] [] σ) else none)) := Eq.trans (Eq.refl _) rfl
set_option maxRecDepth 100000 in
set_option maxHeartbeats 4000000 in
theorem zr_245_0 (n : Nat) (c : zu_C) (ex : zu_I) (a0 a1 a2 : Int) (σ : zu_m) : zu_rega (zt_T n) c ex 0 zt_m245 [] 400 0 [(8, a0), (0, a1), (0, a2)] [] σ = (if 0 ≤ a1 ∧ a1 < 48 then (if 0 ≤ a2 ∧ a2 < 48 then (if 0 ≤ a1 ∧ a1 < 48 then (if 0 ≤ a2 ∧ a2 < 48 then (some ((zu_w32 ((zu_abs (zu_w32 ((σ (a0 + 1) a1) - (σ (a0 + 1) a2)))) + (zu_abs (zu_w32 ((σ (a0 + 2) a1) - (σ (a0 + 2) a2)))))), σ)) else none) else none) else none) else none) := Eq.trans (Eq.refl _) rfl
set_option maxRecDepth 100000 in
set_option maxHeartbeats 4000000 in
theorem zr_246_0 (n : Nat) (c : zu_C) (ex : zu_I) (a0 a1 a2 : Int) (σ : zu_m) : zu_rega (zt_T n) c ex 0 zt_m246 [] 400 0 [(8, a0), (0, a1), (0, a2)] [] σ = (if 0 ≤ a1 ∧ a1 < 48 then (if 0 ≤ a2 ∧ a2 < 48 then (if (σ (a0 + 1) a2) ≤ (σ (a0 + 1) a1) then (if 0 ≤ a1 ∧ a1 < 48 then (if 0 ≤ a2 ∧ a2 < 48 then (if (σ (a0 + 1) a1) ≤ (σ (a0 + 1) a2) then (if 0 ≤ a1 ∧ a1 < 48 then (if 0 ≤ a2 ∧ a2 < 48 then (if (σ (a0 + 2) a2) ≤ (σ (a0 + 2) a1) then (if 0 ≤ a1 ∧ a1 < 48 then (if 0 ≤ a2 ∧ a2 < 48 then (if (σ (a0 + 2) a1) ≤ (σ (a0 + 2) a2) then (some (a1, σ)) else (some ((zu_w32 (a1 - (σ a0 0))), σ))) else none) else none) else (some ((zu_w32 (a1 + (σ a0 0))), σ))) else none) else none) else (some ((zu_w32 (a1 - 1)), σ))) else none) else none) else (some ((zu_w32 (a1 + 1)), σ))) else none) else none) := Eq.trans (Eq.refl _) rfl
set_option maxRecDepth 100000 in
set_option maxHeartbeats 4000000 in
theorem zr_247_0 (n : Nat) (c : zu_C) (ex : zu_I) (a0 a1 a2 a3 : Int) (σ : zu_m) : zu_rega (zt_T n) c ex 0 zt_m247 [] 400 0 [(8, a0), (0, a1), (0, a2), (0, a3)] [] σ = (if 0 ≤ (0 : Int) ∧ (0 : Int) < 7 then (if 0 ≤ (3 : Int) ∧ (3 : Int) < 7 then (if (4 : Int) = 0 then none else (if ((zu_up σ (a0 + 12) 0 a2) (a0 + 12) 3) ≠ (Int.tmod a1 4) then (if 0 ≤ (4 : Int) ∧ (4 : Int) < 7 then (if 0 ≤ (6 : Int) ∧ (6 : Int) < 7 then (some (0, (zu_up (zu_up (zu_up σ (a0 + 12) 0 a2) (a0 + 12) 4 0) (a0 + 12) 6 a3))) else none) else none) else (if 0 ≤ (4 : Int) ∧ (4 : Int) < 7 then (if 0 ≤ (6 : Int) ∧ (6 : Int) < 7 then (some (0, (zu_up (zu_up (zu_up σ (a0 + 12) 0 a2) (a0 + 12) 4 1) (a0 + 12) 6 a3))) else none) else none))) else none) else none) := Eq.trans (Eq.refl _) rfl
set_option maxRecDepth 100000 in
set_option maxHeartbeats 4000000 in
theorem zr_254_0 (n : Nat) (c : zu_C) (ex : zu_I) (a0 a1 a2 a3 : Int) (σ : zu_m) : zu_rega (zt_T n) c ex 0 zt_m254 [] 400 0 [(8, a0), (0, a1), (0, a2), (0, a3)] [] σ = (if 0 ≤ (zu_w32 ((zu_w32 (a2 * 48)) + a3)) ∧ (zu_w32 ((zu_w32 (a2 * 48)) + a3)) < 192 then (if (100 : Int) = 0 then none else (some ((zu_w32 (Int.tdiv (zu_w32 (a1 * (σ (a0 + 11) (zu_w32 ((zu_w32 (a2 * 48)) + a3))))) 100)), σ))) else none) := Eq.trans (Eq.refl _) rfl
set_option maxRecDepth 100000 in
set_option maxHeartbeats 4000000 in
theorem zr_256_0 (n : Nat) (c : zu_C) (ex : zu_I) (a0 a1 : Int) (σ : zu_m) : zu_rega (zt_T n) c ex 0 zt_m256 [9] 400 0 [(1, a0), (2, 0), (1, a1), (2, 0), (2, 0), (2, 0), (2, 0), (2, 0), (2, 0), (2, 0), (2, 0)] [] σ = (ex 9 [(1, a0), (2, 0), (1, a1), (2, 0), (1, a0), (2, 0), (1, a1), (2, 0), (0, 0), (2, 0), (2, 0)] [] σ) := Eq.trans (Eq.refl _) rfl
set_option maxRecDepth 100000 in
set_option maxHeartbeats 4000000 in
theorem zr_256_9 (n : Nat) (c : zu_C) (ex : zu_I) (a0 a1 x4 x6 x8 : Int) (σ : zu_m) : zu_rega (zt_T n) c ex 0 zt_m256 [9] 400 9 [(1, a0), (2, 0), (1, a1), (2, 0), (1, x4), (2, 0), (1, x6), (2, 0), (0, x8), (2, 0), (2, 0)] [] σ = (if 1000 ≤ x8 then (some (x4, σ)) else (if (zu_lcmp x6 0) = 0 then (some (x4, σ)) else (if x6 = 0 then none else (ex 9 [(1, a0), (2, 0), (1, a1), (2, 0), (1, x6), (2, 0), (1, (Int.tmod x4 x6)), (2, 0), (0, (zu_w32 (x8 + 1))), (1, (Int.tmod x4 x6)), (2, 0)] [] σ)))) := Eq.trans (Eq.refl _) rfl
