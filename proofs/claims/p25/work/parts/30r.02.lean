set_option maxRecDepth 100000 in
set_option maxHeartbeats 4000000 in
theorem zr_204_0 (n : Nat) (c : zu_C) (ex : zu_I) (a0 : Int) (σ : zu_m) : zu_rega (zt_T n) c ex 0 zt_m204 [] 400 0 [(24, a0)] [] σ = (if (σ 10 5) < 64 then (zu_b 1 (some (1, (zu_up σ 10 5 (zu_w32 ((σ 10 5) + 1)))))) else (zu_b 0 (some (0, σ)))) := Eq.trans (Eq.refl _) rfl
set_option maxRecDepth 100000 in
set_option maxHeartbeats 4000000 in
theorem zr_200_0 (n : Nat) (c : zu_C) (ex : zu_I) (a0 a1 a2 : Int) (σ : zu_m) : zu_rega (zt_T n) c ex 1 zt_m200 [] 400 0 [(24, a0), (0, a1), (0, a2)] [] σ = (zu_bd (c 204 [(24, a0)] σ) (fun v1 s1 => (if v1 ≠ 0 then (zu_bd (c 207 [(10, 10), (0, a1), (0, a2)] s1) (fun v15 s15 => (zu_b 0 (some (0, (zu_up s15 a0 6 0)))))) else (some (2, s1))))) := Eq.trans (Eq.refl _) rfl
set_option maxRecDepth 100000 in
set_option maxHeartbeats 4000000 in
theorem zr_203_0 (n : Nat) (c : zu_C) (ex : zu_I) (a0 : Int) (σ : zu_m) : zu_rega (zt_T n) c ex 1 zt_m203 [] 400 0 [(24, a0)] [] σ = (zu_bd (c 279 [(22, 45), (0, 23), (0, 1)] σ) (fun v7 s7 => (if v7 = 0 then (zu_bd (c 279 [(22, 45), (0, 24), (0, 1)] s7) (fun v23 s23 => (if v23 = 0 then (if (s23 45 4) ≠ 4 then (some ((-1), s23)) else (if (s23 45 5) < 3 then (some ((-1), s23)) else (some ((s23 45 5), s23)))) else (some (14, s23))))) else (some (13, s7))))) := Eq.trans (Eq.refl _) rfl
set_option maxRecDepth 100000 in
set_option maxHeartbeats 4000000 in
theorem zr_14_0 (n : Nat) (c : zu_C) (ex : zu_I) (a0 : Int) (σ : zu_m) : zu_rega (zt_T n) c ex 0 zt_m14 [12] 400 0 [(10, a0), (2, 0)] [] σ = (ex 12 [(10, a0), (0, 0)] [] (zu_up (zu_up σ a0 5 0) a0 6 0)) := Eq.trans (Eq.refl _) rfl
set_option maxRecDepth 100000 in
set_option maxHeartbeats 4000000 in
theorem zr_14_12 (n : Nat) (c : zu_C) (ex : zu_I) (a0 x1 : Int) (σ : zu_m) : zu_rega (zt_T n) c ex 0 zt_m14 [12] 400 12 [(10, a0), (0, x1)] [] σ = (if 4 ≤ x1 then (some (0, σ)) else (if 0 ≤ x1 ∧ x1 < 4 then (if 0 ≤ x1 ∧ x1 < 4 then (ex 12 [(10, a0), (0, (zu_w32 (x1 + 1)))] [] (zu_up (zu_up σ (a0 + 3) x1 (-1)) (a0 + 4) x1 (-1))) else none) else none)) := Eq.trans (Eq.refl _) rfl
set_option maxRecDepth 100000 in
set_option maxHeartbeats 4000000 in
theorem zr_15_0 (n : Nat) (c : zu_C) (ex : zu_I) (a0 a1 a2 : Int) (σ : zu_m) : zu_rega (zt_T n) c ex 0 zt_m15 [28, 40] 400 0 [(8, a0), (0, a1), (0, a2), (2, 0), (2, 0), (2, 0)] [] σ = (ex 28 [(8, a0), (0, a1), (0, a2), (0, 0), (0, 0), (2, 0)] [] (zu_up (zu_up (zu_up σ a0 0 a1) a0 1 a2) a0 2 (zu_w32 (((zu_up (zu_up σ a0 0 a1) a0 1 a2) a0 0) * ((zu_up (zu_up σ a0 0 a1) a0 1 a2) a0 1))))) := Eq.trans (Eq.refl _) rfl
set_option maxRecDepth 100000 in
set_option maxHeartbeats 4000000 in
theorem zr_15_28 (n : Nat) (c : zu_C) (ex : zu_I) (a0 a1 a2 x3 x4 : Int) (σ : zu_m) : zu_rega (zt_T n) c ex 0 zt_m15 [28, 40] 400 28 [(8, a0), (0, a1), (0, a2), (0, x3), (0, x4), (2, 0)] [] σ = (if (σ a0 1) ≤ x4 then (some (0, σ)) else (ex 40 [(8, a0), (0, a1), (0, a2), (0, x3), (0, x4), (0, 0)] [] σ)) := Eq.trans (Eq.refl _) rfl
set_option maxRecDepth 100000 in
set_option maxHeartbeats 4000000 in
theorem zr_15_40 (n : Nat) (c : zu_C) (ex : zu_I) (a0 a1 a2 x3 x4 x5 : Int) (σ : zu_m) : zu_rega (zt_T n) c ex 0 zt_m15 [28, 40] 400 40 [(8, a0), (0, a1), (0, a2), (0, x3), (0, x4), (0, x5)] [] σ = (if (σ a0 0) ≤ x5 then (ex 28 [(8, a0), (0, a1), (0, a2), (0, x3), (0, (zu_w32 (x4 + 1))), (0, x5)] [] σ) else (if 48 ≤ x3 then (ex 28 [(8, a0), (0, a1), (0, a2), (0, x3), (0, (zu_w32 (x4 + 1))), (0, x5)] [] σ) else (if 0 ≤ x3 ∧ x3 < 48 then (if 0 ≤ x3 ∧ x3 < 48 then (ex 40 [(8, a0), (0, a1), (0, a2), (0, (zu_w32 (x3 + 1))), (0, x4), (0, (zu_w32 (x5 + 1)))] [] (zu_up (zu_up σ (a0 + 1) x3 x5) (a0 + 2) x3 x4)) else none) else none))) := Eq.trans (Eq.refl _) rfl
set_option maxRecDepth 100000 in
set_option maxHeartbeats 4000000 in
theorem zr_16_0 (n : Nat) (c : zu_C) (ex : zu_I) (a0 : Int) (σ : zu_m) : zu_rega (zt_T n) c ex 0 zt_m16 [33] 400 0 [(16, a0), (2, 0)] [] σ = (ex 33 [(16, a0), (0, 0)] [] (zu_up (zu_up (zu_up (zu_up (zu_up (zu_up σ a0 2 0) a0 4 0) a0 8 0) a0 9 0) a0 10 0) a0 11 1000000)) := Eq.trans (Eq.refl _) rfl
set_option maxRecDepth 100000 in
set_option maxHeartbeats 4000000 in
theorem zr_16_33 (n : Nat) (c : zu_C) (ex : zu_I) (a0 x1 : Int) (σ : zu_m) : zu_rega (zt_T n) c ex 0 zt_m16 [33] 400 33 [(16, a0), (0, x1)] [] σ = (if 48 ≤ x1 then (some (0, σ)) else (zu_b 0 (if 0 ≤ x1 ∧ x1 < 48 then (if 0 ≤ x1 ∧ x1 < 48 then (ex 33 [(16, a0), (0, (zu_w32 (x1 + 1)))] [] (zu_up (zu_up σ 22 x1 0) 23 x1 0)) else none) else none))) := Eq.trans (Eq.refl _) rfl
set_option maxRecDepth 100000 in
set_option maxHeartbeats 4000000 in
theorem zr_17_0 (n : Nat) (c : zu_C) (ex : zu_I) (a0 a1 : Int) (σ : zu_m) : zu_rega (zt_T n) c ex 0 zt_m17 [] 400 0 [(22, a0), (0, a1)] [] σ = (some (0, (zu_up (zu_up σ a0 2 a1) a0 3 0))) := Eq.trans (Eq.refl _) rfl
set_option maxRecDepth 100000 in
set_option maxHeartbeats 4000000 in
theorem zr_21_0 (n : Nat) (c : zu_C) (ex : zu_I) (a0 a1 : Int) (σ : zu_m) : zu_rega (zt_T n) c ex 0 zt_m21 [] 400 0 [(10, a0), (10, a1)] [] σ = (if 0 ≤ (64 : Int) ∧ 0 ≤ (0 : Int) ∧ 0 ≤ (0 : Int) ∧ (0 : Int) + 64 ≤ 64 ∧ (0 : Int) + 64 ≤ 64 then (if 0 ≤ (64 : Int) ∧ 0 ≤ (0 : Int) ∧ 0 ≤ (0 : Int) ∧ (0 : Int) + 64 ≤ 64 ∧ (0 : Int) + 64 ≤ 64 then (if 0 ≤ (4 : Int) ∧ 0 ≤ (0 : Int) ∧ 0 ≤ (0 : Int) ∧ (0 : Int) + 4 ≤ 4 ∧ (0 : Int) + 4 ≤ 4 then (if 0 ≤ (4 : Int) ∧ 0 ≤ (0 : Int) ∧ 0 ≤ (0 : Int) ∧ (0 : Int) + 4 ≤ 4 ∧ (0 : Int) + 4 ≤ 4 then (some (0, (zu_up (zu_up (zu_cp (zu_cp (zu_cp (zu_cp σ (a1 + 1) 0 (a0 + 1) 0 64) (a1 + 2) 0 (a0 + 2) 0 64) (a1 + 3) 0 (a0 + 3) 0 4) (a1 + 4) 0 (a0 + 4) 0 4) a0 5 ((zu_cp (zu_cp (zu_cp (zu_cp σ (a1 + 1) 0 (a0 + 1) 0 64) (a1 + 2) 0 (a0 + 2) 0 64) (a1 + 3) 0 (a0 + 3) 0 4) (a1 + 4) 0 (a0 + 4) 0 4) a1 5)) a0 6 ((zu_up (zu_cp (zu_cp (zu_cp (zu_cp σ (a1 + 1) 0 (a0 + 1) 0 64) (a1 + 2) 0 (a0 + 2) 0 64) (a1 + 3) 0 (a0 + 3) 0 4) (a1 + 4) 0 (a0 + 4) 0 4) a0 5 ((zu_cp (zu_cp (zu_cp (zu_cp σ (a1 + 1) 0 (a0 + 1) 0 64) (a1 + 2) 0 (a0 + 2) 0 64) (a1 + 3) 0 (a0 + 3) 0 4) (a1 + 4) 0 (a0 + 4) 0 4) a1 5)) a1 6)))) else none) else none) else none) else none) := Eq.trans (Eq.refl _) rfl
set_option maxRecDepth 100000 in
set_option maxHeartbeats 4000000 in
theorem zr_25_0 (n : Nat) (c : zu_C) (ex : zu_I) (a0 a1 a2 a3 : Int) (σ : zu_m) : zu_rega (zt_T n) c ex 0 zt_m25 [] 400 0 [(8, a0), (0, a1), (0, a2), (0, a3)] [] σ = (if 0 ≤ (0 : Int) ∧ (0 : Int) < 7 then (if 0 ≤ (1 : Int) ∧ (1 : Int) < 7 then (if 0 ≤ a1 ∧ a1 < 48 then (if 0 ≤ (2 : Int) ∧ (2 : Int) < 7 then (if 0 ≤ (3 : Int) ∧ (3 : Int) < 7 then (if 0 ≤ (4 : Int) ∧ (4 : Int) < 7 then (if 0 ≤ a1 ∧ a1 < 48 then (if 0 ≤ (5 : Int) ∧ (5 : Int) < 7 then (if 0 ≤ (6 : Int) ∧ (6 : Int) < 7 then (some (0, (zu_up (zu_up (zu_up (zu_up (zu_up (zu_up (zu_up σ (a0 + 12) 0 0) (a0 + 12) 1 a3) (a0 + 12) 2 ((zu_up (zu_up σ (a0 + 12) 0 0) (a0 + 12) 1 a3) (a0 + 3) a1)) (a0 + 12) 3 a2) (a0 + 12) 4 0) (a0 + 12) 5 ((zu_up (zu_up (zu_up (zu_up (zu_up σ (a0 + 12) 0 0) (a0 + 12) 1 a3) (a0 + 12) 2 ((zu_up (zu_up σ (a0 + 12) 0 0) (a0 + 12) 1 a3) (a0 + 3) a1)) (a0 + 12) 3 a2) (a0 + 12) 4 0) (a0 + 2) a1)) (a0 + 12) 6 0))) else none) else none) else none) else none) else none) else none) else none) else none) else none) := Eq.trans (Eq.refl _) rfl
set_option maxRecDepth 100000 in
set_option maxHeartbeats 4000000 in
theorem zr_27_0 (n : Nat) (c : zu_C) (ex : zu_I) (a0 : Int) (σ : zu_m) : zu_rega (zt_T n) c ex 0 zt_m27 [] 400 0 [(28, a0)] [] σ = (some (0, (zu_up (zu_up σ a0 6 0) a0 7 (-1)))) := Eq.trans (Eq.refl _) rfl
set_option maxRecDepth 100000 in
set_option maxHeartbeats 4000000 in
theorem zr_28_0 (n : Nat) (c : zu_C) (ex : zu_I) (a0 : Int) (σ : zu_m) : zu_rega (zt_T n) c ex 0 zt_m28 [] 400 0 [(31, a0)] [] σ = (some (0, (zu_up σ a0 4 0))) := Eq.trans (Eq.refl _) rfl
set_option maxRecDepth 100000 in
set_option maxHeartbeats 4000000 in
theorem zr_30_0 (n : Nat) (c : zu_C) (ex : zu_I) (a0 : Int) (σ : zu_m) : zu_rega (zt_T n) c ex 0 zt_m30 [43, 64, 95, 126] 400 0 [(40, a0), (2, 0)] [] σ = (zu_b 0 (ex 43 [(40, a0), (0, 0)] [] (zu_up (zu_up (zu_up (zu_up (zu_up (zu_up (zu_up (zu_up σ a0 17 6) a0 18 5) a0 19 0) a0 20 0) a0 21 0) a0 22 0) a0 48 0) a0 23 0))) := Eq.trans (Eq.refl _) rfl
set_option maxRecDepth 100000 in
set_option maxHeartbeats 4000000 in
theorem zr_30_43 (n : Nat) (c : zu_C) (ex : zu_I) (a0 x1 : Int) (σ : zu_m) : zu_rega (zt_T n) c ex 0 zt_m30 [43, 64, 95, 126] 400 43 [(40, a0), (0, x1)] [] σ = (if 6 ≤ x1 then (ex 64 [(40, a0), (0, 5)] [] σ) else (zu_b 0 (if 0 ≤ x1 ∧ x1 < 6 then (ex 43 [(40, a0), (0, (zu_w32 (x1 + 1)))] [] (zu_up σ 193 x1 0)) else none))) := Eq.trans (Eq.refl _) rfl
set_option maxRecDepth 100000 in
set_option maxHeartbeats 4000000 in
theorem zr_30_64 (n : Nat) (c : zu_C) (ex : zu_I) (a0 x1 : Int) (σ : zu_m) : zu_rega (zt_T n) c ex 0 zt_m30 [43, 64, 95, 126] 400 64 [(40, a0), (0, x1)] [] σ = (if 10 ≤ x1 then (ex 95 [(40, a0), (0, 0)] [] σ) else (if x1 ≠ 8 then (if 0 ≤ x1 ∧ x1 < 10 then (ex 64 [(40, a0), (0, (zu_w32 (x1 + 1)))] [] (zu_up σ 194 x1 0)) else none) else (if 0 ≤ x1 ∧ x1 < 10 then (ex 64 [(40, a0), (0, (zu_w32 (x1 + 1)))] [] (zu_up σ 194 x1 (-1))) else none))) := Eq.trans (Eq.refl _) rfl
set_option maxRecDepth 100000 in
set_option maxHeartbeats 4000000 in
theorem zr_30_95 (n : Nat) (c : zu_C) (ex : zu_I) (a0 x1 : Int) (σ : zu_m) : zu_rega (zt_T n) c ex 0 zt_m30 [43, 64, 95, 126] 400 95 [(40, a0), (0, x1)] [] σ = (if 48 ≤ x1 then (ex 126 [(40, a0), (0, 4)] [] σ) else (if 0 ≤ (zu_w32 (48 + x1)) ∧ (zu_w32 (48 + x1)) < 96 then (zu_b 0 (if 0 ≤ x1 ∧ x1 < 48 then (ex 95 [(40, a0), (0, (zu_w32 (x1 + 1)))] [] (zu_up (zu_up σ 195 (zu_w32 (48 + x1)) 0) 196 x1 0)) else none)) else none)) := Eq.trans (Eq.refl _) rfl
set_option maxRecDepth 100000 in
set_option maxHeartbeats 4000000 in
theorem zr_30_126 (n : Nat) (c : zu_C) (ex : zu_I) (a0 x1 : Int) (σ : zu_m) : zu_rega (zt_T n) c ex 0 zt_m30 [43, 64, 95, 126] 400 126 [(40, a0), (0, x1)] [] σ = (if 8 ≤ x1 then (some (0, σ)) else (zu_b 0 (if 0 ≤ x1 ∧ x1 < 8 then (ex 126 [(40, a0), (0, (zu_w32 (x1 + 1)))] [] (zu_up σ 205 x1 0)) else none))) := Eq.trans (Eq.refl _) rfl
set_option maxRecDepth 100000 in
set_option maxHeartbeats 4000000 in
theorem zr_32_0 (n : Nat) (c : zu_C) (ex : zu_I) (a0 a1 : Int) (σ : zu_m) : zu_rega (zt_T n) c ex 0 zt_m32 [2] 400 0 [(43, a0), (0, a1), (2, 0)] [] σ = (ex 2 [(43, a0), (0, a1), (0, 0)] [] σ) := Eq.trans (Eq.refl _) rfl
set_option maxRecDepth 100000 in
set_option maxHeartbeats 4000000 in
theorem zr_32_2 (n : Nat) (c : zu_C) (ex : zu_I) (a0 a1 x2 : Int) (σ : zu_m) : zu_rega (zt_T n) c ex 0 zt_m32 [2] 400 2 [(43, a0), (0, a1), (0, x2)] [] σ = (if a1 ≤ x2 then (some (0, σ)) else (if 0 ≤ (zu_w32 (a1 + x2)) ∧ (zu_w32 (a1 + x2)) < 10 then (if 0 ≤ x2 ∧ x2 < 10 then (ex 2 [(43, a0), (0, a1), (0, (zu_w32 (x2 + 1)))] [] (zu_up σ a0 x2 (σ a0 (zu_w32 (a1 + x2))))) else none) else none)) := Eq.trans (Eq.refl _) rfl
set_option maxRecDepth 100000 in
set_option maxHeartbeats 4000000 in
theorem zr_32b_0 (n : Nat) (c : zu_C) (ex : zu_I) (a0 a1 : Int) (σ : zu_m) : zu_rega (zt_T n) c ex 0 zt_m32 [2] 400 0 [(44, a0), (0, a1), (2, 0)] [] σ = (ex 2 [(44, a0), (0, a1), (0, 0)] [] σ) := Eq.trans (Eq.refl _) rfl
set_option maxRecDepth 100000 in
set_option maxHeartbeats 4000000 in
theorem zr_32b_2 (n : Nat) (c : zu_C) (ex : zu_I) (a0 a1 x2 : Int) (σ : zu_m) : zu_rega (zt_T n) c ex 0 zt_m32 [2] 400 2 [(44, a0), (0, a1), (0, x2)] [] σ = (if a1 ≤ x2 then (some (0, σ)) else (if 0 ≤ (zu_w32 (a1 + x2)) ∧ (zu_w32 (a1 + x2)) < 96 then (if 0 ≤ x2 ∧ x2 < 96 then (ex 2 [(44, a0), (0, a1), (0, (zu_w32 (x2 + 1)))] [] (zu_up σ a0 x2 (σ a0 (zu_w32 (a1 + x2))))) else none) else none)) := Eq.trans (Eq.refl _) rfl
set_option maxRecDepth 100000 in
set_option maxHeartbeats 4000000 in
theorem zr_32c_0 (n : Nat) (c : zu_C) (ex : zu_I) (a0 a1 : Int) (σ : zu_m) : zu_rega (zt_T n) c ex 0 zt_m32 [2] 400 0 [(45, a0), (0, a1), (2, 0)] [] σ = (ex 2 [(45, a0), (0, a1), (0, 0)] [] σ) := Eq.trans (Eq.refl _) rfl
set_option maxRecDepth 100000 in
set_option maxHeartbeats 4000000 in
theorem zr_32c_2 (n : Nat) (c : zu_C) (ex : zu_I) (a0 a1 x2 : Int) (σ : zu_m) : zu_rega (zt_T n) c ex 0 zt_m32 [2] 400 2 [(45, a0), (0, a1), (0, x2)] [] σ = (if a1 ≤ x2 then (some (0, σ)) else (if 0 ≤ (zu_w32 (a1 + x2)) ∧ (zu_w32 (a1 + x2)) < 36 then (if 0 ≤ x2 ∧ x2 < 36 then (ex 2 [(45, a0), (0, a1), (0, (zu_w32 (x2 + 1)))] [] (zu_up σ a0 x2 (σ a0 (zu_w32 (a1 + x2))))) else none) else none)) := Eq.trans (Eq.refl _) rfl
set_option maxRecDepth 100000 in
set_option maxHeartbeats 4000000 in
theorem zr_32d_0 (n : Nat) (c : zu_C) (ex : zu_I) (a0 a1 : Int) (σ : zu_m) : zu_rega (zt_T n) c ex 0 zt_m32 [2] 400 0 [(46, a0), (0, a1), (2, 0)] [] σ = (ex 2 [(46, a0), (0, a1), (0, 0)] [] σ) := Eq.trans (Eq.refl _) rfl
set_option maxRecDepth 100000 in
set_option maxHeartbeats 4000000 in
theorem zr_32d_2 (n : Nat) (c : zu_C) (ex : zu_I) (a0 a1 x2 : Int) (σ : zu_m) : zu_rega (zt_T n) c ex 0 zt_m32 [2] 400 2 [(46, a0), (0, a1), (0, x2)] [] σ = (if a1 ≤ x2 then (some (0, σ)) else (if 0 ≤ (zu_w32 (a1 + x2)) ∧ (zu_w32 (a1 + x2)) < 8 then (if 0 ≤ x2 ∧ x2 < 8 then (ex 2 [(46, a0), (0, a1), (0, (zu_w32 (x2 + 1)))] [] (zu_up σ a0 x2 (σ a0 (zu_w32 (a1 + x2))))) else none) else none)) := Eq.trans (Eq.refl _) rfl
set_option maxRecDepth 100000 in
set_option maxHeartbeats 4000000 in
theorem zr_32e_0 (n : Nat) (c : zu_C) (ex : zu_I) (a0 a1 : Int) (σ : zu_m) : zu_rega (zt_T n) c ex 0 zt_m32 [2] 400 0 [(48, a0), (0, a1), (2, 0)] [] σ = (ex 2 [(48, a0), (0, a1), (0, 0)] [] σ) := Eq.trans (Eq.refl _) rfl
set_option maxRecDepth 100000 in
set_option maxHeartbeats 4000000 in
theorem zr_32e_2 (n : Nat) (c : zu_C) (ex : zu_I) (a0 a1 x2 : Int) (σ : zu_m) : zu_rega (zt_T n) c ex 0 zt_m32 [2] 400 2 [(48, a0), (0, a1), (0, x2)] [] σ = (if a1 ≤ x2 then (some (0, σ)) else (if 0 ≤ (zu_w32 (a1 + x2)) ∧ (zu_w32 (a1 + x2)) < 128 then (if 0 ≤ x2 ∧ x2 < 128 then (ex 2 [(48, a0), (0, a1), (0, (zu_w32 (x2 + 1)))] [] (zu_up σ a0 x2 (σ a0 (zu_w32 (a1 + x2))))) else none) else none)) := Eq.trans (Eq.refl _) rfl
