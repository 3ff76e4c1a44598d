set_option maxRecDepth 100000 in
set_option maxHeartbeats 4000000 in
theorem zr_289_0 (n : Nat) (c : zu_C) (ex : zu_I) (a0 a1 : Int) (σ : zu_m) : zu_rega (zt_T n) c ex 0 zt_m289 [2] 400 0 [(33, a0), (0, a1), (2, 0)] [] σ = (ex 2 [(33, a0), (0, a1), (0, 0)] [] σ) := Eq.trans (Eq.refl _) rfl
set_option maxRecDepth 100000 in
set_option maxHeartbeats 4000000 in
theorem zr_289_2 (n : Nat) (c : zu_C) (ex : zu_I) (a0 a1 x2 : Int) (σ : zu_m) : zu_rega (zt_T n) c ex 0 zt_m289 [2] 400 2 [(33, a0), (0, a1), (0, x2)] [] σ = (if a1 ≤ x2 then (some (0, σ)) else (if 18 ≤ x2 then (some (0, σ)) else (if 0 ≤ x2 ∧ x2 < 18 then (if (σ 156 x2) ≠ 0 then (ex 2 [(33, a0), (0, a1), (0, (zu_w32 (x2 + 1)))] [] σ) else (if 0 ≤ x2 ∧ x2 < 18 then (if 0 ≤ (σ 155 x2) ∧ (σ 155 x2) < 48 then (if (σ (50 + 3) (σ 155 x2)) ≠ 0 then (ex 2 [(33, a0), (0, a1), (0, (zu_w32 (x2 + 1)))] [] σ) else (zu_b 1 (if 0 ≤ x2 ∧ x2 < 18 then (if 0 ≤ x2 ∧ x2 < 18 then (if 0 ≤ ((zu_up σ 156 x2 1) 155 x2) ∧ ((zu_up σ 156 x2 1) 155 x2) < 48 then (if 0 ≤ ((zu_up σ 156 x2 1) 155 x2) ∧ ((zu_up σ 156 x2 1) 155 x2) < 48 then (ex 2 [(33, a0), (0, a1), (0, (zu_w32 (x2 + 1)))] [] (zu_up (zu_up σ 156 x2 1) 157 ((zu_up σ 156 x2 1) 155 x2) (zu_w32 (((zu_up σ 156 x2 1) 157 ((zu_up σ 156 x2 1) 155 x2)) - 1)))) else none) else none) else none) else none))) else none) else none)) else none))) := Eq.trans (Eq.refl _) rfl
set_option maxRecDepth 100000 in
set_option maxHeartbeats 4000000 in
theorem zr_293_0 (n : Nat) (c : zu_C) (ex : zu_I) (a0 : Int) (σ : zu_m) : zu_rega (zt_T n) c ex 0 zt_m293 [16] 400 0 [(33, a0), (2, 0), (2, 0), (2, 0)] [] σ = (if 0 ≤ (0 : Int) ∧ (0 : Int) < 4 then (if 0 ≤ (0 : Int) ∧ (0 : Int) < 4 then (ex 16 [(33, a0), (0, (σ 158 0)), (0, (σ 158 0)), (0, 1)] [] σ) else none) else none) := Eq.trans (Eq.refl _) rfl
set_option maxRecDepth 100000 in
set_option maxHeartbeats 4000000 in
theorem zr_293_16 (n : Nat) (c : zu_C) (ex : zu_I) (a0 x1 x2 x3 : Int) (σ : zu_m) : zu_rega (zt_T n) c ex 0 zt_m293 [16] 400 16 [(33, a0), (0, x1), (0, x2), (0, x3)] [] σ = (if (σ 89 4) ≤ x3 then (some ((zu_w32 (x1 - x2)), σ)) else (if 0 ≤ x3 ∧ x3 < 4 then (if 0 ≤ x3 ∧ x3 < 4 then (ex 16 [(33, a0), (0, (zu_max x1 (σ 158 x3))), (0, (zu_min x2 (σ 158 x3))), (0, (zu_w32 (x3 + 1)))] [] σ) else none) else none)) := Eq.trans (Eq.refl _) rfl
set_option maxRecDepth 100000 in
set_option maxHeartbeats 4000000 in
theorem zr_295_0 (n : Nat) (c : zu_C) (ex : zu_I) (a0 a1 : Int) (σ : zu_m) : zu_rega (zt_T n) c ex 0 zt_m295 [23] 400 0 [(33, a0), (0, a1), (2, 0)] [] σ = (if 4 ≤ (σ a0 18) then (ex 23 [(33, a0), (0, a1), (0, (σ a0 18))] [] σ) else (ex 23 [(33, a0), (0, a1), (0, (σ a0 18))] [] (zu_up σ a0 18 (zu_w32 ((σ a0 18) + 1))))) := Eq.trans (Eq.refl _) rfl
set_option maxRecDepth 100000 in
set_option maxHeartbeats 4000000 in
theorem zr_295_23 (n : Nat) (c : zu_C) (ex : zu_I) (a0 a1 x2 : Int) (σ : zu_m) : zu_rega (zt_T n) c ex 0 zt_m295 [23] 400 23 [(33, a0), (0, a1), (0, x2)] [] σ = (if x2 ≤ 0 then (if 4 ≤ x2 then (some (0, σ)) else (if 0 ≤ x2 ∧ x2 < 4 then (some (0, (zu_up σ 162 x2 a1))) else none)) else (if 0 ≤ (zu_w32 (x2 - 1)) ∧ (zu_w32 (x2 - 1)) < 4 then (if a1 ≤ (σ 162 (zu_w32 (x2 - 1))) then (if 4 ≤ x2 then (some (0, σ)) else (if 0 ≤ x2 ∧ x2 < 4 then (some (0, (zu_up σ 162 x2 a1))) else none)) else (if 4 ≤ x2 then (ex 23 [(33, a0), (0, a1), (0, (zu_w32 (x2 + (-1))))] [] σ) else (if 0 ≤ (zu_w32 (x2 - 1)) ∧ (zu_w32 (x2 - 1)) < 4 then (if 0 ≤ x2 ∧ x2 < 4 then (ex 23 [(33, a0), (0, a1), (0, (zu_w32 (x2 + (-1))))] [] (zu_up σ 162 x2 (σ 162 (zu_w32 (x2 - 1))))) else none) else none))) else none)) := Eq.trans (Eq.refl _) rfl
set_option maxRecDepth 100000 in
set_option maxHeartbeats 4000000 in
theorem zr_296_0 (n : Nat) (c : zu_C) (ex : zu_I) (a0 a1 a2 : Int) (σ : zu_m) : zu_rega (zt_T n) c ex 0 zt_m296 [] 400 0 [(33, a0), (0, a1), (0, a2)] [] σ = (if a1 ≠ a2 then (if 0 ≤ a1 ∧ a1 < 4 then (some ((σ 162 a1), σ)) else none) else (if 0 ≤ a1 ∧ a1 < 4 then (if (2 : Int) = 0 then none else (some ((zu_w32 (Int.tdiv (σ 162 a1) 2)), σ))) else none)) := Eq.trans (Eq.refl _) rfl
set_option maxRecDepth 100000 in
set_option maxHeartbeats 4000000 in
theorem zr_306_0 (n : Nat) (c : zu_C) (ex : zu_I) (a0 : Int) (σ : zu_m) : zu_rega (zt_T n) c ex 0 zt_m306 [2] 400 0 [(31, a0), (2, 0)] [] σ = (ex 2 [(31, a0), (0, 1)] [] σ) := Eq.trans (Eq.refl _) rfl
set_option maxRecDepth 100000 in
set_option maxHeartbeats 4000000 in
theorem zr_306_2 (n : Nat) (c : zu_C) (ex : zu_I) (a0 x1 : Int) (σ : zu_m) : zu_rega (zt_T n) c ex 0 zt_m306 [2] 400 2 [(31, a0), (0, x1)] [] σ = (if (σ a0 4) ≤ x1 then (some (0, (zu_up σ a0 4 (zu_w32 ((σ a0 4) - 1))))) else (if 0 ≤ x1 ∧ x1 < 20 then (if 0 ≤ (zu_w32 (x1 - 1)) ∧ (zu_w32 (x1 - 1)) < 20 then (if 0 ≤ x1 ∧ x1 < 20 then (if 0 ≤ (zu_w32 (x1 - 1)) ∧ (zu_w32 (x1 - 1)) < 20 then (if 0 ≤ x1 ∧ x1 < 20 then (if 0 ≤ (zu_w32 (x1 - 1)) ∧ (zu_w32 (x1 - 1)) < 20 then (if 0 ≤ x1 ∧ x1 < 20 then (if 0 ≤ (zu_w32 (x1 - 1)) ∧ (zu_w32 (x1 - 1)) < 20 then (ex 2 [(31, a0), (0, (zu_w32 (x1 + 1)))] [] (zu_up (zu_up (zu_up (zu_up σ 149 (zu_w32 (x1 - 1)) (σ 149 x1)) 150 (zu_w32 (x1 - 1)) ((zu_up σ 149 (zu_w32 (x1 - 1)) (σ 149 x1)) 150 x1)) 151 (zu_w32 (x1 - 1)) ((zu_up (zu_up σ 149 (zu_w32 (x1 - 1)) (σ 149 x1)) 150 (zu_w32 (x1 - 1)) ((zu_up σ 149 (zu_w32 (x1 - 1)) (σ 149 x1)) 150 x1)) 151 x1)) 152 (zu_w32 (x1 - 1)) ((zu_up (zu_up (zu_up σ 149 (zu_w32 (x1 - 1)) (σ 149 x1)) 150 (zu_w32 (x1 - 1)) ((zu_up σ 149 (zu_w32 (x1 - 1)) (σ 149 x1)) 150 x1)) 151 (zu_w32 (x1 - 1)) ((zu_up (zu_up σ 149 (zu_w32 (x1 - 1)) (σ 149 x1)) 150 (zu_w32 (x1 - 1)) ((zu_up σ 149 (zu_w32 (x1 - 1)) (σ 149 x1)) 150 x1)) 151 x1)) 152 x1))) else none) else none) else none) else none) else none) else none) else none) else none)) := Eq.trans (Eq.refl _) rfl
set_option maxRecDepth 100000 in
set_option maxHeartbeats 4000000 in
theorem zr_13_0 (n : Nat) (c : zu_C) (ex : zu_I) (a0 : Int) (σ : zu_m) : zu_rega (zt_T n) c ex 1 zt_m13 [24] 400 0 [(8, a0), (2, 0)] [] σ = (zu_bd (c 14 [(10, (a0 + 4))] (zu_up (zu_up (zu_up σ a0 3 0) a0 4 0) a0 5 0)) (fun v19 s19 => (ex 24 [(8, a0), (0, 0)] [] s19))) := Eq.trans (Eq.refl _) rfl
set_option maxRecDepth 100000 in
set_option maxHeartbeats 4000000 in
theorem zr_13_24 (n : Nat) (c : zu_C) (ex : zu_I) (a0 x1 : Int) (σ : zu_m) : zu_rega (zt_T n) c ex 1 zt_m13 [24] 400 24 [(8, a0), (0, x1)] [] σ = (if 48 ≤ x1 then (zu_bd (c 15 [(8, a0), (0, 6), (0, 5)] σ) (fun v47 s47 => (some (0, s47)))) else (if 0 ≤ x1 ∧ x1 < 48 then (ex 24 [(8, a0), (0, (zu_w32 (x1 + 1)))] [] (zu_up σ (a0 + 3) x1 0)) else none)) := Eq.trans (Eq.refl _) rfl
