set_option maxRecDepth 100000 in
set_option maxHeartbeats 4000000 in
theorem zr_123_0 (n : Nat) (c : zu_C) (ex : zu_I) (a0 a1 : Int) (σ : zu_m) : zu_rega (zt_T n) c ex 1 zt_m123 [] 400 0 [(40, a0), (0, a1)] [] σ = (if a1 < 0 then (zu_b 0 (some (0, σ))) else (zu_bd (c 36 [(40, a0)] σ) (fun v6 s6 => (if v6 ≤ a1 then (zu_b 0 (some (0, s6))) else (zu_b 1 (some (1, s6))))))) := Eq.trans (Eq.refl _) rfl
set_option maxRecDepth 100000 in
set_option maxHeartbeats 4000000 in
theorem zr_142_0 (n : Nat) (c : zu_C) (ex : zu_I) (a0 a1 : Int) (σ : zu_m) : zu_rega (zt_T n) c ex 0 zt_m142 [] 400 0 [(40, a0), (0, a1)] [] σ = (some (0, (zu_up σ a0 2 a1))) := Eq.trans (Eq.refl _) rfl
set_option maxRecDepth 100000 in
set_option maxHeartbeats 4000000 in
theorem zr_36_0 (n : Nat) (c : zu_C) (ex : zu_I) (a0 : Int) (σ : zu_m) : zu_rega (zt_T n) c ex 0 zt_m36 [] 400 0 [(40, a0)] [] σ = (some ((zu_w32 ((σ a0 12) * (σ a0 13))), σ)) := Eq.trans (Eq.refl _) rfl
set_option maxRecDepth 100000 in
set_option maxHeartbeats 4000000 in
theorem zr_84_0 (n : Nat) (c : zu_C) (ex : zu_I) (a0 a1 : Int) (σ : zu_m) : zu_rega (zt_T n) c ex 0 zt_m84 [] 400 0 [(1, a0), (2, 0), (0, a1)] [] σ = (if (zu_lcmp (zu_i64 3 (zu_shr a0 a1) 1) 1) ≠ 0 then (zu_b 0 (some (0, σ))) else (zu_b 1 (some (1, σ)))) := Eq.trans (Eq.refl _) rfl
set_option maxRecDepth 100000 in
set_option maxHeartbeats 4000000 in
theorem zr_210_0 (n : Nat) (c : zu_C) (ex : zu_I) (a0 a1 : Int) (σ : zu_m) : zu_rega (zt_T n) c ex 0 zt_m210 [] 400 0 [(27, a0), (0, a1)] [] σ = (if a1 < 0 then (zu_b 0 (some (0, σ))) else (if (σ a0 2) ≤ a1 then (zu_b 0 (some (0, σ))) else (zu_b 1 (some (1, σ))))) := Eq.trans (Eq.refl _) rfl
set_option maxRecDepth 100000 in
set_option maxHeartbeats 4000000 in
theorem zr_124_0 (n : Nat) (c : zu_C) (ex : zu_I) (a0 a1 : Int) (σ : zu_m) : zu_rega (zt_T n) c ex 0 zt_m124 [] 400 0 [(40, a0), (0, a1)] [] σ = (if a1 < 0 then (zu_b 0 (some (0, σ))) else (if 0 ≤ (0 : Int) ∧ (0 : Int) < 2 then (if (σ 216 0) ≤ a1 then (zu_b 0 (some (0, σ))) else (zu_b 1 (some (1, σ)))) else none)) := Eq.trans (Eq.refl _) rfl
set_option maxRecDepth 100000 in
set_option maxHeartbeats 4000000 in
theorem zr_211_0 (n : Nat) (c : zu_C) (ex : zu_I) (a0 a1 : Int) (σ : zu_m) : zu_rega (zt_T n) c ex 0 zt_m211 [] 400 0 [(27, a0), (0, a1)] [] σ = (if a1 < 0 then (zu_b 0 (some (0, σ))) else (if (σ a0 4) ≤ a1 then (zu_b 0 (some (0, σ))) else (zu_b 1 (some (1, σ))))) := Eq.trans (Eq.refl _) rfl
set_option maxRecDepth 100000 in
set_option maxHeartbeats 4000000 in
theorem zr_125_0 (n : Nat) (c : zu_C) (ex : zu_I) (a0 a1 : Int) (σ : zu_m) : zu_rega (zt_T n) c ex 0 zt_m125 [] 400 0 [(40, a0), (0, a1)] [] σ = (if a1 < 0 then (zu_b 0 (some (0, σ))) else (if (σ a0 15) ≤ a1 then (zu_b 0 (some (0, σ))) else (zu_b 1 (some (1, σ))))) := Eq.trans (Eq.refl _) rfl
set_option maxRecDepth 100000 in
set_option maxHeartbeats 4000000 in
theorem zr_244_0 (n : Nat) (c : zu_C) (ex : zu_I) (a0 a1 : Int) (σ : zu_m) : zu_rega (zt_T n) c ex 0 zt_m244 [] 400 0 [(8, a0), (0, a1)] [] σ = (if a1 < 0 then (zu_b 0 (some (0, σ))) else (if (σ a0 2) ≤ a1 then (zu_b 0 (some (0, σ))) else (zu_b 1 (some (1, σ))))) := Eq.trans (Eq.refl _) rfl
set_option maxRecDepth 100000 in
set_option maxHeartbeats 4000000 in
theorem zr_83_0 (n : Nat) (c : zu_C) (ex : zu_I) (a0 a1 a2 : Int) (σ : zu_m) : zu_rega (zt_T n) c ex 0 zt_m83 [] 400 0 [(0, a0), (0, a1), (0, a2)] [] σ = (if a0 < a1 then (zu_b 0 (some (0, σ))) else (if a2 < a0 then (zu_b 0 (some (0, σ))) else (zu_b 1 (some (1, σ))))) := Eq.trans (Eq.refl _) rfl
set_option maxRecDepth 100000 in
set_option maxHeartbeats 4000000 in
theorem zr_51_0 (n : Nat) (c : zu_C) (ex : zu_I) (a0 : Int) (σ : zu_m) : zu_rega (zt_T n) c ex 0 zt_m51 [] 400 0 [(0, a0)] [] σ = (if a0 < 0 then (zu_b 0 (some (0, σ))) else (if 4 ≤ a0 then (zu_b 0 (some (0, σ))) else (zu_b 1 (some (1, σ))))) := Eq.trans (Eq.refl _) rfl
set_option maxRecDepth 100000 in
set_option maxHeartbeats 4000000 in
theorem zr_52_0 (n : Nat) (c : zu_C) (ex : zu_I) (a0 : Int) (σ : zu_m) : zu_rega (zt_T n) c ex 0 zt_m52 [] 400 0 [(0, a0)] [] σ = (if a0 < 0 then (zu_b 0 (some (0, σ))) else (if 9 < a0 then (zu_b 0 (some (0, σ))) else (zu_b 1 (some (1, σ))))) := Eq.trans (Eq.refl _) rfl
set_option maxRecDepth 100000 in
set_option maxHeartbeats 4000000 in
theorem zr_213_0 (n : Nat) (c : zu_C) (ex : zu_I) (a0 a1 a2 a3 : Int) (σ : zu_m) : zu_rega (zt_T n) c ex 0 zt_m213 [] 400 0 [(27, a0), (0, a1), (0, a2), (0, a3), (2, 0)] [] σ = (if 16 ≤ (σ a0 2) then (some (0, σ)) else (if 0 ≤ (σ a0 2) ∧ (σ a0 2) < 16 then (some (0, (zu_up (zu_up (zu_up (zu_up (zu_up σ ((a0 + 1) + 5 + (σ a0 2)) 0 a1) ((a0 + 1) + 5 + (σ a0 2)) 1 a2) ((a0 + 1) + 5 + (σ a0 2)) 2 a3) ((a0 + 1) + 5 + (σ a0 2)) 3 (-1)) a0 2 (zu_w32 (((zu_up (zu_up (zu_up (zu_up σ ((a0 + 1) + 5 + (σ a0 2)) 0 a1) ((a0 + 1) + 5 + (σ a0 2)) 1 a2) ((a0 + 1) + 5 + (σ a0 2)) 2 a3) ((a0 + 1) + 5 + (σ a0 2)) 3 (-1)) a0 2) + 1))))) else none)) := Eq.trans (Eq.refl _) rfl
set_option maxRecDepth 100000 in
set_option maxHeartbeats 4000000 in
theorem zr_213b_0 (n : Nat) (c : zu_C) (ex : zu_I) (a0 a1 a2 a3 : Int) (σ : zu_m) : zu_rega (zt_T n) c ex 0 zt_m213 [] 400 0 [(16, a0), (0, a1), (0, a2), (0, a3), (2, 0)] [] σ = (if 16 ≤ (σ a0 2) then (some (0, σ)) else (if 0 ≤ (σ a0 2) ∧ (σ a0 2) < 16 then (some (0, (zu_up (zu_up (zu_up (zu_up (zu_up σ (20 + 5 + (σ a0 2)) 0 a1) (20 + 5 + (σ a0 2)) 1 a2) (20 + 5 + (σ a0 2)) 2 a3) (20 + 5 + (σ a0 2)) 3 (-1)) a0 2 (zu_w32 (((zu_up (zu_up (zu_up (zu_up σ (20 + 5 + (σ a0 2)) 0 a1) (20 + 5 + (σ a0 2)) 1 a2) (20 + 5 + (σ a0 2)) 2 a3) (20 + 5 + (σ a0 2)) 3 (-1)) a0 2) + 1))))) else none)) := Eq.trans (Eq.refl _) rfl
set_option maxRecDepth 100000 in
set_option maxHeartbeats 4000000 in
theorem zr_53_0 (n : Nat) (c : zu_C) (ex : zu_I) (a0 : Int) (σ : zu_m) : zu_rega (zt_T n) c ex 0 zt_m53 [] 400 0 [(0, a0)] [] σ = (if a0 < 1 then (zu_b 0 (some (0, σ))) else (if 200 < a0 then (zu_b 0 (some (0, σ))) else (zu_b 1 (some (1, σ))))) := Eq.trans (Eq.refl _) rfl
set_option maxRecDepth 100000 in
set_option maxHeartbeats 4000000 in
theorem zr_178_0 (n : Nat) (c : zu_C) (ex : zu_I) (a0 a1 a2 a3 a4 : Int) (σ : zu_m) : zu_rega (zt_T n) c ex 0 zt_m178 [] 400 0 [(40, a0), (0, a1), (0, a2), (0, a3), (0, a4)] [] σ = (if 0 ≤ (zu_w32 (4 * (σ a0 77))) ∧ (zu_w32 (4 * (σ a0 77))) < 96 then (if 0 ≤ (zu_w32 ((zu_w32 (4 * ((zu_up σ 226 (zu_w32 (4 * (σ a0 77))) a1) a0 77))) + 1)) ∧ (zu_w32 ((zu_w32 (4 * ((zu_up σ 226 (zu_w32 (4 * (σ a0 77))) a1) a0 77))) + 1)) < 96 then (if 0 ≤ (zu_w32 ((zu_w32 (4 * ((zu_up (zu_up σ 226 (zu_w32 (4 * (σ a0 77))) a1) 226 (zu_w32 ((zu_w32 (4 * ((zu_up σ 226 (zu_w32 (4 * (σ a0 77))) a1) a0 77))) + 1)) a2) a0 77))) + 2)) ∧ (zu_w32 ((zu_w32 (4 * ((zu_up (zu_up σ 226 (zu_w32 (4 * (σ a0 77))) a1) 226 (zu_w32 ((zu_w32 (4 * ((zu_up σ 226 (zu_w32 (4 * (σ a0 77))) a1) a0 77))) + 1)) a2) a0 77))) + 2)) < 96 then (if 0 ≤ (zu_w32 ((zu_w32 (4 * ((zu_up (zu_up (zu_up σ 226 (zu_w32 (4 * (σ a0 77))) a1) 226 (zu_w32 ((zu_w32 (4 * ((zu_up σ 226 (zu_w32 (4 * (σ a0 77))) a1) a0 77))) + 1)) a2) 226 (zu_w32 ((zu_w32 (4 * ((zu_up (zu_up σ 226 (zu_w32 (4 * (σ a0 77))) a1) 226 (zu_w32 ((zu_w32 (4 * ((zu_up σ 226 (zu_w32 (4 * (σ a0 77))) a1) a0 77))) + 1)) a2) a0 77))) + 2)) a3) a0 77))) + 3)) ∧ (zu_w32 ((zu_w32 (4 * ((zu_up (zu_up (zu_up σ 226 (zu_w32 (4 * (σ a0 77))) a1) 226 (zu_w32 ((zu_w32 (4 * ((zu_up σ 226 (zu_w32 (4 * (σ a0 77))) a1) a0 77))) + 1)) a2) 226 (zu_w32 ((zu_w32 (4 * ((zu_up (zu_up σ 226 (zu_w32 (4 * (σ a0 77))) a1) 226 (zu_w32 ((zu_w32 (4 * ((zu_up σ 226 (zu_w32 (4 * (σ a0 77))) a1) a0 77))) + 1)) a2) a0 77))) + 2)) a3) a0 77))) + 3)) < 96 then (some ((zu_w32 (((zu_up (zu_up (zu_up (zu_up (zu_up σ 226 (zu_w32 (4 * (σ a0 77))) a1) 226 (zu_w32 ((zu_w32 (4 * ((zu_up σ 226 (zu_w32 (4 * (σ a0 77))) a1) a0 77))) + 1)) a2) 226 (zu_w32 ((zu_w32 (4 * ((zu_up (zu_up σ 226 (zu_w32 (4 * (σ a0 77))) a1) 226 (zu_w32 ((zu_w32 (4 * ((zu_up σ 226 (zu_w32 (4 * (σ a0 77))) a1) a0 77))) + 1)) a2) a0 77))) + 2)) a3) 226 (zu_w32 ((zu_w32 (4 * ((zu_up (zu_up (zu_up σ 226 (zu_w32 (4 * (σ a0 77))) a1) 226 (zu_w32 ((zu_w32 (4 * ((zu_up σ 226 (zu_w32 (4 * (σ a0 77))) a1) a0 77))) + 1)) a2) 226 (zu_w32 ((zu_w32 (4 * ((zu_up (zu_up σ 226 (zu_w32 (4 * (σ a0 77))) a1) 226 (zu_w32 ((zu_w32 (4 * ((zu_up σ 226 (zu_w32 (4 * (σ a0 77))) a1) a0 77))) + 1)) a2) a0 77))) + 2)) a3) a0 77))) + 3)) a4) a0 77 (zu_w32 (((zu_up (zu_up (zu_up (zu_up σ 226 (zu_w32 (4 * (σ a0 77))) a1) 226 (zu_w32 ((zu_w32 (4 * ((zu_up σ 226 (zu_w32 (4 * (σ a0 77))) a1) a0 77))) + 1)) a2) 226 (zu_w32 ((zu_w32 (4 * ((zu_up (zu_up σ 226 (zu_w32 (4 * (σ a0 77))) a1) 226 (zu_w32 ((zu_w32 (4 * ((zu_up σ 226 (zu_w32 (4 * (σ a0 77))) a1) a0 77))) + 1)) a2) a0 77))) + 2)) a3) 226 (zu_w32 ((zu_w32 (4 * ((zu_up (zu_up (zu_up σ 226 (zu_w32 (4 * (σ a0 77))) a1) 226 (zu_w32 ((zu_w32 (4 * ((zu_up σ 226 (zu_w32 (4 * (σ a0 77))) a1) a0 77))) + 1)) a2) 226 (zu_w32 ((zu_w32 (4 * ((zu_up (zu_up σ 226 (zu_w32 (4 * (σ a0 77))) a1) 226 (zu_w32 ((zu_w32 (4 * ((zu_up σ 226 (zu_w32 (4 * (σ a0 77))) a1) a0 77))) + 1)) a2) a0 77))) + 2)) a3) a0 77))) + 3)) a4) a0 77) + 1))) a0 77) - 1)), (zu_up (zu_up (zu_up (zu_up (zu_up σ 226 (zu_w32 (4 * (σ a0 77))) a1) 226 (zu_w32 ((zu_w32 (4 * ((zu_up σ 226 (zu_w32 (4 * (σ a0 77))) a1) a0 77))) + 1)) a2) 226 (zu_w32 ((zu_w32 (4 * ((zu_up (zu_up σ 226 (zu_w32 (4 * (σ a0 77))) a1) 226 (zu_w32 ((zu_w32 (4 * ((zu_up σ 226 (zu_w32 (4 * (σ a0 77))) a1) a0 77))) + 1)) a2) a0 77))) + 2)) a3) 226 (zu_w32 ((zu_w32 (4 * ((zu_up (zu_up (zu_up σ 226 (zu_w32 (4 * (σ a0 77))) a1) 226 (zu_w32 ((zu_w32 (4 * ((zu_up σ 226 (zu_w32 (4 * (σ a0 77))) a1) a0 77))) + 1)) a2) 226 (zu_w32 ((zu_w32 (4 * ((zu_up (zu_up σ 226 (zu_w32 (4 * (σ a0 77))) a1) 226 (zu_w32 ((zu_w32 (4 * ((zu_up σ 226 (zu_w32 (4 * (σ a0 77))) a1) a0 77))) + 1)) a2) a0 77))) + 2)) a3) a0 77))) + 3)) a4) a0 77 (zu_w32 (((zu_up (zu_up (zu_up (zu_up σ 226 (zu_w32 (4 * (σ a0 77))) a1) 226 (zu_w32 ((zu_w32 (4 * ((zu_up σ 226 (zu_w32 (4 * (σ a0 77))) a1) a0 77))) + 1)) a2) 226 (zu_w32 ((zu_w32 (4 * ((zu_up (zu_up σ 226 (zu_w32 (4 * (σ a0 77))) a1) 226 (zu_w32 ((zu_w32 (4 * ((zu_up σ 226 (zu_w32 (4 * (σ a0 77))) a1) a0 77))) + 1)) a2) a0 77))) + 2)) a3) 226 (zu_w32 ((zu_w32 (4 * ((zu_up (zu_up (zu_up σ 226 (zu_w32 (4 * (σ a0 77))) a1) 226 (zu_w32 ((zu_w32 (4 * ((zu_up σ 226 (zu_w32 (4 * (σ a0 77))) a1) a0 77))) + 1)) a2) 226 (zu_w32 ((zu_w32 (4 * ((zu_up (zu_up σ 226 (zu_w32 (4 * (σ a0 77))) a1) 226 (zu_w32 ((zu_w32 (4 * ((zu_up σ 226 (zu_w32 (4 * (σ a0 77))) a1) a0 77))) + 1)) a2) a0 77))) + 2)) a3) a0 77))) + 3)) a4) a0 77) + 1))))) else none) else none) else none) else none) := Eq.trans (Eq.refl _) rfl
set_option maxRecDepth 100000 in
set_option maxHeartbeats 4000000 in
theorem zr_182_0 (n : Nat) (c : zu_C) (ex : zu_I) (a0 : Int) (σ : zu_m) : zu_rega (zt_T n) c ex 0 zt_m182 [] 400 0 [(40, a0)] [] σ = (if 0 ≤ (σ a0 78) then (some ((σ a0 78), σ)) else (some ((σ a0 77), σ))) := Eq.trans (Eq.refl _) rfl
set_option maxRecDepth 100000 in
set_option maxHeartbeats 4000000 in
theorem zr_271_0 (n : Nat) (c : zu_C) (ex : zu_I) (a0 : Int) (σ : zu_m) : zu_rega (zt_T n) c ex 0 zt_m271 [] 400 0 [(28, a0)] [] σ = (if (σ a0 7) ≠ (-1) then (some ((σ a0 7), σ)) else (some ((σ a0 6), σ))) := Eq.trans (Eq.refl _) rfl
set_option maxRecDepth 100000 in
set_option maxHeartbeats 4000000 in
theorem zr_149_0 (n : Nat) (c : zu_C) (ex : zu_I) (a0 a1 a2 a3 a4 : Int) (σ : zu_m) : zu_rega (zt_T n) c ex 0 zt_m149 [] 400 0 [(40, a0), (0, a1), (0, a2), (0, a3), (0, a4), (2, 0)] [] σ = (if 0 ≤ a1 ∧ a1 < 2 then (if 0 ≤ (σ 216 a1) ∧ (σ 216 a1) < 36 then (if 0 ≤ (σ 216 a1) ∧ (σ 216 a1) < 36 then (if 0 ≤ (σ 216 a1) ∧ (σ 216 a1) < 36 then (if 0 ≤ (zu_w32 ((zu_w32 (18 * a1)) + (σ 216 a1))) ∧ (zu_w32 ((zu_w32 (18 * a1)) + (σ 216 a1))) < 36 then (if 0 ≤ a1 ∧ a1 < 2 then (if 0 ≤ a1 ∧ a1 < 2 then (some (0, (zu_up (zu_up (zu_up (zu_up (zu_up σ 197 (σ 216 a1) a2) 198 (σ 216 a1) a3) 199 (σ 216 a1) a4) 215 (zu_w32 ((zu_w32 (18 * a1)) + (σ 216 a1))) (-1)) 216 a1 (zu_w32 (((zu_up (zu_up (zu_up (zu_up σ 197 (σ 216 a1) a2) 198 (σ 216 a1) a3) 199 (σ 216 a1) a4) 215 (zu_w32 ((zu_w32 (18 * a1)) + (σ 216 a1))) (-1)) 216 a1) + 1))))) else none) else none) else none) else none) else none) else none) else none) := Eq.trans (Eq.refl _) rfl
set_option maxRecDepth 100000 in
set_option maxHeartbeats 4000000 in
theorem zr_128_0 (n : Nat) (c : zu_C) (ex : zu_I) (a0 a1 : Int) (σ : zu_m) : zu_rega (zt_T n) c ex 0 zt_m128 [] 400 0 [(40, a0), (0, a1)] [] σ = (if (σ a0 68) = 0 then (if 0 ≤ a1 ∧ a1 < 8 then (some ((σ 202 a1), σ)) else none) else (some (11, σ))) := Eq.trans (Eq.refl _) rfl
set_option maxRecDepth 100000 in
set_option maxHeartbeats 4000000 in
theorem zr_248_0 (n : Nat) (c : zu_C) (ex : zu_I) (a0 a1 : Int) (σ : zu_m) : zu_rega (zt_T n) c ex 0 zt_m248 [] 400 0 [(8, a0), (0, a1)] [] σ = (if 0 ≤ (6 : Int) ∧ (6 : Int) < 7 then (some (0, (zu_up σ (a0 + 12) 6 a1))) else none) := Eq.trans (Eq.refl _) rfl
set_option maxRecDepth 100000 in
set_option maxHeartbeats 4000000 in
theorem zr_217_0 (n : Nat) (c : zu_C) (ex : zu_I) (a0 a1 a2 : Int) (σ : zu_m) : zu_rega (zt_T n) c ex 0 zt_m217 [] 400 0 [(27, a0), (0, a1), (0, a2)] [] σ = (if (σ a0 10) ≠ 1 then (zu_b 1 (some (1, σ))) else (if (4 : Int) = 0 then none else (if a2 ≠ (Int.tmod a1 4) then (zu_b 0 (some (0, σ))) else (zu_b 1 (some (1, σ)))))) := Eq.trans (Eq.refl _) rfl
set_option maxRecDepth 100000 in
set_option maxHeartbeats 4000000 in
theorem zr_249_0 (n : Nat) (c : zu_C) (ex : zu_I) (a0 a1 : Int) (σ : zu_m) : zu_rega (zt_T n) c ex 2 zt_m249 [] 400 0 [(8, a0), (0, a1)] [] σ = (zu_bd (c 26 [(10, (a0 + 4)), (0, a1), (15, (a0 + 12))] σ) (fun v9 s9 => (some (v9, s9)))) := Eq.trans (Eq.refl _) rfl
set_option maxRecDepth 100000 in
set_option maxHeartbeats 4000000 in
theorem zr_87_0 (n : Nat) (c : zu_C) (ex : zu_I) (a0 a1 : Int) (σ : zu_m) : zu_rega (zt_T n) c ex 0 zt_m87 [] 400 0 [(40, a0), (0, a1)] [] σ = (if (σ a0 6) ≤ a1 then (zu_b 0 (some (0, σ))) else (if 0 ≤ a1 ∧ a1 < 700 then (if (σ 191 a1) < 97 then (zu_b 0 (some (0, σ))) else (if 0 ≤ a1 ∧ a1 < 700 then (if 122 < (σ 191 a1) then (zu_b 0 (some (0, σ))) else (zu_b 1 (some (1, σ)))) else none)) else none)) := Eq.trans (Eq.refl _) rfl
set_option maxRecDepth 100000 in
set_option maxHeartbeats 4000000 in
theorem zr_88_0 (n : Nat) (c : zu_C) (ex : zu_I) (a0 a1 : Int) (σ : zu_m) : zu_rega (zt_T n) c ex 0 zt_m88 [] 400 0 [(40, a0), (0, a1)] [] σ = (if (σ a0 6) ≤ a1 then (zu_b 0 (some (0, σ))) else (if 0 ≤ a1 ∧ a1 < 700 then (if (σ 191 a1) < 48 then (zu_b 0 (some (0, σ))) else (if 0 ≤ a1 ∧ a1 < 700 then (if 57 < (σ 191 a1) then (zu_b 0 (some (0, σ))) else (zu_b 1 (some (1, σ)))) else none)) else none)) := Eq.trans (Eq.refl _) rfl
set_option maxRecDepth 100000 in
set_option maxHeartbeats 4000000 in
theorem zr_253_0 (n : Nat) (c : zu_C) (ex : zu_I) (a0 a1 : Int) (σ : zu_m) : zu_rega (zt_T n) c ex 0 zt_m253 [] 400 0 [(1, a0), (2, 0), (0, a1)] [] σ = (some ((zu_w32 (zu_max 0 (zu_min a1 a0))), σ)) := Eq.trans (Eq.refl _) rfl
set_option maxRecDepth 100000 in
set_option maxHeartbeats 4000000 in
theorem zr_85_0 (n : Nat) (c : zu_C) (ex : zu_I) (a0 a1 : Int) (σ : zu_m) : zu_rega (zt_T n) c ex 0 zt_m85 [] 400 0 [(40, a0), (0, a1)] [] σ = (zu_b 0 (some (0, (zu_up (zu_up σ a0 4 a1) a0 5 ((zu_up σ a0 4 a1) a0 10))))) := Eq.trans (Eq.refl _) rfl
set_option maxRecDepth 100000 in
set_option maxHeartbeats 4000000 in
theorem zr_98_0 (n : Nat) (c : zu_C) (ex : zu_I) (a0 a1 : Int) (σ : zu_m) : zu_rega (zt_T n) c ex 2 zt_m98 [] 400 0 [(40, a0), (0, a1)] [] σ = (if 0 ≤ a1 ∧ a1 < 6 then (if (σ 193 a1) = 0 then (zu_b 1 (if 0 ≤ a1 ∧ a1 < 6 then (zu_bd (c 89 [(40, a0)] (zu_up σ 193 a1 1)) (fun v23 s23 => (zu_b 1 (some (1, s23))))) else none)) else (zu_bd (c 85 [(40, a0), (0, 3)] σ) (fun v11 s11 => (zu_b v11 (some (v11, s11)))))) else none) := Eq.trans (Eq.refl _) rfl
set_option maxRecDepth 100000 in
set_option maxHeartbeats 4000000 in
theorem zr_97_0 (n : Nat) (c : zu_C) (ex : zu_I) (a0 a1 a2 : Int) (σ : zu_m) : zu_rega (zt_T n) c ex 2 zt_m97 [] 400 0 [(40, a0), (0, a1), (0, a2), (2, 0)] [] σ = (if (σ a0 8) ≠ 1 then (zu_bd (c 85 [(40, a0), (0, 1)] σ) (fun v26 s26 => (zu_b v26 (some (v26, s26))))) else (if (σ a0 9) < a1 then (zu_bd (c 85 [(40, a0), (0, 1)] σ) (fun v26 s26 => (zu_b v26 (some (v26, s26))))) else (if (σ a0 9) ≤ a2 then (zu_bd (c 89 [(40, a0)] σ) (fun v38 s38 => (zu_b 1 (some (1, (zu_up s38 a0 11 (zu_w32 ((σ a0 9) - a1)))))))) else (zu_bd (c 85 [(40, a0), (0, 1)] σ) (fun v26 s26 => (zu_b v26 (some (v26, s26)))))))) := Eq.trans (Eq.refl _) rfl
set_option maxRecDepth 100000 in
set_option maxHeartbeats 4000000 in
theorem zr_94_0 (n : Nat) (c : zu_C) (ex : zu_I) (a0 a1 a2 : Int) (σ : zu_m) : zu_rega (zt_T n) c ex 2 zt_m94 [] 400 0 [(40, a0), (0, a1), (0, a2)] [] σ = (if (σ a0 8) = 3 then (zu_bd (c 83 [(0, (σ a0 9)), (0, a1), (0, a2)] σ) (fun v20 s20 => (if v20 ≠ 0 then (zu_bd (c 89 [(40, a0)] (zu_up s20 a0 11 (s20 a0 9))) (fun v41 s41 => (zu_b 1 (some (1, s41))))) else (zu_bd (c 85 [(40, a0), (0, 2)] s20) (fun v28 s28 => (zu_b v28 (some (v28, s28)))))))) else (zu_bd (c 85 [(40, a0), (0, 1)] σ) (fun v10 s10 => (zu_b v10 (some (v10, s10)))))) := Eq.trans (Eq.refl _) rfl
set_option maxRecDepth 100000 in
set_option maxHeartbeats 4000000 in
theorem zr_96_0 (n : Nat) (c : zu_C) (ex : zu_I) (a0 : Int) (σ : zu_m) : zu_rega (zt_T n) c ex 3 zt_m96 [] 400 0 [(40, a0), (2, 0)] [] σ = (zu_b 1 (zu_bd (c 94 [(40, a0), (0, 0), (0, (zu_w32 (((zu_up σ a0 23 1) a0 17) - 1)))] (zu_up σ a0 23 1)) (fun v13 s13 => (if v13 ≠ 0 then (zu_bd (c 94 [(40, a0), (0, 0), (0, (zu_w32 (((zu_up s13 a0 42 (s13 a0 10)) a0 18) - 1)))] (zu_up s13 a0 42 (s13 a0 10))) (fun v42 s42 => (if v42 ≠ 0 then (zu_b 1 (some (1, (zu_up s42 a0 11 (zu_w32 ((zu_w32 ((s42 a0 17) * (s42 a0 11))) + (s13 a0 11))))))) else (zu_b 0 (some (0, s42)))))) else (zu_b 0 (some (0, s13))))))) := Eq.trans (Eq.refl _) rfl
set_option maxRecDepth 100000 in
set_option maxHeartbeats 4000000 in
theorem zr_93_0 (n : Nat) (c : zu_C) (ex : zu_I) (a0 a1 : Int) (σ : zu_m) : zu_rega (zt_T n) c ex 0 zt_m93 [] 400 0 [(40, a0), (0, a1)] [] σ = (if (σ a0 8) ≠ 4 then (zu_b 0 (some (0, σ))) else (if (σ a0 9) ≠ a1 then (zu_b 0 (some (0, σ))) else (zu_b 1 (some (1, σ))))) := Eq.trans (Eq.refl _) rfl
set_option maxRecDepth 100000 in
set_option maxHeartbeats 4000000 in
theorem zr_275_0 (n : Nat) (c : zu_C) (ex : zu_I) (a0 a1 : Int) (σ : zu_m) : zu_rega (zt_T n) c ex 0 zt_m275 [] 400 0 [(28, a0), (0, a1)] [] σ = (if 0 ≤ a1 ∧ a1 < 24 then (if (σ 147 a1) ≠ 0 then (zu_b 0 (some (0, σ))) else (if 0 ≤ a1 ∧ a1 < 24 then (if (σ 146 a1) ≠ (-1) then (zu_b 0 (some (0, σ))) else (zu_b 1 (some (1, σ)))) else none)) else none) := Eq.trans (Eq.refl _) rfl
set_option maxRecDepth 100000 in
set_option maxHeartbeats 4000000 in
theorem zr_92_0 (n : Nat) (c : zu_C) (ex : zu_I) (a0 a1 : Int) (σ : zu_m) : zu_rega (zt_T n) c ex 0 zt_m92 [] 400 0 [(40, a0), (0, a1)] [] σ = (if (σ a0 8) ≠ 1 then (zu_b 0 (some (0, σ))) else (if (σ a0 9) ≠ a1 then (zu_b 0 (some (0, σ))) else (zu_b 1 (some (1, σ))))) := Eq.trans (Eq.refl _) rfl
set_option maxRecDepth 100000 in
set_option maxHeartbeats 4000000 in
theorem zr_109_0 (n : Nat) (c : zu_C) (ex : zu_I) (a0 : Int) (σ : zu_m) : zu_rega (zt_T n) c ex 0 zt_m109 [] 400 0 [(0, a0)] [] σ = (if a0 < 13 then (if a0 < 11 then (if a0 < 5 then (if a0 ≠ 2 then (if a0 ≠ 3 then (if a0 ≠ 4 then (some (0, σ)) else (some (1, σ))) else (some (2, σ))) else (some (3, σ))) else (some (4, σ))) else (some (5, σ))) else (some (6, σ))) := Eq.trans (Eq.refl _) rfl
set_option maxRecDepth 100000 in
set_option maxHeartbeats 4000000 in
theorem zr_115_0 (n : Nat) (c : zu_C) (ex : zu_I) (a0 : Int) (σ : zu_m) : zu_rega (zt_T n) c ex 0 zt_m115 [] 400 0 [(40, a0)] [] σ = (if (σ a0 8) ≠ 1 then (some ((-1), σ)) else (if (σ a0 9) < 26 then (some ((-1), σ)) else (some ((zu_w32 ((σ a0 9) - 26)), σ)))) := Eq.trans (Eq.refl _) rfl
set_option maxRecDepth 100000 in
set_option maxHeartbeats 4000000 in
theorem zr_113_0 (n : Nat) (c : zu_C) (ex : zu_I) (a0 : Int) (σ : zu_m) : zu_rega (zt_T n) c ex 1 zt_m113 [] 400 0 [(40, a0)] [] σ = (if (σ a0 48) ≠ 64 then (zu_b 1 (some (1, (zu_up σ a0 48 (zu_w32 ((σ a0 48) + 1)))))) else (zu_bd (c 85 [(40, a0), (0, 2)] σ) (fun v11 s11 => (zu_b v11 (some (v11, s11)))))) := Eq.trans (Eq.refl _) rfl
set_option maxRecDepth 100000 in
set_option maxHeartbeats 4000000 in
theorem zr_114_0 (n : Nat) (c : zu_C) (ex : zu_I) (a0 a1 : Int) (σ : zu_m) : zu_rega (zt_T n) c ex 0 zt_m114 [] 400 0 [(40, a0), (0, a1)] [] σ = (if 0 ≤ (σ a0 45) ∧ (σ a0 45) < 96 then (some (0, (zu_up (zu_up σ 211 (σ a0 45) a1) a0 45 (zu_w32 (((zu_up σ 211 (σ a0 45) a1) a0 45) + 1))))) else none) := Eq.trans (Eq.refl _) rfl
set_option maxRecDepth 100000 in
set_option maxHeartbeats 4000000 in
theorem zr_111_0 (n : Nat) (c : zu_C) (ex : zu_I) (a0 : Int) (σ : zu_m) : zu_rega (zt_T n) c ex 0 zt_m111 [] 400 0 [(40, a0)] [] σ = (if 0 ≤ ((zu_up σ a0 46 (zu_w32 ((σ a0 46) - 1))) a0 46) ∧ ((zu_up σ a0 46 (zu_w32 ((σ a0 46) - 1))) a0 46) < 96 then (some (((zu_up σ a0 46 (zu_w32 ((σ a0 46) - 1))) 212 ((zu_up σ a0 46 (zu_w32 ((σ a0 46) - 1))) a0 46)), (zu_up σ a0 46 (zu_w32 ((σ a0 46) - 1))))) else none) := Eq.trans (Eq.refl _) rfl
set_option maxRecDepth 100000 in
set_option maxHeartbeats 4000000 in
theorem zr_279_0 (n : Nat) (c : zu_C) (ex : zu_I) (a0 a1 a2 : Int) (σ : zu_m) : zu_rega (zt_T n) c ex 0 zt_m279 [] 400 0 [(22, a0), (0, a1), (0, a2)] [] σ = (if (σ a0 4) ≠ 1 then (zu_b 0 (some (0, σ))) else (if (σ a0 5) < a1 then (zu_b 0 (some (0, σ))) else (if (zu_w32 (a1 + a2)) ≤ (σ a0 5) then (zu_b 0 (some (0, σ))) else (zu_b 1 (some (1, σ)))))) := Eq.trans (Eq.refl _) rfl
set_option maxRecDepth 100000 in
set_option maxHeartbeats 4000000 in
theorem zr_257_0 (n : Nat) (c : zu_C) (ex : zu_I) (a0 a1 : Int) (σ : zu_m) : zu_rega (zt_T n) c ex 0 zt_m257 [] 400 0 [(7, a0), (0, a1)] [] σ = (zu_b 0 (some (0, (zu_up (zu_up σ a0 9 a1) a0 10 ((zu_up σ a0 9 a1) 45 6))))) := Eq.trans (Eq.refl _) rfl
set_option maxRecDepth 100000 in
set_option maxHeartbeats 4000000 in
theorem zr_263_0 (n : Nat) (c : zu_C) (ex : zu_I) (a0 a1 : Int) (σ : zu_m) : zu_rega (zt_T n) c ex 1 zt_m263 [] 400 0 [(7, a0), (0, a1)] [] σ = (if (zu_i32 3 (zu_i32 6 (σ a0 4) a1) 1) ≠ 1 then (zu_b 1 (some (1, (zu_up σ a0 4 (zu_i32 4 (σ a0 4) (zu_i32 5 1 a1)))))) else (zu_bd (c 257 [(7, a0), (0, 3)] σ) (fun v14 s14 => (zu_b v14 (some (v14, s14)))))) := Eq.trans (Eq.refl _) rfl
set_option maxRecDepth 100000 in
set_option maxHeartbeats 4000000 in
theorem zr_260_0 (n : Nat) (c : zu_C) (ex : zu_I) (a0 a1 a2 : Int) (σ : zu_m) : zu_rega (zt_T n) c ex 2 zt_m260 [] 400 0 [(7, a0), (0, a1), (0, a2)] [] σ = (zu_bd (c 18 [(22, 45)] σ) (fun v4 s4 => (if (s4 45 4) = 3 then (if ((zu_up s4 a0 7 (s4 45 5)) a0 7) < a1 then (zu_bd (c 257 [(7, a0), (0, 2)] (zu_up s4 a0 7 (s4 45 5))) (fun v53 s53 => (if v53 = 0 then (zu_b 0 (some (0, s53))) else (zu_b 1 (some (1, s53)))))) else (if ((zu_up s4 a0 7 (s4 45 5)) a0 7) ≤ a2 then (zu_b 1 (some (1, (zu_up s4 a0 7 (s4 45 5))))) else (zu_bd (c 257 [(7, a0), (0, 2)] (zu_up s4 a0 7 (s4 45 5))) (fun v53 s53 => (if v53 = 0 then (zu_b 0 (some (0, s53))) else (zu_b 1 (some (1, s53)))))))) else (zu_bd (c 257 [(7, a0), (0, 1)] s4) (fun v20 s20 => (zu_b v20 (some (v20, s20)))))))) := Eq.trans (Eq.refl _) rfl
set_option maxRecDepth 100000 in
set_option maxHeartbeats 4000000 in
theorem zr_261_0 (n : Nat) (c : zu_C) (ex : zu_I) (a0 a1 a2 : Int) (σ : zu_m) : zu_rega (zt_T n) c ex 2 zt_m261 [] 400 0 [(7, a0), (0, a1), (0, a2)] [] σ = (zu_bd (c 18 [(22, 45)] σ) (fun v4 s4 => (zu_bd (c 279 [(22, 45), (0, a1), (0, a2)] s4) (fun v13 s13 => (if v13 ≠ 0 then (zu_b 1 (some (1, (zu_up s13 a0 7 (zu_w32 ((s13 45 5) - a1)))))) else (zu_bd (c 257 [(7, a0), (0, 1)] s13) (fun v21 s21 => (zu_b v21 (some (v21, s21)))))))))) := Eq.trans (Eq.refl _) rfl
set_option maxRecDepth 100000 in
set_option maxHeartbeats 4000000 in
theorem zr_262_0 (n : Nat) (c : zu_C) (ex : zu_I) (a0 : Int) (σ : zu_m) : zu_rega (zt_T n) c ex 3 zt_m262 [] 400 0 [(7, a0), (2, 0)] [] σ = (zu_b 1 (zu_bd (c 260 [(7, a0), (0, 0), (0, (zu_w32 (((zu_up σ a0 6 1) 6 0) - 1)))] (zu_up σ a0 6 1)) (fun v16 s16 => (if v16 ≠ 0 then (zu_bd (c 260 [(7, a0), (0, 0), (0, (zu_w32 ((s16 6 1) - 1)))] s16) (fun v40 s40 => (if v40 ≠ 0 then (zu_b 1 (some (1, (zu_up s40 a0 8 (zu_w32 ((zu_w32 ((s40 a0 7) * (s40 6 0))) + (s16 a0 7))))))) else (zu_b 0 (some (0, s40)))))) else (zu_b 0 (some (0, s16))))))) := Eq.trans (Eq.refl _) rfl
set_option maxRecDepth 100000 in
set_option maxHeartbeats 4000000 in
theorem zr_269_0 (n : Nat) (c : zu_C) (ex : zu_I) (a0 a1 : Int) (σ : zu_m) : zu_rega (zt_T n) c ex 0 zt_m269 [] 400 0 [(7, a0), (0, a1)] [] σ = (if a1 ≠ 6 then (if a1 ≠ 7 then (if a1 ≠ 8 then (if a1 ≠ 9 then (if a1 ≠ 10 then (zu_b 1 (some (1, σ))) else (zu_b 1 (some (1, (zu_up σ 6 5 (σ a0 7)))))) else (zu_b 1 (some (1, (zu_up σ 19 11 (σ a0 7)))))) else (zu_b 1 (some (1, (zu_up σ 6 4 (σ a0 7)))))) else (zu_b 1 (some (1, (zu_up σ 6 3 (σ a0 7)))))) else (zu_b 1 (some (1, (zu_up σ 19 10 (σ a0 7)))))) := Eq.trans (Eq.refl _) rfl
set_option maxRecDepth 100000 in
set_option maxHeartbeats 4000000 in
theorem zr_278_0 (n : Nat) (c : zu_C) (ex : zu_I) (a0 a1 : Int) (σ : zu_m) : zu_rega (zt_T n) c ex 0 zt_m278 [] 400 0 [(22, a0), (0, a1)] [] σ = (if (σ a0 4) ≠ 4 then (zu_b 0 (some (0, σ))) else (if (σ a0 5) ≠ a1 then (zu_b 0 (some (0, σ))) else (zu_b 1 (some (1, σ))))) := Eq.trans (Eq.refl _) rfl
set_option maxRecDepth 100000 in
set_option maxHeartbeats 4000000 in
theorem zr_201_0 (n : Nat) (c : zu_C) (ex : zu_I) (a0 : Int) (σ : zu_m) : zu_rega (zt_T n) c ex 1 zt_m201 [] 400 0 [(24, a0)] [] σ = (if (σ a0 4) < 8 then (zu_b 0 (if 0 ≤ ((zu_up σ a0 4 (zu_w32 ((σ a0 4) + 1))) a0 4) ∧ ((zu_up σ a0 4 (zu_w32 ((σ a0 4) + 1))) a0 4) < 9 then (zu_b 1 (zu_bd (c 205 [(24, a0), (0, 1)] (zu_up (zu_up (zu_up σ a0 4 (zu_w32 ((σ a0 4) + 1))) 49 ((zu_up σ a0 4 (zu_w32 ((σ a0 4) + 1))) a0 4) 0) a0 7 1)) (fun v38 s38 => (some (v38, s38))))) else none)) else (some (2, σ))) := Eq.trans (Eq.refl _) rfl
set_option maxRecDepth 100000 in
set_option maxHeartbeats 4000000 in
theorem zr_205_0 (n : Nat) (c : zu_C) (ex : zu_I) (a0 a1 : Int) (σ : zu_m) : zu_rega (zt_T n) c ex 0 zt_m205 [] 400 0 [(24, a0), (0, a1)] [] σ = (if (σ a0 3) < 72 then (if 0 ≤ (σ a0 3) ∧ (σ a0 3) < 72 then (some (0, (zu_up (zu_up σ 48 (σ a0 3) a1) a0 3 (zu_w32 (((zu_up σ 48 (σ a0 3) a1) a0 3) + 1))))) else none) else (some (2, σ))) := Eq.trans (Eq.refl _) rfl
set_option maxRecDepth 100000 in
set_option maxHeartbeats 4000000 in
theorem zr_204_0 (n : Nat) (c : zu_C) (ex : zu_I) (a0 : Int) (σ : zu_m) : zu_rega (zt_T n) c ex 0 zt_m204 [] 400 0 [(24, a0)] [] σ = (if (σ 10 5) < 64 then (zu_b 1 (some (1, (zu_up σ 10 5 (zu_w32 ((σ 10 5) + 1)))))) else (zu_b 0 (some (0, σ)))) := Eq.trans (Eq.refl _) rfl
set_option maxRecDepth 100000 in
set_option maxHeartbeats 4000000 in
theorem zr_200_0 (n : Nat) (c : zu_C) (ex : zu_I) (a0 a1 a2 : Int) (σ : zu_m) : zu_rega (zt_T n) c ex 1 zt_m200 [] 400 0 [(24, a0), (0, a1), (0, a2)] [] σ = (zu_bd (c 204 [(24, a0)] σ) (fun v1 s1 => (if v1 ≠ 0 then (zu_bd (c 207 [(10, 10), (0, a1), (0, a2)] s1) (fun v15 s15 => (zu_b 0 (some (0, (zu_up s15 a0 6 0)))))) else (some (2, s1))))) := Eq.trans (Eq.refl _) rfl
set_option maxRecDepth 100000 in
set_option maxHeartbeats 4000000 in
theorem zr_203_0 (n : Nat) (c : zu_C) (ex : zu_I) (a0 : Int) (σ : zu_m) : zu_rega (zt_T n) c ex 1 zt_m203 [] 400 0 [(24, a0)] [] σ = (zu_bd (c 279 [(22, 45), (0, 23), (0, 1)] σ) (fun v7 s7 => (if v7 = 0 then (zu_bd (c 279 [(22, 45), (0, 24), (0, 1)] s7) (fun v23 s23 => (if v23 = 0 then (if (s23 45 4) ≠ 4 then (some ((-1), s23)) else (if (s23 45 5) < 3 then (some ((-1), s23)) else (some ((s23 45 5), s23)))) else (some (14, s23))))) else (some (13, s7))))) := Eq.trans (Eq.refl _) rfl
set_option maxRecDepth 100000 in
set_option maxHeartbeats 4000000 in
theorem zr_14_0 (n : Nat) (c : zu_C) (ex : zu_I) (a0 : Int) (σ : zu_m) : zu_rega (zt_T n) c ex 0 zt_m14 [12] 400 0 [(10, a0), (2, 0)] [] σ = (ex 12 [(10, a0), (0, 0)] [] (zu_up (zu_up σ a0 5 0) a0 6 0)) := Eq.trans (Eq.refl _) rfl
set_option maxRecDepth 100000 in
set_option maxHeartbeats 4000000 in
theorem zr_14_12 (n : Nat) (c : zu_C) (ex : zu_I) (a0 x1 : Int) (σ : zu_m) : zu_rega (zt_T n) c ex 0 zt_m14 [12] 400 12 [(10, a0), (0, x1)] [] σ = (if 4 ≤ x1 then (some (0, σ)) else (if 0 ≤ x1 ∧ x1 < 4 then (if 0 ≤ x1 ∧ x1 < 4 then (ex 12 [(10, a0), (0, (zu_w32 (x1 + 1)))] [] (zu_up (zu_up σ (a0 + 3) x1 (-1)) (a0 + 4) x1 (-1))) else none) else none)) := Eq.trans (Eq.refl _) rfl
set_option maxRecDepth 100000 in
set_option maxHeartbeats 4000000 in
theorem zr_15_0 (n : Nat) (c : zu_C) (ex : zu_I) (a0 a1 a2 : Int) (σ : zu_m) : zu_rega (zt_T n) c ex 0 zt_m15 [28, 40] 400 0 [(8, a0), (0, a1), (0, a2), (2, 0), (2, 0), (2, 0)] [] σ = (ex 28 [(8, a0), (0, a1), (0, a2), (0, 0), (0, 0), (2, 0)] [] (zu_up (zu_up (zu_up σ a0 0 a1) a0 1 a2) a0 2 (zu_w32 (((zu_up (zu_up σ a0 0 a1) a0 1 a2) a0 0) * ((zu_up (zu_up σ a0 0 a1) a0 1 a2) a0 1))))) := Eq.trans (Eq.refl _) rfl
set_option maxRecDepth 100000 in
set_option maxHeartbeats 4000000 in
theorem zr_15_28 (n : Nat) (c : zu_C) (ex : zu_I) (a0 a1 a2 x3 x4 : Int) (σ : zu_m) : zu_rega (zt_T n) c ex 0 zt_m15 [28, 40] 400 28 [(8, a0), (0, a1), (0, a2), (0, x3), (0, x4), (2, 0)] [] σ = (if (σ a0 1) ≤ x4 then (some (0, σ)) else (ex 40 [(8, a0), (0, a1), (0, a2), (0, x3), (0, x4), (0, 0)] [] σ)) := Eq.trans (Eq.refl _) rfl
set_option maxRecDepth 100000 in
set_option maxHeartbeats 4000000 in
theorem zr_15_40 (n : Nat) (c : zu_C) (ex : zu_I) (a0 a1 a2 x3 x4 x5 : Int) (σ : zu_m) : zu_rega (zt_T n) c ex 0 zt_m15 [28, 40] 400 40 [(8, a0), (0, a1), (0, a2), (0, x3), (0, x4), (0, x5)] [] σ = (if (σ a0 0) ≤ x5 then (ex 28 [(8, a0), (0, a1), (0, a2), (0, x3), (0, (zu_w32 (x4 + 1))), (0, x5)] [] σ) else (if 48 ≤ x3 then (ex 28 [(8, a0), (0, a1), (0, a2), (0, x3), (0, (zu_w32 (x4 + 1))), (0, x5)] [] σ) else (if 0 ≤ x3 ∧ x3 < 48 then (if 0 ≤ x3 ∧ x3 < 48 then (ex 40 [(8, a0), (0, a1), (0, a2), (0, (zu_w32 (x3 + 1))), (0, x4), (0, (zu_w32 (x5 + 1)))] [] (zu_up (zu_up σ (a0 + 1) x3 x5) (a0 + 2) x3 x4)) else none) else none))) := Eq.trans (Eq.refl _) rfl
set_option maxRecDepth 100000 in
set_option maxHeartbeats 4000000 in
theorem zr_16_0 (n : Nat) (c : zu_C) (ex : zu_I) (a0 : Int) (σ : zu_m) : zu_rega (zt_T n) c ex 0 zt_m16 [33] 400 0 [(16, a0), (2, 0)] [] σ = (ex 33 [(16, a0), (0, 0)] [] (zu_up (zu_up (zu_up (zu_up (zu_up (zu_up σ a0 2 0) a0 4 0) a0 8 0) a0 9 0) a0 10 0) a0 11 1000000)) := Eq.trans (Eq.refl _) rfl
set_option maxRecDepth 100000 in
set_option maxHeartbeats 4000000 in
theorem zr_16_33 (n : Nat) (c : zu_C) (ex : zu_I) (a0 x1 : Int) (σ : zu_m) : zu_rega (zt_T n) c ex 0 zt_m16 [33] 400 33 [(16, a0), (0, x1)] [] σ = (if 48 ≤ x1 then (some (0, σ)) else (zu_b 0 (if 0 ≤ x1 ∧ x1 < 48 then (if 0 ≤ x1 ∧ x1 < 48 then (ex 33 [(16, a0), (0, (zu_w32 (x1 + 1)))] [] (zu_up (zu_up σ 22 x1 0) 23 x1 0)) else none) else none))) := Eq.trans (Eq.refl _) rfl
set_option maxRecDepth 100000 in
set_option maxHeartbeats 4000000 in
theorem zr_17_0 (n : Nat) (c : zu_C) (ex : zu_I) (a0 a1 : Int) (σ : zu_m) : zu_rega (zt_T n) c ex 0 zt_m17 [] 400 0 [(22, a0), (0, a1)] [] σ = (some (0, (zu_up (zu_up σ a0 2 a1) a0 3 0))) := Eq.trans (Eq.refl _) rfl
set_option maxRecDepth 100000 in
set_option maxHeartbeats 4000000 in
theorem zr_21_0 (n : Nat) (c : zu_C) (ex : zu_I) (a0 a1 : Int) (σ : zu_m) : zu_rega (zt_T n) c ex 0 zt_m21 [] 400 0 [(10, a0), (10, a1)] [] σ = (if 0 ≤ (64 : Int) ∧ 0 ≤ (0 : Int) ∧ 0 ≤ (0 : Int) ∧ (0 : Int) + 64 ≤ 64 ∧ (0 : Int) + 64 ≤ 64 then (if 0 ≤ (64 : Int) ∧ 0 ≤ (0 : Int) ∧ 0 ≤ (0 : Int) ∧ (0 : Int) + 64 ≤ 64 ∧ (0 : Int) + 64 ≤ 64 then (if 0 ≤ (4 : Int) ∧ 0 ≤ (0 : Int) ∧ 0 ≤ (0 : Int) ∧ (0 : Int) + 4 ≤ 4 ∧ (0 : Int) + 4 ≤ 4 then (if 0 ≤ (4 : Int) ∧ 0 ≤ (0 : Int) ∧ 0 ≤ (0 : Int) ∧ (0 : Int) + 4 ≤ 4 ∧ (0 : Int) + 4 ≤ 4 then (some (0, (zu_up (zu_up (zu_cp (zu_cp (zu_cp (zu_cp σ (a1 + 1) 0 (a0 + 1) 0 64) (a1 + 2) 0 (a0 + 2) 0 64) (a1 + 3) 0 (a0 + 3) 0 4) (a1 + 4) 0 (a0 + 4) 0 4) a0 5 ((zu_cp (zu_cp (zu_cp (zu_cp σ (a1 + 1) 0 (a0 + 1) 0 64) (a1 + 2) 0 (a0 + 2) 0 64) (a1 + 3) 0 (a0 + 3) 0 4) (a1 + 4) 0 (a0 + 4) 0 4) a1 5)) a0 6 ((zu_up (zu_cp (zu_cp (zu_cp (zu_cp σ (a1 + 1) 0 (a0 + 1) 0 64) (a1 + 2) 0 (a0 + 2) 0 64) (a1 + 3) 0 (a0 + 3) 0 4) (a1 + 4) 0 (a0 + 4) 0 4) a0 5 ((zu_cp (zu_cp (zu_cp (zu_cp σ (a1 + 1) 0 (a0 + 1) 0 64) (a1 + 2) 0 (a0 + 2) 0 64) (a1 + 3) 0 (a0 + 3) 0 4) (a1 + 4) 0 (a0 + 4) 0 4) a1 5)) a1 6)))) else none) else none) else none) else none) := Eq.trans (Eq.refl _) rfl
set_option maxRecDepth 100000 in
set_option maxHeartbeats 4000000 in
theorem zr_25_0 (n : Nat) (c : zu_C) (ex : zu_I) (a0 a1 a2 a3 : Int) (σ : zu_m) : zu_rega (zt_T n) c ex 0 zt_m25 [] 400 0 [(8, a0), (0, a1), (0, a2), (0, a3)] [] σ = (if 0 ≤ (0 : Int) ∧ (0 : Int) < 7 then (if 0 ≤ (1 : Int) ∧ (1 : Int) < 7 then (if 0 ≤ a1 ∧ a1 < 48 then (if 0 ≤ (2 : Int) ∧ (2 : Int) < 7 then (if 0 ≤ (3 : Int) ∧ (3 : Int) < 7 then (if 0 ≤ (4 : Int) ∧ (4 : Int) < 7 then (if 0 ≤ a1 ∧ a1 < 48 then (if 0 ≤ (5 : Int) ∧ (5 : Int) < 7 then (if 0 ≤ (6 : Int) ∧ (6 : Int) < 7 then (some (0, (zu_up (zu_up (zu_up (zu_up (zu_up (zu_up (zu_up σ (a0 + 12) 0 0) (a0 + 12) 1 a3) (a0 + 12) 2 ((zu_up (zu_up σ (a0 + 12) 0 0) (a0 + 12) 1 a3) (a0 + 3) a1)) (a0 + 12) 3 a2) (a0 + 12) 4 0) (a0 + 12) 5 ((zu_up (zu_up (zu_up (zu_up (zu_up σ (a0 + 12) 0 0) (a0 + 12) 1 a3) (a0 + 12) 2 ((zu_up (zu_up σ (a0 + 12) 0 0) (a0 + 12) 1 a3) (a0 + 3) a1)) (a0 + 12) 3 a2) (a0 + 12) 4 0) (a0 + 2) a1)) (a0 + 12) 6 0))) else none) else none) else none) else none) else none) else none) else none) else none) else none) := Eq.trans (Eq.refl _) rfl
set_option maxRecDepth 100000 in
set_option maxHeartbeats 4000000 in
theorem zr_27_0 (n : Nat) (c : zu_C) (ex : zu_I) (a0 : Int) (σ : zu_m) : zu_rega (zt_T n) c ex 0 zt_m27 [] 400 0 [(28, a0)] [] σ = (some (0, (zu_up (zu_up σ a0 6 0) a0 7 (-1)))) := Eq.trans (Eq.refl _) rfl
set_option maxRecDepth 100000 in
set_option maxHeartbeats 4000000 in
theorem zr_28_0 (n : Nat) (c : zu_C) (ex : zu_I) (a0 : Int) (σ : zu_m) : zu_rega (zt_T n) c ex 0 zt_m28 [] 400 0 [(31, a0)] [] σ = (some (0, (zu_up σ a0 4 0))) := Eq.trans (Eq.refl _) rfl
set_option maxRecDepth 100000 in
set_option maxHeartbeats 4000000 in
theorem zr_30_0 (n : Nat) (c : zu_C) (ex : zu_I) (a0 : Int) (σ : zu_m) : zu_rega (zt_T n) c ex 0 zt_m30 [43, 64, 95, 126] 400 0 [(40, a0), (2, 0)] [] σ = (zu_b 0 (ex 43 [(40, a0), (0, 0)] [] (zu_up (zu_up (zu_up (zu_up (zu_up (zu_up (zu_up (zu_up σ a0 17 6) a0 18 5) a0 19 0) a0 20 0) a0 21 0) a0 22 0) a0 48 0) a0 23 0))) := Eq.trans (Eq.refl _) rfl
set_option maxRecDepth 100000 in
set_option maxHeartbeats 4000000 in
theorem zr_30_43 (n : Nat) (c : zu_C) (ex : zu_I) (a0 x1 : Int) (σ : zu_m) : zu_rega (zt_T n) c ex 0 zt_m30 [43, 64, 95, 126] 400 43 [(40, a0), (0, x1)] [] σ = (if 6 ≤ x1 then (ex 64 [(40, a0), (0, 5)] [] σ) else (zu_b 0 (if 0 ≤ x1 ∧ x1 < 6 then (ex 43 [(40, a0), (0, (zu_w32 (x1 + 1)))] [] (zu_up σ 193 x1 0)) else none))) := Eq.trans (Eq.refl _) rfl
set_option maxRecDepth 100000 in
set_option maxHeartbeats 4000000 in
theorem zr_30_64 (n : Nat) (c : zu_C) (ex : zu_I) (a0 x1 : Int) (σ : zu_m) : zu_rega (zt_T n) c ex 0 zt_m30 [43, 64, 95, 126] 400 64 [(40, a0), (0, x1)] [] σ = (if 10 ≤ x1 then (ex 95 [(40, a0), (0, 0)] [] σ) else (if x1 ≠ 8 then (if 0 ≤ x1 ∧ x1 < 10 then (ex 64 [(40, a0), (0, (zu_w32 (x1 + 1)))] [] (zu_up σ 194 x1 0)) else none) else (if 0 ≤ x1 ∧ x1 < 10 then (ex 64 [(40, a0), (0, (zu_w32 (x1 + 1)))] [] (zu_up σ 194 x1 (-1))) else none))) := Eq.trans (Eq.refl _) rfl
set_option maxRecDepth 100000 in
set_option maxHeartbeats 4000000 in
theorem zr_30_95 (n : Nat) (c : zu_C) (ex : zu_I) (a0 x1 : Int) (σ : zu_m) : zu_rega (zt_T n) c ex 0 zt_m30 [43, 64, 95, 126] 400 95 [(40, a0), (0, x1)] [] σ = (if 48 ≤ x1 then (ex 126 [(40, a0), (0, 4)] [] σ) else (if 0 ≤ (zu_w32 (48 + x1)) ∧ (zu_w32 (48 + x1)) < 96 then (zu_b 0 (if 0 ≤ x1 ∧ x1 < 48 then (ex 95 [(40, a0), (0, (zu_w32 (x1 + 1)))] [] (zu_up (zu_up σ 195 (zu_w32 (48 + x1)) 0) 196 x1 0)) else none)) else none)) := Eq.trans (Eq.refl _) rfl
set_option maxRecDepth 100000 in
set_option maxHeartbeats 4000000 in
theorem zr_30_126 (n : Nat) (c : zu_C) (ex : zu_I) (a0 x1 : Int) (σ : zu_m) : zu_rega (zt_T n) c ex 0 zt_m30 [43, 64, 95, 126] 400 126 [(40, a0), (0, x1)] [] σ = (if 8 ≤ x1 then (some (0, σ)) else (zu_b 0 (if 0 ≤ x1 ∧ x1 < 8 then (ex 126 [(40, a0), (0, (zu_w32 (x1 + 1)))] [] (zu_up σ 205 x1 0)) else none))) := Eq.trans (Eq.refl _) rfl
set_option maxRecDepth 100000 in
set_option maxHeartbeats 4000000 in
theorem zr_32_0 (n : Nat) (c : zu_C) (ex : zu_I) (a0 a1 : Int) (σ : zu_m) : zu_rega (zt_T n) c ex 0 zt_m32 [2] 400 0 [(43, a0), (0, a1), (2, 0)] [] σ = (ex 2 [(43, a0), (0, a1), (0, 0)] [] σ) := Eq.trans (Eq.refl _) rfl
set_option maxRecDepth 100000 in
set_option maxHeartbeats 4000000 in
theorem zr_32_2 (n : Nat) (c : zu_C) (ex : zu_I) (a0 a1 x2 : Int) (σ : zu_m) : zu_rega (zt_T n) c ex 0 zt_m32 [2] 400 2 [(43, a0), (0, a1), (0, x2)] [] σ = (if a1 ≤ x2 then (some (0, σ)) else (if 0 ≤ (zu_w32 (a1 + x2)) ∧ (zu_w32 (a1 + x2)) < 10 then (if 0 ≤ x2 ∧ x2 < 10 then (ex 2 [(43, a0), (0, a1), (0, (zu_w32 (x2 + 1)))] [] (zu_up σ a0 x2 (σ a0 (zu_w32 (a1 + x2))))) else none) else none)) := Eq.trans (Eq.refl _) rfl
set_option maxRecDepth 100000 in
set_option maxHeartbeats 4000000 in
theorem zr_32b_0 (n : Nat) (c : zu_C) (ex : zu_I) (a0 a1 : Int) (σ : zu_m) : zu_rega (zt_T n) c ex 0 zt_m32 [2] 400 0 [(44, a0), (0, a1), (2, 0)] [] σ = (ex 2 [(44, a0), (0, a1), (0, 0)] [] σ) := Eq.trans (Eq.refl _) rfl
set_option maxRecDepth 100000 in
set_option maxHeartbeats 4000000 in
theorem zr_32b_2 (n : Nat) (c : zu_C) (ex : zu_I) (a0 a1 x2 : Int) (σ : zu_m) : zu_rega (zt_T n) c ex 0 zt_m32 [2] 400 2 [(44, a0), (0, a1), (0, x2)] [] σ = (if a1 ≤ x2 then (some (0, σ)) else (if 0 ≤ (zu_w32 (a1 + x2)) ∧ (zu_w32 (a1 + x2)) < 96 then (if 0 ≤ x2 ∧ x2 < 96 then (ex 2 [(44, a0), (0, a1), (0, (zu_w32 (x2 + 1)))] [] (zu_up σ a0 x2 (σ a0 (zu_w32 (a1 + x2))))) else none) else none)) := Eq.trans (Eq.refl _) rfl
set_option maxRecDepth 100000 in
set_option maxHeartbeats 4000000 in
theorem zr_32c_0 (n : Nat) (c : zu_C) (ex : zu_I) (a0 a1 : Int) (σ : zu_m) : zu_rega (zt_T n) c ex 0 zt_m32 [2] 400 0 [(45, a0), (0, a1), (2, 0)] [] σ = (ex 2 [(45, a0), (0, a1), (0, 0)] [] σ) := Eq.trans (Eq.refl _) rfl
set_option maxRecDepth 100000 in
set_option maxHeartbeats 4000000 in
theorem zr_32c_2 (n : Nat) (c : zu_C) (ex : zu_I) (a0 a1 x2 : Int) (σ : zu_m) : zu_rega (zt_T n) c ex 0 zt_m32 [2] 400 2 [(45, a0), (0, a1), (0, x2)] [] σ = (if a1 ≤ x2 then (some (0, σ)) else (if 0 ≤ (zu_w32 (a1 + x2)) ∧ (zu_w32 (a1 + x2)) < 36 then (if 0 ≤ x2 ∧ x2 < 36 then (ex 2 [(45, a0), (0, a1), (0, (zu_w32 (x2 + 1)))] [] (zu_up σ a0 x2 (σ a0 (zu_w32 (a1 + x2))))) else none) else none)) := Eq.trans (Eq.refl _) rfl
set_option maxRecDepth 100000 in
set_option maxHeartbeats 4000000 in
theorem zr_32d_0 (n : Nat) (c : zu_C) (ex : zu_I) (a0 a1 : Int) (σ : zu_m) : zu_rega (zt_T n) c ex 0 zt_m32 [2] 400 0 [(46, a0), (0, a1), (2, 0)] [] σ = (ex 2 [(46, a0), (0, a1), (0, 0)] [] σ) := Eq.trans (Eq.refl _) rfl
set_option maxRecDepth 100000 in
set_option maxHeartbeats 4000000 in
theorem zr_32d_2 (n : Nat) (c : zu_C) (ex : zu_I) (a0 a1 x2 : Int) (σ : zu_m) : zu_rega (zt_T n) c ex 0 zt_m32 [2] 400 2 [(46, a0), (0, a1), (0, x2)] [] σ = (if a1 ≤ x2 then (some (0, σ)) else (if 0 ≤ (zu_w32 (a1 + x2)) ∧ (zu_w32 (a1 + x2)) < 8 then (if 0 ≤ x2 ∧ x2 < 8 then (ex 2 [(46, a0), (0, a1), (0, (zu_w32 (x2 + 1)))] [] (zu_up σ a0 x2 (σ a0 (zu_w32 (a1 + x2))))) else none) else none)) := Eq.trans (Eq.refl _) rfl
set_option maxRecDepth 100000 in
set_option maxHeartbeats 4000000 in
theorem zr_32e_0 (n : Nat) (c : zu_C) (ex : zu_I) (a0 a1 : Int) (σ : zu_m) : zu_rega (zt_T n) c ex 0 zt_m32 [2] 400 0 [(48, a0), (0, a1), (2, 0)] [] σ = (ex 2 [(48, a0), (0, a1), (0, 0)] [] σ) := Eq.trans (Eq.refl _) rfl
