set_option maxRecDepth 100000 in
set_option maxHeartbeats 4000000 in
theorem zr_123_0 (n : Nat) (c : zu_C) (ex : zu_I) (a0 a1 : Int) (σ : zu_m) : zu_rega (zt_T n) c ex 1 zt_m123 [] 400 0 [(40, a0), (0, a1)] [] σ = (if a1 < 0 then (zu_b 0 (some (0, σ))) else (zu_bd (c 36 [(40, a0)] σ) (fun v6 s6 => (if v6 ≤ a1 then (zu_b 0 (some (0, s6))) else (zu_b 1 (some (1, s6))))))) := Eq.trans (Eq.refl _) rfl
set_option maxRecDepth 100000 in
set_option maxHeartbeats 4000000 in
theorem zr_142_0 (n : Nat) (c : zu_C) (ex : zu_I) (a0 a1 : Int) (σ : zu_m) : zu_rega (zt_T n) c ex 0 zt_m142 [] 400 0 [(40, a0), (0, a1)] [] σ = (some (0, (zu_up σ a0 2 a1))) := Eq.trans (Eq.refl _) rfl
set_option maxRecDepth 100000 in
set_option maxHeartbeats 4000000 in
theorem zr_36_0 (n : Nat) (c : zu_C) (ex : zu_I) (a0 : Int) (σ : zu_m) : zu_rega (zt_T n) c ex 0 zt_m36 [] 400 0 [(40, a0)] [] σ = (some ((zu_w32 ((σ a0 12) * (σ a0 13))), σ)) := Eq.trans (Eq.refl _) rfl
set_option maxRecDepth 100000 in
set_option maxHeartbeats 4000000 in
theorem zr_84_0 (n : Nat) (c : zu_C) (ex : zu_I) (a0 a1 : Int) (σ : zu_m) : zu_rega (zt_T n) c ex 0 zt_m84 [] 400 0 [(1, a0), (2, 0), (0, a1)] [] σ = (if (zu_lcmp (zu_i64 3 (zu_shr a0 a1) 1) 1) ≠ 0 then (zu_b 0 (some (0, σ))) else (zu_b 1 (some (1, σ)))) := Eq.trans (Eq.refl _) rfl
set_option maxRecDepth 100000 in
set_option maxHeartbeats 4000000 in
theorem zr_210_0 (n : Nat) (c : zu_C) (ex : zu_I) (a0 a1 : Int) (σ : zu_m) : zu_rega (zt_T n) c ex 0 zt_m210 [] 400 0 [(27, a0), (0, a1)] [] σ = (if a1 < 0 then (zu_b 0 (some (0, σ))) else (if (σ a0 2) ≤ a1 then (zu_b 0 (some (0, σ))) else (zu_b 1 (some (1, σ))))) := Eq.trans (Eq.refl _) rfl
set_option maxRecDepth 100000 in
set_option maxHeartbeats 4000000 in
theorem zr_124_0 (n : Nat) (c : zu_C) (ex : zu_I) (a0 a1 : Int) (σ : zu_m) : zu_rega (zt_T n) c ex 0 zt_m124 [] 400 0 [(40, a0), (0, a1)] [] σ = (if a1 < 0 then (zu_b 0 (some (0, σ))) else (if 0 ≤ (0 : Int) ∧ (0 : Int) < 2 then (if (σ 216 0) ≤ a1 then (zu_b 0 (some (0, σ))) else (zu_b 1 (some (1, σ)))) else none)) := Eq.trans (Eq.refl _) rfl
set_option maxRecDepth 100000 in
set_option maxHeartbeats 4000000 in
theorem zr_211_0 (n : Nat) (c : zu_C) (ex : zu_I) (a0 a1 : Int) (σ : zu_m) : zu_rega (zt_T n) c ex 0 zt_m211 [] 400 0 [(27, a0), (0, a1)] [] σ = (if a1 < 0 then (zu_b 0 (some (0, σ))) else (if (σ a0 4) ≤ a1 then (zu_b 0 (some (0, σ))) else (zu_b 1 (some (1, σ))))) := Eq.trans (Eq.refl _) rfl
set_option maxRecDepth 100000 in
set_option maxHeartbeats 4000000 in
theorem zr_125_0 (n : Nat) (c : zu_C) (ex : zu_I) (a0 a1 : Int) (σ : zu_m) : zu_rega (zt_T n) c ex 0 zt_m125 [] 400 0 [(40, a0), (0, a1)] [] σ = (if a1 < 0 then (zu_b 0 (some (0, σ))) else (if (σ a0 15) ≤ a1 then (zu_b 0 (some (0, σ))) else (zu_b 1 (some (1, σ))))) := Eq.trans (Eq.refl _) rfl
set_option maxRecDepth 100000 in
set_option maxHeartbeats 4000000 in
theorem zr_244_0 (n : Nat) (c : zu_C) (ex : zu_I) (a0 a1 : Int) (σ : zu_m) : zu_rega (zt_T n) c ex 0 zt_m244 [] 400 0 [(8, a0), (0, a1)] [] σ = (if a1 < 0 then (zu_b 0 (some (0, σ))) else (if (σ a0 2) ≤ a1 then (zu_b 0 (some (0, σ))) else (zu_b 1 (some (1, σ))))) := Eq.trans (Eq.refl _) rfl
set_option maxRecDepth 100000 in
set_option maxHeartbeats 4000000 in
theorem zr_83_0 (n : Nat) (c : zu_C) (ex : zu_I) (a0 a1 a2 : Int) (σ : zu_m) : zu_rega (zt_T n) c ex 0 zt_m83 [] 400 0 [(0, a0), (0, a1), (0, a2)] [] σ = (if a0 < a1 then (zu_b 0 (some (0, σ))) else (if a2 < a0 then (zu_b 0 (some (0, σ))) else (zu_b 1 (some (1, σ))))) := Eq.trans (Eq.refl _) rfl
set_option maxRecDepth 100000 in
set_option maxHeartbeats 4000000 in
theorem zr_51_0 (n : Nat) (c : zu_C) (ex : zu_I) (a0 : Int) (σ : zu_m) : zu_rega (zt_T n) c ex 0 zt_m51 [] 400 0 [(0, a0)] [] σ = (if a0 < 0 then (zu_b 0 (some (0, σ))) else (if 4 ≤ a0 then (zu_b 0 (some (0, σ))) else (zu_b 1 (some (1, σ))))) := Eq.trans (Eq.refl _) rfl
set_option maxRecDepth 100000 in
set_option maxHeartbeats 4000000 in
theorem zr_52_0 (n : Nat) (c : zu_C) (ex : zu_I) (a0 : Int) (σ : zu_m) : zu_rega (zt_T n) c ex 0 zt_m52 [] 400 0 [(0, a0)] [] σ = (if a0 < 0 then (zu_b 0 (some (0, σ))) else (if 9 < a0 then (zu_b 0 (some (0, σ))) else (zu_b 1 (some (1, σ))))) := Eq.trans (Eq.refl _) rfl
set_option maxRecDepth 100000 in
set_option maxHeartbeats 4000000 in
theorem zr_213_0 (n : Nat) (c : zu_C) (ex : zu_I) (a0 a1 a2 a3 : Int) (σ : zu_m) : zu_rega (zt_T n) c ex 0 zt_m213 [] 400 0 [(27, a0), (0, a1), (0, a2), (0, a3), (2, 0)] [] σ = (if 16 ≤ (σ a0 2) then (some (0, σ)) else (if 0 ≤ (σ a0 2) ∧ (σ a0 2) < 16 then (some (0, (zu_up (zu_up (zu_up (zu_up (zu_up σ ((a0 + 1) + 5 + (σ a0 2)) 0 a1) ((a0 + 1) + 5 + (σ a0 2)) 1 a2) ((a0 + 1) + 5 + (σ a0 2)) 2 a3) ((a0 + 1) + 5 + (σ a0 2)) 3 (-1)) a0 2 (zu_w32 (((zu_up (zu_up (zu_up (zu_up σ ((a0 + 1) + 5 + (σ a0 2)) 0 a1) ((a0 + 1) + 5 + (σ a0 2)) 1 a2) ((a0 + 1) + 5 + (σ a0 2)) 2 a3) ((a0 + 1) + 5 + (σ a0 2)) 3 (-1)) a0 2) + 1))))) else none)) := Eq.trans (Eq.refl _) rfl
set_option maxRecDepth 100000 in
set_option maxHeartbeats 4000000 in
theorem zr_213b_0 (n : Nat) (c : zu_C) (ex : zu_I) (a0 a1 a2 a3 : Int) (σ : zu_m) : zu_rega (zt_T n) c ex 0 zt_m213 [] 400 0 [(16, a0), (0, a1), (0, a2), (0, a3), (2, 0)] [] σ = (if 16 ≤ (σ a0 2) then (some (0, σ)) else (if 0 ≤ (σ a0 2) ∧ (σ a0 2) < 16 then (some (0, (zu_up (zu_up (zu_up (zu_up (zu_up σ (20 + 5 + (σ a0 2)) 0 a1) (20 + 5 + (σ a0 2)) 1 a2) (20 + 5 + (σ a0 2)) 2 a3) (20 + 5 + (σ a0 2)) 3 (-1)) a0 2 (zu_w32 (((zu_up (zu_up (zu_up (zu_up σ (20 + 5 + (σ a0 2)) 0 a1) (20 + 5 + (σ a0 2)) 1 a2) (20 + 5 + (σ a0 2)) 2 a3) (20 + 5 + (σ a0 2)) 3 (-1)) a0 2) + 1))))) else none)) := Eq.trans (Eq.refl _) rfl
set_option maxRecDepth 100000 in
set_option maxHeartbeats 4000000 in
theorem zr_307_0 (n : Nat) (c : zu_C) (ex : zu_I) (a0 : Int) (σ : zu_m) : zu_rega (zt_T n) c ex 2 zt_m307 [] 400 0 [(31, a0)] [] σ = (zu_bd (c 305 [(31, a0), (0, 0), (0, 0), (0, 0), (0, 0)] σ) (fun v5 s5 => (some (0, s5)))) := Eq.trans (Eq.refl _) rfl
set_option maxRecDepth 100000 in
set_option maxHeartbeats 4000000 in
theorem zr_308_0 (n : Nat) (c : zu_C) (ex : zu_I) (a0 a1 : Int) (σ : zu_m) : zu_rega (zt_T n) c ex 2 zt_m308 [] 400 0 [(31, a0), (20, a1)] [] σ = (zu_bd (c 305 [(31, a0), (0, 1), (0, (σ a1 1)), (0, (σ a1 0)), (0, (σ a1 2))] σ) (fun v14 s14 => (some (0, s14)))) := Eq.trans (Eq.refl _) rfl
set_option maxRecDepth 100000 in
set_option maxHeartbeats 4000000 in
theorem zr_309_0 (n : Nat) (c : zu_C) (ex : zu_I) (a0 a1 a2 : Int) (σ : zu_m) : zu_rega (zt_T n) c ex 2 zt_m309 [] 400 0 [(31, a0), (0, a1), (0, a2)] [] σ = (zu_bd (c 305 [(31, a0), (0, 2), (0, a1), (0, a2), (0, 0)] σ) (fun v5 s5 => (some (0, s5)))) := Eq.trans (Eq.refl _) rfl
set_option maxRecDepth 100000 in
set_option maxHeartbeats 4000000 in
theorem zr_310_0 (n : Nat) (c : zu_C) (ex : zu_I) (a0 a1 : Int) (σ : zu_m) : zu_rega (zt_T n) c ex 2 zt_m310 [] 400 0 [(31, a0), (0, a1)] [] σ = (zu_bd (c 305 [(31, a0), (0, 3), (0, a1), (0, 0), (0, 0)] σ) (fun v5 s5 => (some (0, s5)))) := Eq.trans (Eq.refl _) rfl
set_option maxRecDepth 100000 in
set_option maxHeartbeats 4000000 in
theorem zr_53_0 (n : Nat) (c : zu_C) (ex : zu_I) (a0 : Int) (σ : zu_m) : zu_rega (zt_T n) c ex 0 zt_m53 [] 400 0 [(0, a0)] [] σ = (if a0 < 1 then (zu_b 0 (some (0, σ))) else (if 200 < a0 then (zu_b 0 (some (0, σ))) else (zu_b 1 (some (1, σ))))) := Eq.trans (Eq.refl _) rfl
set_option maxRecDepth 100000 in
set_option maxHeartbeats 4000000 in
theorem zr_178_0 (n : Nat) (c : zu_C) (ex : zu_I) (a0 a1 a2 a3 a4 : Int) (σ : zu_m) : zu_rega (zt_T n) c ex 0 zt_m178 [] 400 0 [(40, a0), (0, a1), (0, a2), (0, a3), (0, a4)] [] σ = (if 0 ≤ (zu_w32 (4 * (σ a0 77))) ∧ (zu_w32 (4 * (σ a0 77))) < 96 then (if 0 ≤ (zu_w32 ((zu_w32 (4 * ((zu_up σ 226 (zu_w32 (4 * (σ a0 77))) a1) a0 77))) + 1)) ∧ (zu_w32 ((zu_w32 (4 * ((zu_up σ 226 (zu_w32 (4 * (σ a0 77))) a1) a0 77))) + 1)) < 96 then (if 0 ≤ (zu_w32 ((zu_w32 (4 * ((zu_up (zu_up σ 226 (zu_w32 (4 * (σ a0 77))) a1) 226 (zu_w32 ((zu_w32 (4 * ((zu_up σ 226 (zu_w32 (4 * (σ a0 77))) a1) a0 77))) + 1)) a2) a0 77))) + 2)) ∧ (zu_w32 ((zu_w32 (4 * ((zu_up (zu_up σ 226 (zu_w32 (4 * (σ a0 77))) a1) 226 (zu_w32 ((zu_w32 (4 * ((zu_up σ 226 (zu_w32 (4 * (σ a0 77))) a1) a0 77))) + 1)) a2) a0 77))) + 2)) < 96 then (if 0 ≤ (zu_w32 ((zu_w32 (4 * ((zu_up (zu_up (zu_up σ 226 (zu_w32 (4 * (σ a0 77))) a1) 226 (zu_w32 ((zu_w32 (4 * ((zu_up σ 226 (zu_w32 (4 * (σ a0 77))) a1) a0 77))) + 1)) a2) 226 (zu_w32 ((zu_w32 (4 * ((zu_up (zu_up σ 226 (zu_w32 (4 * (σ a0 77))) a1) 226 (zu_w32 ((zu_w32 (4 * ((zu_up σ 226 (zu_w32 (4 * (σ a0 77))) a1) a0 77))) + 1)) a2) a0 77))) + 2)) a3) a0 77))) + 3)) ∧ (zu_w32 ((zu_w32 (4 * ((zu_up (zu_up (zu_up σ 226 (zu_w32 (4 * (σ a0 77))) a1) 226 (zu_w32 ((zu_w32 (4 * ((zu_up σ 226 (zu_w32 (4 * (σ a0 77))) a1) a0 77))) + 1)) a2) 226 (zu_w32 ((zu_w32 (4 * ((zu_up (zu_up σ 226 (zu_w32 (4 * (σ a0 77))) a1) 226 (zu_w32 ((zu_w32 (4 * ((zu_up σ 226 (zu_w32 (4 * (σ a0 77))) a1) a0 77))) + 1)) a2) a0 77))) + 2)) a3) a0 77))) + 3)) < 96 then (some ((zu_w32 (((zu_up (zu_up (zu_up (zu_up (zu_up σ 226 (zu_w32 (4 * (σ a0 77))) a1) 226 (zu_w32 ((zu_w32 (4 * ((zu_up σ 226 (zu_w32 (4 * (σ a0 77))) a1) a0 77))) + 1)) a2) 226 (zu_w32 ((zu_w32 (4 * ((zu_up (zu_up σ 226 (zu_w32 (4 * (σ a0 77))) a1) 226 (zu_w32 ((zu_w32 (4 * ((zu_up σ 226 (zu_w32 (4 * (σ a0 77))) a1) a0 77))) + 1)) a2) a0 77))) + 2)) a3) 226 (zu_w32 ((zu_w32 (4 * ((zu_up (zu_up (zu_up σ 226 (zu_w32 (4 * (σ a0 77))) a1) 226 (zu_w32 ((zu_w32 (4 * ((zu_up σ 226 (zu_w32 (4 * (σ a0 77))) a1) a0 77))) + 1)) a2) 226 (zu_w32 ((zu_w32 (4 * ((zu_up (zu_up σ 226 (zu_w32 (4 * (σ a0 77))) a1) 226 (zu_w32 ((zu_w32 (4 * ((zu_up σ 226 (zu_w32 (4 * (σ a0 77))) a1) a0 77))) + 1)) a2) a0 77))) + 2)) a3) a0 77))) + 3)) a4) a0 77 (zu_w32 (((zu_up (zu_up (zu_up (zu_up σ 226 (zu_w32 (4 * (σ a0 77))) a1) 226 (zu_w32 ((zu_w32 (4 * ((zu_up σ 226 (zu_w32 (4 * (σ a0 77))) a1) a0 77))) + 1)) a2) 226 (zu_w32 ((zu_w32 (4 * ((zu_up (zu_up σ 226 (zu_w32 (4 * (σ a0 77))) a1) 226 (zu_w32 ((zu_w32 (4 * ((zu_up σ 226 (zu_w32 (4 * (σ a0 77))) a1) a0 77))) + 1)) a2) a0 77))) + 2)) a3) 226 (zu_w32 ((zu_w32 (4 * ((zu_up (zu_up (zu_up σ 226 (zu_w32 (4 * (σ a0 77))) a1) 226 (zu_w32 ((zu_w32 (4 * ((zu_up σ 226 (zu_w32 (4 * (σ a0 77))) a1) a0 77))) + 1)) a2) 226 (zu_w32 ((zu_w32 (4 * ((zu_up (zu_up σ 226 (zu_w32 (4 * (σ a0 77))) a1) 226 (zu_w32 ((zu_w32 (4 * ((zu_up σ 226 (zu_w32 (4 * (σ a0 77))) a1) a0 77))) + 1)) a2) a0 77))) + 2)) a3) a0 77))) + 3)) a4) a0 77) + 1))) a0 77) - 1)), (zu_up (zu_up (zu_up (zu_up (zu_up σ 226 (zu_w32 (4 * (σ a0 77))) a1) 226 (zu_w32 ((zu_w32 (4 * ((zu_up σ 226 (zu_w32 (4 * (σ a0 77))) a1) a0 77))) + 1)) a2) 226 (zu_w32 ((zu_w32 (4 * ((zu_up (zu_up σ 226 (zu_w32 (4 * (σ a0 77))) a1) 226 (zu_w32 ((zu_w32 (4 * ((zu_up σ 226 (zu_w32 (4 * (σ a0 77))) a1) a0 77))) + 1)) a2) a0 77))) + 2)) a3) 226 (zu_w32 ((zu_w32 (4 * ((zu_up (zu_up (zu_up σ 226 (zu_w32 (4 * (σ a0 77))) a1) 226 (zu_w32 ((zu_w32 (4 * ((zu_up σ 226 (zu_w32 (4 * (σ a0 77))) a1) a0 77))) + 1)) a2) 226 (zu_w32 ((zu_w32 (4 * ((zu_up (zu_up σ 226 (zu_w32 (4 * (σ a0 77))) a1) 226 (zu_w32 ((zu_w32 (4 * ((zu_up σ 226 (zu_w32 (4 * (σ a0 77))) a1) a0 77))) + 1)) a2) a0 77))) + 2)) a3) a0 77))) + 3)) a4) a0 77 (zu_w32 (((zu_up (zu_up (zu_up (zu_up σ 226 (zu_w32 (4 * (σ a0 77))) a1) 226 (zu_w32 ((zu_w32 (4 * ((zu_up σ 226 (zu_w32 (4 * (σ a0 77))) a1) a0 77))) + 1)) a2) 226 (zu_w32 ((zu_w32 (4 * ((zu_up (zu_up σ 226 (zu_w32 (4 * (σ a0 77))) a1) 226 (zu_w32 ((zu_w32 (4 * ((zu_up σ 226 (zu_w32 (4 * (σ a0 77))) a1) a0 77))) + 1)) a2) a0 77))) + 2)) a3) 226 (zu_w32 ((zu_w32 (4 * ((zu_up (zu_up (zu_up σ 226 (zu_w32 (4 * (σ a0 77))) a1) 226 (zu_w32 ((zu_w32 (4 * ((zu_up σ 226 (zu_w32 (4 * (σ a0 77))) a1) a0 77))) + 1)) a2) 226 (zu_w32 ((zu_w32 (4 * ((zu_up (zu_up σ 226 (zu_w32 (4 * (σ a0 77))) a1) 226 (zu_w32 ((zu_w32 (4 * ((zu_up σ 226 (zu_w32 (4 * (σ a0 77))) a1) a0 77))) + 1)) a2) a0 77))) + 2)) a3) a0 77))) + 3)) a4) a0 77) + 1))))) else none) else none) else none) else none) := Eq.trans (Eq.refl _) rfl
set_option maxRecDepth 100000 in
set_option maxHeartbeats 4000000 in
theorem zr_182_0 (n : Nat) (c : zu_C) (ex : zu_I) (a0 : Int) (σ : zu_m) : zu_rega (zt_T n) c ex 0 zt_m182 [] 400 0 [(40, a0)] [] σ = (if 0 ≤ (σ a0 78) then (some ((σ a0 78), σ)) else (some ((σ a0 77), σ))) := Eq.trans (Eq.refl _) rfl
set_option maxRecDepth 100000 in
set_option maxHeartbeats 4000000 in
theorem zr_271_0 (n : Nat) (c : zu_C) (ex : zu_I) (a0 : Int) (σ : zu_m) : zu_rega (zt_T n) c ex 0 zt_m271 [] 400 0 [(28, a0)] [] σ = (if (σ a0 7) ≠ (-1) then (some ((σ a0 7), σ)) else (some ((σ a0 6), σ))) := Eq.trans (Eq.refl _) rfl
set_option maxRecDepth 100000 in
set_option maxHeartbeats 4000000 in
theorem zr_149_0 (n : Nat) (c : zu_C) (ex : zu_I) (a0 a1 a2 a3 a4 : Int) (σ : zu_m) : zu_rega (zt_T n) c ex 0 zt_m149 [] 400 0 [(40, a0), (0, a1), (0, a2), (0, a3), (0, a4), (2, 0)] [] σ = (if 0 ≤ a1 ∧ a1 < 2 then (if 0 ≤ (σ 216 a1) ∧ (σ 216 a1) < 36 then (if 0 ≤ (σ 216 a1) ∧ (σ 216 a1) < 36 then (if 0 ≤ (σ 216 a1) ∧ (σ 216 a1) < 36 then (if 0 ≤ (zu_w32 ((zu_w32 (18 * a1)) + (σ 216 a1))) ∧ (zu_w32 ((zu_w32 (18 * a1)) + (σ 216 a1))) < 36 then (if 0 ≤ a1 ∧ a1 < 2 then (if 0 ≤ a1 ∧ a1 < 2 then (some (0, (zu_up (zu_up (zu_up (zu_up (zu_up σ 197 (σ 216 a1) a2) 198 (σ 216 a1) a3) 199 (σ 216 a1) a4) 215 (zu_w32 ((zu_w32 (18 * a1)) + (σ 216 a1))) (-1)) 216 a1 (zu_w32 (((zu_up (zu_up (zu_up (zu_up σ 197 (σ 216 a1) a2) 198 (σ 216 a1) a3) 199 (σ 216 a1) a4) 215 (zu_w32 ((zu_w32 (18 * a1)) + (σ 216 a1))) (-1)) 216 a1) + 1))))) else none) else none) else none) else none) else none) else none) else none) := Eq.trans (Eq.refl _) rfl
set_option maxRecDepth 100000 in
set_option maxHeartbeats 4000000 in
theorem zr_128_0 (n : Nat) (c : zu_C) (ex : zu_I) (a0 a1 : Int) (σ : zu_m) : zu_rega (zt_T n) c ex 0 zt_m128 [] 400 0 [(40, a0), (0, a1)] [] σ = (if (σ a0 68) = 0 then (if 0 ≤ a1 ∧ a1 < 8 then (some ((σ 202 a1), σ)) else none) else (some (11, σ))) := Eq.trans (Eq.refl _) rfl
