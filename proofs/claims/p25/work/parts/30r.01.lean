set_option maxRecDepth 100000 in
set_option maxHeartbeats 4000000 in
theorem zr_248_0 (n : Nat) (c : zu_C) (ex : zu_I) (a0 a1 : Int) (σ : zu_m) : zu_rega (zt_T n) c ex 0 zt_m248 [] 400 0 [(8, a0), (0, a1)] [] σ = (if 0 ≤ (6 : Int) ∧ (6 : Int) < 7 then (some (0, (zu_up σ (a0 + 12) 6 a1))) else none) := Eq.trans (Eq.refl _) rfl
set_option maxRecDepth 100000 in
set_option maxHeartbeats 4000000 in
theorem zr_217_0 (n : Nat) (c : zu_C) (ex : zu_I) (a0 a1 a2 : Int) (σ : zu_m) : zu_rega (zt_T n) c ex 0 zt_m217 [] 400 0 [(27, a0), (0, a1), (0, a2)] [] σ = (if (σ a0 10) ≠ 1 then (zu_b 1 (some (1, σ))) else (if (4 : Int) = 0 then none else (if a2 ≠ (Int.tmod a1 4) then (zu_b 0 (some (0, σ))) else (zu_b 1 (some (1, σ)))))) := Eq.trans (Eq.refl _) rfl
set_option maxRecDepth 100000 in
set_option maxHeartbeats 4000000 in
theorem zr_249_0 (n : Nat) (c : zu_C) (ex : zu_I) (a0 a1 : Int) (σ : zu_m) : zu_rega (zt_T n) c ex 2 zt_m249 [] 400 0 [(8, a0), (0, a1)] [] σ = (zu_bd (c 26 [(10, (a0 + 4)), (0, a1), (15, (a0 + 12))] σ) (fun v9 s9 => (some (v9, s9)))) := Eq.trans (Eq.refl _) rfl
set_option maxRecDepth 100000 in
set_option maxHeartbeats 4000000 in
theorem zr_87_0 (n : Nat) (c : zu_C) (ex : zu_I) (a0 a1 : Int) (σ : zu_m) : zu_rega (zt_T n) c ex 0 zt_m87 [] 400 0 [(40, a0), (0, a1)] [] σ = (if (σ a0 6) ≤ a1 then (zu_b 0 (some (0, σ))) else (if 0 ≤ a1 ∧ a1 < 700 then (if (σ 191 a1) < 97 then (zu_b 0 (some (0, σ))) else (if 0 ≤ a1 ∧ a1 < 700 then (if 122 < (σ 191 a1) then (zu_b 0 (some (0, σ))) else (zu_b 1 (some (1, σ)))) else none)) else none)) := Eq.trans (Eq.refl _) rfl
set_option maxRecDepth 100000 in
set_option maxHeartbeats 4000000 in
theorem zr_88_0 (n : Nat) (c : zu_C) (ex : zu_I) (a0 a1 : Int) (σ : zu_m) : zu_rega (zt_T n) c ex 0 zt_m88 [] 400 0 [(40, a0), (0, a1)] [] σ = (if (σ a0 6) ≤ a1 then (zu_b 0 (some (0, σ))) else (if 0 ≤ a1 ∧ a1 < 700 then (if (σ 191 a1) < 48 then (zu_b 0 (some (0, σ))) else (if 0 ≤ a1 ∧ a1 < 700 then (if 57 < (σ 191 a1) then (zu_b 0 (some (0, σ))) else (zu_b 1 (some (1, σ)))) else none)) else none)) := Eq.trans (Eq.refl _) rfl
set_option maxRecDepth 100000 in
set_option maxHeartbeats 4000000 in
theorem zr_253_0 (n : Nat) (c : zu_C) (ex : zu_I) (a0 a1 : Int) (σ : zu_m) : zu_rega (zt_T n) c ex 0 zt_m253 [] 400 0 [(1, a0), (2, 0), (0, a1)] [] σ = (some ((zu_w32 (zu_max 0 (zu_min a1 a0))), σ)) := Eq.trans (Eq.refl _) rfl
set_option maxRecDepth 100000 in
set_option maxHeartbeats 4000000 in
theorem zr_85_0 (n : Nat) (c : zu_C) (ex : zu_I) (a0 a1 : Int) (σ : zu_m) : zu_rega (zt_T n) c ex 0 zt_m85 [] 400 0 [(40, a0), (0, a1)] [] σ = (zu_b 0 (some (0, (zu_up (zu_up σ a0 4 a1) a0 5 ((zu_up σ a0 4 a1) a0 10))))) := Eq.trans (Eq.refl _) rfl
set_option maxRecDepth 100000 in
set_option maxHeartbeats 4000000 in
theorem zr_98_0 (n : Nat) (c : zu_C) (ex : zu_I) (a0 a1 : Int) (σ : zu_m) : zu_rega (zt_T n) c ex 2 zt_m98 [] 400 0 [(40, a0), (0, a1)] [] σ = (if 0 ≤ a1 ∧ a1 < 6 then (if (σ 193 a1) = 0 then (zu_b 1 (if 0 ≤ a1 ∧ a1 < 6 then (zu_bd (c 89 [(40, a0)] (zu_up σ 193 a1 1)) (fun v23 s23 => (zu_b 1 (some (1, s23))))) else none)) else (zu_bd (c 85 [(40, a0), (0, 3)] σ) (fun v11 s11 => (zu_b v11 (some (v11, s11)))))) else none) := Eq.trans (Eq.refl _) rfl
set_option maxRecDepth 100000 in
set_option maxHeartbeats 4000000 in
theorem zr_97_0 (n : Nat) (c : zu_C) (ex : zu_I) (a0 a1 a2 : Int) (σ : zu_m) : zu_rega (zt_T n) c ex 2 zt_m97 [] 400 0 [(40, a0), (0, a1), (0, a2), (2, 0)] [] σ = (if (σ a0 8) ≠ 1 then (zu_bd (c 85 [(40, a0), (0, 1)] σ) (fun v26 s26 => (zu_b v26 (some (v26, s26))))) else (if (σ a0 9) < a1 then (zu_bd (c 85 [(40, a0), (0, 1)] σ) (fun v26 s26 => (zu_b v26 (some (v26, s26))))) else (if (σ a0 9) ≤ a2 then (zu_bd (c 89 [(40, a0)] σ) (fun v38 s38 => (zu_b 1 (some (1, (zu_up s38 a0 11 (zu_w32 ((σ a0 9) - a1)))))))) else (zu_bd (c 85 [(40, a0), (0, 1)] σ) (fun v26 s26 => (zu_b v26 (some (v26, s26)))))))) := Eq.trans (Eq.refl _) rfl
set_option maxRecDepth 100000 in
set_option maxHeartbeats 4000000 in
theorem zr_94_0 (n : Nat) (c : zu_C) (ex : zu_I) (a0 a1 a2 : Int) (σ : zu_m) : zu_rega (zt_T n) c ex 2 zt_m94 [] 400 0 [(40, a0), (0, a1), (0, a2)] [] σ = (if (σ a0 8) = 3 then (zu_bd (c 83 [(0, (σ a0 9)), (0, a1), (0, a2)] σ) (fun v20 s20 => (if v20 ≠ 0 then (zu_bd (c 89 [(40, a0)] (zu_up s20 a0 11 (s20 a0 9))) (fun v41 s41 => (zu_b 1 (some (1, s41))))) else (zu_bd (c 85 [(40, a0), (0, 2)] s20) (fun v28 s28 => (zu_b v28 (some (v28, s28)))))))) else (zu_bd (c 85 [(40, a0), (0, 1)] σ) (fun v10 s10 => (zu_b v10 (some (v10, s10)))))) := Eq.trans (Eq.refl _) rfl
set_option maxRecDepth 100000 in
set_option maxHeartbeats 4000000 in
theorem zr_96_0 (n : Nat) (c : zu_C) (ex : zu_I) (a0 : Int) (σ : zu_m) : zu_rega (zt_T n) c ex 3 zt_m96 [] 400 0 [(40, a0), (2, 0)] [] σ = (zu_b 1 (zu_bd (c 94 [(40, a0), (0, 0), (0, (zu_w32 (((zu_up σ a0 23 1) a0 17) - 1)))] (zu_up σ a0 23 1)) (fun v13 s13 => (if v13 ≠ 0 then (zu_bd (c 94 [(40, a0), (0, 0), (0, (zu_w32 (((zu_up s13 a0 42 (s13 a0 10)) a0 18) - 1)))] (zu_up s13 a0 42 (s13 a0 10))) (fun v42 s42 => (if v42 ≠ 0 then (zu_b 1 (some (1, (zu_up s42 a0 11 (zu_w32 ((zu_w32 ((s42 a0 17) * (s42 a0 11))) + (s13 a0 11))))))) else (zu_b 0 (some (0, s42)))))) else (zu_b 0 (some (0, s13))))))) := Eq.trans (Eq.refl _) rfl
set_option maxRecDepth 100000 in
set_option maxHeartbeats 4000000 in
theorem zr_93_0 (n : Nat) (c : zu_C) (ex : zu_I) (a0 a1 : Int) (σ : zu_m) : zu_rega (zt_T n) c ex 0 zt_m93 [] 400 0 [(40, a0), (0, a1)] [] σ = (if (σ a0 8) ≠ 4 then (zu_b 0 (some (0, σ))) else (if (σ a0 9) ≠ a1 then (zu_b 0 (some (0, σ))) else (zu_b 1 (some (1, σ))))) := Eq.trans (Eq.refl _) rfl
set_option maxRecDepth 100000 in
set_option maxHeartbeats 4000000 in
theorem zr_275_0 (n : Nat) (c : zu_C) (ex : zu_I) (a0 a1 : Int) (σ : zu_m) : zu_rega (zt_T n) c ex 0 zt_m275 [] 400 0 [(28, a0), (0, a1)] [] σ = (if 0 ≤ a1 ∧ a1 < 24 then (if (σ 147 a1) ≠ 0 then (zu_b 0 (some (0, σ))) else (if 0 ≤ a1 ∧ a1 < 24 then (if (σ 146 a1) ≠ (-1) then (zu_b 0 (some (0, σ))) else (zu_b 1 (some (1, σ)))) else none)) else none) := Eq.trans (Eq.refl _) rfl
set_option maxRecDepth 100000 in
set_option maxHeartbeats 4000000 in
theorem zr_92_0 (n : Nat) (c : zu_C) (ex : zu_I) (a0 a1 : Int) (σ : zu_m) : zu_rega (zt_T n) c ex 0 zt_m92 [] 400 0 [(40, a0), (0, a1)] [] σ = (if (σ a0 8) ≠ 1 then (zu_b 0 (some (0, σ))) else (if (σ a0 9) ≠ a1 then (zu_b 0 (some (0, σ))) else (zu_b 1 (some (1, σ))))) := Eq.trans (Eq.refl _) rfl
set_option maxRecDepth 100000 in
set_option maxHeartbeats 4000000 in
theorem zr_109_0 (n : Nat) (c : zu_C) (ex : zu_I) (a0 : Int) (σ : zu_m) : zu_rega (zt_T n) c ex 0 zt_m109 [] 400 0 [(0, a0)] [] σ = (if a0 < 13 then (if a0 < 11 then (if a0 < 5 then (if a0 ≠ 2 then (if a0 ≠ 3 then (if a0 ≠ 4 then (some (0, σ)) else (some (1, σ))) else (some (2, σ))) else (some (3, σ))) else (some (4, σ))) else (some (5, σ))) else (some (6, σ))) := Eq.trans (Eq.refl _) rfl
set_option maxRecDepth 100000 in
set_option maxHeartbeats 4000000 in
theorem zr_115_0 (n : Nat) (c : zu_C) (ex : zu_I) (a0 : Int) (σ : zu_m) : zu_rega (zt_T n) c ex 0 zt_m115 [] 400 0 [(40, a0)] [] σ = (if (σ a0 8) ≠ 1 then (some ((-1), σ)) else (if (σ a0 9) < 26 then (some ((-1), σ)) else (some ((zu_w32 ((σ a0 9) - 26)), σ)))) := Eq.trans (Eq.refl _) rfl
set_option maxRecDepth 100000 in
set_option maxHeartbeats 4000000 in
theorem zr_113_0 (n : Nat) (c : zu_C) (ex : zu_I) (a0 : Int) (σ : zu_m) : zu_rega (zt_T n) c ex 1 zt_m113 [] 400 0 [(40, a0)] [] σ = (if (σ a0 48) ≠ 64 then (zu_b 1 (some (1, (zu_up σ a0 48 (zu_w32 ((σ a0 48) + 1)))))) else (zu_bd (c 85 [(40, a0), (0, 2)] σ) (fun v11 s11 => (zu_b v11 (some (v11, s11)))))) := Eq.trans (Eq.refl _) rfl
set_option maxRecDepth 100000 in
set_option maxHeartbeats 4000000 in
theorem zr_114_0 (n : Nat) (c : zu_C) (ex : zu_I) (a0 a1 : Int) (σ : zu_m) : zu_rega (zt_T n) c ex 0 zt_m114 [] 400 0 [(40, a0), (0, a1)] [] σ = (if 0 ≤ (σ a0 45) ∧ (σ a0 45) < 96 then (some (0, (zu_up (zu_up σ 211 (σ a0 45) a1) a0 45 (zu_w32 (((zu_up σ 211 (σ a0 45) a1) a0 45) + 1))))) else none) := Eq.trans (Eq.refl _) rfl
set_option maxRecDepth 100000 in
set_option maxHeartbeats 4000000 in
theorem zr_111_0 (n : Nat) (c : zu_C) (ex : zu_I) (a0 : Int) (σ : zu_m) : zu_rega (zt_T n) c ex 0 zt_m111 [] 400 0 [(40, a0)] [] σ = (if 0 ≤ ((zu_up σ a0 46 (zu_w32 ((σ a0 46) - 1))) a0 46) ∧ ((zu_up σ a0 46 (zu_w32 ((σ a0 46) - 1))) a0 46) < 96 then (some (((zu_up σ a0 46 (zu_w32 ((σ a0 46) - 1))) 212 ((zu_up σ a0 46 (zu_w32 ((σ a0 46) - 1))) a0 46)), (zu_up σ a0 46 (zu_w32 ((σ a0 46) - 1))))) else none) := Eq.trans (Eq.refl _) rfl
set_option maxRecDepth 100000 in
set_option maxHeartbeats 4000000 in
theorem zr_279_0 (n : Nat) (c : zu_C) (ex : zu_I) (a0 a1 a2 : Int) (σ : zu_m) : zu_rega (zt_T n) c ex 0 zt_m279 [] 400 0 [(22, a0), (0, a1), (0, a2)] [] σ = (if (σ a0 4) ≠ 1 then (zu_b 0 (some (0, σ))) else (if (σ a0 5) < a1 then (zu_b 0 (some (0, σ))) else (if (zu_w32 (a1 + a2)) ≤ (σ a0 5) then (zu_b 0 (some (0, σ))) else (zu_b 1 (some (1, σ)))))) := Eq.trans (Eq.refl _) rfl
set_option maxRecDepth 100000 in
set_option maxHeartbeats 4000000 in
theorem zr_257_0 (n : Nat) (c : zu_C) (ex : zu_I) (a0 a1 : Int) (σ : zu_m) : zu_rega (zt_T n) c ex 0 zt_m257 [] 400 0 [(7, a0), (0, a1)] [] σ = (zu_b 0 (some (0, (zu_up (zu_up σ a0 9 a1) a0 10 ((zu_up σ a0 9 a1) 45 6))))) := Eq.trans (Eq.refl _) rfl
set_option maxRecDepth 100000 in
set_option maxHeartbeats 4000000 in
theorem zr_263_0 (n : Nat) (c : zu_C) (ex : zu_I) (a0 a1 : Int) (σ : zu_m) : zu_rega (zt_T n) c ex 1 zt_m263 [] 400 0 [(7, a0), (0, a1)] [] σ = (if (zu_i32 3 (zu_i32 6 (σ a0 4) a1) 1) ≠ 1 then (zu_b 1 (some (1, (zu_up σ a0 4 (zu_i32 4 (σ a0 4) (zu_i32 5 1 a1)))))) else (zu_bd (c 257 [(7, a0), (0, 3)] σ) (fun v14 s14 => (zu_b v14 (some (v14, s14)))))) := Eq.trans (Eq.refl _) rfl
set_option maxRecDepth 100000 in
set_option maxHeartbeats 4000000 in
theorem zr_260_0 (n : Nat) (c : zu_C) (ex : zu_I) (a0 a1 a2 : Int) (σ : zu_m) : zu_rega (zt_T n) c ex 2 zt_m260 [] 400 0 [(7, a0), (0, a1), (0, a2)] [] σ = (zu_bd (c 18 [(22, 45)] σ) (fun v4 s4 => (if (s4 45 4) = 3 then (if ((zu_up s4 a0 7 (s4 45 5)) a0 7) < a1 then (zu_bd (c 257 [(7, a0), (0, 2)] (zu_up s4 a0 7 (s4 45 5))) (fun v53 s53 => (if v53 = 0 then (zu_b 0 (some (0, s53))) else (zu_b 1 (some (1, s53)))))) else (if ((zu_up s4 a0 7 (s4 45 5)) a0 7) ≤ a2 then (zu_b 1 (some (1, (zu_up s4 a0 7 (s4 45 5))))) else (zu_bd (c 257 [(7, a0), (0, 2)] (zu_up s4 a0 7 (s4 45 5))) (fun v53 s53 => (if v53 = 0 then (zu_b 0 (some (0, s53))) else (zu_b 1 (some (1, s53)))))))) else (zu_bd (c 257 [(7, a0), (0, 1)] s4) (fun v20 s20 => (zu_b v20 (some (v20, s20)))))))) := Eq.trans (Eq.refl _) rfl
set_option maxRecDepth 100000 in
set_option maxHeartbeats 4000000 in
theorem zr_261_0 (n : Nat) (c : zu_C) (ex : zu_I) (a0 a1 a2 : Int) (σ : zu_m) : zu_rega (zt_T n) c ex 2 zt_m261 [] 400 0 [(7, a0), (0, a1), (0, a2)] [] σ = (zu_bd (c 18 [(22, 45)] σ) (fun v4 s4 => (zu_bd (c 279 [(22, 45), (0, a1), (0, a2)] s4) (fun v13 s13 => (if v13 ≠ 0 then (zu_b 1 (some (1, (zu_up s13 a0 7 (zu_w32 ((s13 45 5) - a1)))))) else (zu_bd (c 257 [(7, a0), (0, 1)] s13) (fun v21 s21 => (zu_b v21 (some (v21, s21)))))))))) := Eq.trans (Eq.refl _) rfl
set_option maxRecDepth 100000 in
set_option maxHeartbeats 4000000 in
theorem zr_262_0 (n : Nat) (c : zu_C) (ex : zu_I) (a0 : Int) (σ : zu_m) : zu_rega (zt_T n) c ex 3 zt_m262 [] 400 0 [(7, a0), (2, 0)] [] σ = (zu_b 1 (zu_bd (c 260 [(7, a0), (0, 0), (0, (zu_w32 (((zu_up σ a0 6 1) 6 0) - 1)))] (zu_up σ a0 6 1)) (fun v16 s16 => (if v16 ≠ 0 then (zu_bd (c 260 [(7, a0), (0, 0), (0, (zu_w32 ((s16 6 1) - 1)))] s16) (fun v40 s40 => (if v40 ≠ 0 then (zu_b 1 (some (1, (zu_up s40 a0 8 (zu_w32 ((zu_w32 ((s40 a0 7) * (s40 6 0))) + (s16 a0 7))))))) else (zu_b 0 (some (0, s40)))))) else (zu_b 0 (some (0, s16))))))) := Eq.trans (Eq.refl _) rfl
set_option maxRecDepth 100000 in
set_option maxHeartbeats 4000000 in
theorem zr_269_0 (n : Nat) (c : zu_C) (ex : zu_I) (a0 a1 : Int) (σ : zu_m) : zu_rega (zt_T n) c ex 0 zt_m269 [] 400 0 [(7, a0), (0, a1)] [] σ = (if a1 ≠ 6 then (if a1 ≠ 7 then (if a1 ≠ 8 then (if a1 ≠ 9 then (if a1 ≠ 10 then (zu_b 1 (some (1, σ))) else (zu_b 1 (some (1, (zu_up σ 6 5 (σ a0 7)))))) else (zu_b 1 (some (1, (zu_up σ 19 11 (σ a0 7)))))) else (zu_b 1 (some (1, (zu_up σ 6 4 (σ a0 7)))))) else (zu_b 1 (some (1, (zu_up σ 6 3 (σ a0 7)))))) else (zu_b 1 (some (1, (zu_up σ 19 10 (σ a0 7)))))) := Eq.trans (Eq.refl _) rfl
set_option maxRecDepth 100000 in
set_option maxHeartbeats 4000000 in
theorem zr_278_0 (n : Nat) (c : zu_C) (ex : zu_I) (a0 a1 : Int) (σ : zu_m) : zu_rega (zt_T n) c ex 0 zt_m278 [] 400 0 [(22, a0), (0, a1)] [] σ = (if (σ a0 4) ≠ 4 then (zu_b 0 (some (0, σ))) else (if (σ a0 5) ≠ a1 then (zu_b 0 (some (0, σ))) else (zu_b 1 (some (1, σ))))) := Eq.trans (Eq.refl _) rfl
set_option maxRecDepth 100000 in
set_option maxHeartbeats 4000000 in
theorem zr_201_0 (n : Nat) (c : zu_C) (ex : zu_I) (a0 : Int) (σ : zu_m) : zu_rega (zt_T n) c ex 1 zt_m201 [] 400 0 [(24, a0)] [] σ = (if (σ a0 4) < 8 then (zu_b 0 (if 0 ≤ ((zu_up σ a0 4 (zu_w32 ((σ a0 4) + 1))) a0 4) ∧ ((zu_up σ a0 4 (zu_w32 ((σ a0 4) + 1))) a0 4) < 9 then (zu_b 1 (zu_bd (c 205 [(24, a0), (0, 1)] (zu_up (zu_up (zu_up σ a0 4 (zu_w32 ((σ a0 4) + 1))) 49 ((zu_up σ a0 4 (zu_w32 ((σ a0 4) + 1))) a0 4) 0) a0 7 1)) (fun v38 s38 => (some (v38, s38))))) else none)) else (some (2, σ))) := Eq.trans (Eq.refl _) rfl
set_option maxRecDepth 100000 in
set_option maxHeartbeats 4000000 in
theorem zr_205_0 (n : Nat) (c : zu_C) (ex : zu_I) (a0 a1 : Int) (σ : zu_m) : zu_rega (zt_T n) c ex 0 zt_m205 [] 400 0 [(24, a0), (0, a1)] [] σ = (if (σ a0 3) < 72 then (if 0 ≤ (σ a0 3) ∧ (σ a0 3) < 72 then (some (0, (zu_up (zu_up σ 48 (σ a0 3) a1) a0 3 (zu_w32 (((zu_up σ 48 (σ a0 3) a1) a0 3) + 1))))) else none) else (some (2, σ))) := Eq.trans (Eq.refl _) rfl
