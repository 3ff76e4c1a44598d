set_option maxRecDepth 100000 in
set_option maxHeartbeats 4000000 in
theorem zr_126_0 (n : Nat) (c : zu_C) (ex : zu_I) (a0 : Int) (σ : zu_m) : zu_rega (zt_T n) c ex 1 zt_m126 [2, 43] 400 0 [(40, a0), (2, 0)] [] σ = (ex 2 [(40, a0), (0, 0)] [] σ) := Eq.trans (Eq.refl _) rfl
set_option maxRecDepth 100000 in
set_option maxHeartbeats 4000000 in
theorem zr_126_2 (n : Nat) (c : zu_C) (ex : zu_I) (a0 x1 : Int) (σ : zu_m) : zu_rega (zt_T n) c ex 1 zt_m126 [2, 43] 400 2 [(40, a0), (0, x1)] [] σ = (if 18 ≤ x1 then (if 0 ≤ (0 : Int) ∧ (0 : Int) < 2 then (if 0 ≤ (1 : Int) ∧ (1 : Int) < 2 then (ex 43 [(40, a0), (0, 0)] [] (zu_up σ 216 1 (σ 216 0))) else none) else none) else (if 0 ≤ x1 ∧ x1 < 36 then (if 0 ≤ (zu_w32 (18 + x1)) ∧ (zu_w32 (18 + x1)) < 36 then (ex 2 [(40, a0), (0, (zu_w32 (x1 + 1)))] [] (zu_up σ 215 (zu_w32 (18 + x1)) (σ 215 x1))) else none) else none)) := Eq.trans (Eq.refl _) rfl
set_option maxRecDepth 100000 in
set_option maxHeartbeats 4000000 in
theorem zr_126_43 (n : Nat) (c : zu_C) (ex : zu_I) (a0 x1 : Int) (σ : zu_m) : zu_rega (zt_T n) c ex 1 zt_m126 [2, 43] 400 43 [(40, a0), (0, x1)] [] σ = (if 4 ≤ x1 then (if 0 ≤ (0 : Int) ∧ (0 : Int) < 2 then (if 0 ≤ (1 : Int) ∧ (1 : Int) < 2 then (if 0 ≤ (0 : Int) ∧ (0 : Int) < 2 then (if 0 ≤ (1 : Int) ∧ (1 : Int) < 2 then (zu_bd (c 35 [(40, a0)] (zu_up (zu_up σ 220 1 (σ 220 0)) 221 1 ((zu_up σ 220 1 (σ 220 0)) 221 0))) (fun v107 s107 => (some (0, s107)))) else none) else none) else none) else none) else (if 0 ≤ x1 ∧ x1 < 8 then (if 0 ≤ (zu_w32 (4 + x1)) ∧ (zu_w32 (4 + x1)) < 8 then (if 0 ≤ x1 ∧ x1 < 8 then (if 0 ≤ (zu_w32 (4 + x1)) ∧ (zu_w32 (4 + x1)) < 8 then (ex 43 [(40, a0), (0, (zu_w32 (x1 + 1)))] [] (zu_up (zu_up σ 217 (zu_w32 (4 + x1)) (σ 217 x1)) 218 (zu_w32 (4 + x1)) ((zu_up σ 217 (zu_w32 (4 + x1)) (σ 217 x1)) 218 x1))) else none) else none) else none) else none)) := Eq.trans (Eq.refl _) rfl
set_option maxRecDepth 100000 in
set_option maxHeartbeats 4000000 in
theorem zr_134_0 (n : Nat) (c : zu_C) (ex : zu_I) (a0 a1 a2 : Int) (σ : zu_m) : zu_rega (zt_T n) c ex 1 zt_m134 [] 400 0 [(40, a0), (0, a1), (0, a2)] [] σ = (if (σ a0 64) ≠ 2 then (zu_b 1 (some (1, σ))) else (zu_bd (c 128 [(40, a0), (0, a1)] σ) (fun v10 s10 => (if v10 < 8 then (zu_b 1 (some (1, s10))) else (if (s10 a0 12) = 0 then none else (if 0 ≤ (1 : Int) ∧ (1 : Int) < 10 then (if (zu_w32 (Int.tdiv a2 (s10 a0 12))) < (s10 194 1) then (zu_b 0 (some (0, s10))) else (zu_b 1 (some (1, s10)))) else none)))))) := Eq.trans (Eq.refl _) rfl
set_option maxRecDepth 100000 in
set_option maxHeartbeats 4000000 in
theorem zr_141_0 (n : Nat) (c : zu_C) (ex : zu_I) (a0 a1 : Int) (σ : zu_m) : zu_rega (zt_T n) c ex 1 zt_m141 [8] 400 0 [(40, a0), (0, a1), (2, 0), (2, 0), (2, 0), (2, 0)] [] σ = (ex 8 [(40, a0), (0, a1), (0, 0), (0, 99), (0, 0), (2, 0)] [] σ) := Eq.trans (Eq.refl _) rfl
set_option maxRecDepth 100000 in
set_option maxHeartbeats 4000000 in
theorem zr_141_8 (n : Nat) (c : zu_C) (ex : zu_I) (a0 a1 x2 x3 x4 : Int) (σ : zu_m) : zu_rega (zt_T n) c ex 1 zt_m141 [8] 400 8 [(40, a0), (0, a1), (0, x2), (0, x3), (0, x4), (2, 0)] [] σ = (if (σ a0 15) ≤ x4 then (if (σ a0 15) ≠ 0 then (some ((zu_w32 (x2 - x3)), σ)) else (some (0, σ))) else (zu_bd (c 130 [(40, a0), (0, a1), (0, x4)] σ) (fun v21 s21 => (if v21 ≤ x2 then (if x3 ≤ v21 then (ex 8 [(40, a0), (0, a1), (0, x2), (0, x3), (0, (zu_w32 (x4 + 1))), (0, v21)] [] s21) else (ex 8 [(40, a0), (0, a1), (0, x2), (0, v21), (0, (zu_w32 (x4 + 1))), (0, v21)] [] s21)) else (if x3 ≤ v21 then (ex 8 [(40, a0), (0, a1), (0, v21), (0, x3), (0, (zu_w32 (x4 + 1))), (0, v21)] [] s21) else (ex 8 [(40, a0), (0, a1), (0, v21), (0, v21), (0, (zu_w32 (x4 + 1))), (0, v21)] [] s21)))))) := Eq.trans (Eq.refl _) rfl
set_option maxRecDepth 100000 in
set_option maxHeartbeats 4000000 in
theorem zr_144_0 (n : Nat) (c : zu_C) (ex : zu_I) (a0 a1 a2 : Int) (σ : zu_m) : zu_rega (zt_T n) c ex 1 zt_m144 [] 400 0 [(40, a0), (0, a1), (0, a2)] [] σ = (zu_bd (c 124 [(40, a0), (0, a1)] (zu_up σ a0 2 0)) (fun v7 s7 => (if v7 ≠ 0 then (if a2 = 0 then (if 0 ≤ a1 ∧ a1 < 36 then (some ((s7 197 a1), s7)) else none) else (if a2 = 1 then (if 0 ≤ a1 ∧ a1 < 36 then (some ((s7 198 a1), s7)) else none) else (if a2 = 2 then (if 0 ≤ a1 ∧ a1 < 36 then (some ((s7 199 a1), s7)) else none) else (if a2 = 3 then (if 0 ≤ a1 ∧ a1 < 36 then (some ((s7 215 a1), s7)) else none) else (some ((-4), s7)))))) else (some ((-4), s7))))) := Eq.trans (Eq.refl _) rfl
set_option maxRecDepth 100000 in
set_option maxHeartbeats 4000000 in
theorem zr_156_0 (n : Nat) (c : zu_C) (ex : zu_I) (a0 : Int) (σ : zu_m) : zu_rega (zt_T n) c ex 1 zt_m156 [6] 400 0 [(40, a0), (2, 0)] [] σ = (zu_bd (c 35 [(40, a0)] σ) (fun v1 s1 => (ex 6 [(40, a0), (0, 0)] [] s1))) := Eq.trans (Eq.refl _) rfl
set_option maxRecDepth 100000 in
set_option maxHeartbeats 4000000 in
theorem zr_156_6 (n : Nat) (c : zu_C) (ex : zu_I) (a0 x1 : Int) (σ : zu_m) : zu_rega (zt_T n) c ex 1 zt_m156 [6] 400 6 [(40, a0), (0, x1)] [] σ = (if 48 ≤ x1 then (some (0, σ)) else (if 0 ≤ x1 ∧ x1 < 48 then (if 0 ≤ x1 ∧ x1 < 48 then (ex 6 [(40, a0), (0, (zu_w32 (x1 + 1)))] [] (zu_up σ 223 x1 (σ 222 x1))) else none) else none)) := Eq.trans (Eq.refl _) rfl
set_option maxRecDepth 100000 in
set_option maxHeartbeats 4000000 in
theorem zr_166_0 (n : Nat) (c : zu_C) (ex : zu_I) (a0 : Int) (σ : zu_m) : zu_rega (zt_T n) c ex 1 zt_m166 [7, 31] 400 0 [(40, a0), (2, 0), (2, 0), (2, 0), (2, 0)] [] σ = (ex 7 [(40, a0), (1, 0), (2, 0), (2, 0), (2, 0)] [] (zu_up σ a0 75 0)) := Eq.trans (Eq.refl _) rfl
set_option maxRecDepth 100000 in
set_option maxHeartbeats 4000000 in
theorem zr_166_7 (n : Nat) (c : zu_C) (ex : zu_I) (a0 x1 : Int) (σ : zu_m) : zu_rega (zt_T n) c ex 1 zt_m166 [7, 31] 400 7 [(40, a0), (1, x1), (2, 0), (2, 0), (2, 0)] [] σ = (if 4 ≤ (σ a0 75) then (some (0, σ)) else (zu_bd (c 36 [(40, a0)] σ) (fun v20 s20 => (if v20 ≤ (σ a0 75) then (some (0, s20)) else (ex 31 [(40, a0), (1, x1), (2, 0), (0, (-1)), (0, 0)] [] s20))))) := Eq.trans (Eq.refl _) rfl
set_option maxRecDepth 100000 in
set_option maxHeartbeats 4000000 in
theorem zr_166_31 (n : Nat) (c : zu_C) (ex : zu_I) (a0 x1 x3 x4 : Int) (σ : zu_m) : zu_rega (zt_T n) c ex 1 zt_m166 [7, 31] 400 31 [(40, a0), (1, x1), (2, 0), (0, x3), (0, x4)] [] σ = (zu_bd (c 36 [(40, a0)] σ) (fun v34 s34 => (if v34 ≤ x4 then (if 0 ≤ (s34 a0 75) ∧ (s34 a0 75) < 4 then (ex 7 [(40, a0), (1, (zu_i64 4 x1 (zu_shl 1 x3))), (2, 0), (0, x3), (0, x4)] [] (zu_up (zu_up s34 224 (s34 a0 75) x3) a0 75 (zu_w32 (((zu_up s34 224 (s34 a0 75) x3) a0 75) + 1)))) else none) else (zu_bd (c 84 [(1, x1), (0, x4)] s34) (fun v43 s43 => (if v43 ≠ 0 then (ex 31 [(40, a0), (1, x1), (2, 0), (0, x3), (0, (zu_w32 (x4 + 1)))] [] s43) else (if x3 < 0 then (ex 31 [(40, a0), (1, x1), (2, 0), (0, x4), (0, (zu_w32 (x4 + 1)))] [] s43) else (if 0 ≤ x4 ∧ x4 < 48 then (if 0 ≤ x3 ∧ x3 < 48 then (if (s43 222 x4) ≤ (s43 222 x3) then (ex 31 [(40, a0), (1, x1), (2, 0), (0, x3), (0, (zu_w32 (x4 + 1)))] [] s43) else (ex 31 [(40, a0), (1, x1), (2, 0), (0, x4), (0, (zu_w32 (x4 + 1)))] [] s43)) else none) else none)))))))) := Eq.trans (Eq.refl _) rfl
set_option maxRecDepth 100000 in
set_option maxHeartbeats 4000000 in
theorem zr_168_0 (n : Nat) (c : zu_C) (ex : zu_I) (a0 a1 a2 : Int) (σ : zu_m) : zu_rega (zt_T n) c ex 1 zt_m168 [2] 400 0 [(40, a0), (0, a1), (0, a2), (2, 0)] [] σ = (ex 2 [(40, a0), (0, a1), (0, a2), (0, 0)] [] σ) := Eq.trans (Eq.refl _) rfl
set_option maxRecDepth 100000 in
set_option maxHeartbeats 4000000 in
theorem zr_168_2 (n : Nat) (c : zu_C) (ex : zu_I) (a0 a1 a2 x3 : Int) (σ : zu_m) : zu_rega (zt_T n) c ex 1 zt_m168 [2] 400 2 [(40, a0), (0, a1), (0, a2), (0, x3)] [] σ = (if (σ a0 75) ≤ x3 then (zu_b 1 (some (1, σ))) else (zu_bd (c 167 [(40, a0), (0, x3), (0, a2)] σ) (fun v13 s13 => (zu_bd (c 167 [(40, a0), (0, a1), (0, a2)] s13) (fun v19 s19 => (if v19 < v13 then (zu_b 0 (some (0, s19))) else (zu_bd (c 167 [(40, a0), (0, x3), (0, a1)] s19) (fun v28 s28 => (zu_bd (c 167 [(40, a0), (0, a2), (0, a1)] s28) (fun v34 s34 => (if v28 ≤ v34 then (ex 2 [(40, a0), (0, a1), (0, a2), (0, (zu_w32 (x3 + 1)))] [] s34) else (zu_b 0 (some (0, s34)))))))))))))) := Eq.trans (Eq.refl _) rfl
set_option maxRecDepth 100000 in
set_option maxHeartbeats 4000000 in
theorem zr_179_0 (n : Nat) (c : zu_C) (ex : zu_I) (a0 a1 a2 a3 a4 : Int) (σ : zu_m) : zu_rega (zt_T n) c ex 1 zt_m179 [] 400 0 [(40, a0), (0, a1), (0, a2), (0, a3), (0, a4)] [] σ = (if ((zu_up σ a0 2 0) a0 77) = 24 then (some ((-1), (zu_up σ a0 2 0))) else (zu_bd (c 83 [(0, a1), (0, 1), (0, 200)] (zu_up σ a0 2 0)) (fun v19 s19 => (if v19 = 0 then (some ((-1), s19)) else (zu_bd (c 125 [(40, a0), (0, a2)] s19) (fun v27 s27 => (if v27 = 0 then (some ((-1), s27)) else (zu_bd (c 83 [(0, a3), (0, 0), (0, 16)] s27) (fun v37 s37 => (if v37 ≠ 0 then (if a4 = 0 then (zu_bd (c 178 [(40, a0), (0, a1), (0, a2), (0, a3), (0, 0)] s37) (fun v61 s61 => (some (v61, s61)))) else (zu_bd (c 178 [(40, a0), (0, a1), (0, a2), (0, a3), (0, 1)] s37) (fun v61 s61 => (some (v61, s61))))) else (some ((-1), s37)))))))))))) := Eq.trans (Eq.refl _) rfl
set_option maxRecDepth 100000 in
set_option maxHeartbeats 4000000 in
theorem zr_180_0 (n : Nat) (c : zu_C) (ex : zu_I) (a0 a1 : Int) (σ : zu_m) : zu_rega (zt_T n) c ex 1 zt_m180 [] 400 0 [(40, a0), (0, a1)] [] σ = (if ((zu_up σ a0 2 0) a0 77) = 24 then (some ((-1), (zu_up σ a0 2 0))) else (if a1 < 0 then (some ((-1), (zu_up σ a0 2 0))) else (if a1 < ((zu_up σ a0 2 0) a0 77) then (zu_bd (c 178 [(40, a0), (0, (-1)), (0, a1), (0, 0), (0, 0)] (zu_up σ a0 2 0)) (fun v35 s35 => (some (v35, s35)))) else (some ((-1), (zu_up σ a0 2 0)))))) := Eq.trans (Eq.refl _) rfl
set_option maxRecDepth 100000 in
set_option maxHeartbeats 4000000 in
theorem zr_181_0 (n : Nat) (c : zu_C) (ex : zu_I) (a0 a1 : Int) (σ : zu_m) : zu_rega (zt_T n) c ex 1 zt_m181 [] 400 0 [(40, a0), (0, a1)] [] σ = (zu_bd (c 83 [(0, a1), (0, (-1)), (0, ((zu_up σ a0 2 0) a0 77))] (zu_up σ a0 2 0)) (fun v11 s11 => (if v11 ≠ 0 then (zu_b 1 (some (1, (zu_up s11 a0 78 a1)))) else (zu_b 0 (some (0, s11)))))) := Eq.trans (Eq.refl _) rfl
set_option maxRecDepth 100000 in
set_option maxHeartbeats 4000000 in
theorem zr_190_0 (n : Nat) (c : zu_C) (ex : zu_I) (a0 : Int) (σ : zu_m) : zu_rega (zt_T n) c ex 1 zt_m190 [11] 400 0 [(40, a0), (2, 0)] [] σ = (if (σ a0 81) ≠ 20 then (zu_bd (c 188 [(40, a0), (51, 228), (0, (zu_w32 (22 * (σ a0 81))))] σ) (fun v61 s61 => (some (0, (zu_up s61 a0 81 (zu_w32 ((s61 a0 81) + 1))))))) else (ex 11 [(40, a0), (0, 0)] [] σ)) := Eq.trans (Eq.refl _) rfl
set_option maxRecDepth 100000 in
set_option maxHeartbeats 4000000 in
theorem zr_190_11 (n : Nat) (c : zu_C) (ex : zu_I) (a0 x1 : Int) (σ : zu_m) : zu_rega (zt_T n) c ex 1 zt_m190 [11] 400 11 [(40, a0), (0, x1)] [] σ = (if 418 ≤ x1 then (zu_bd (c 188 [(40, a0), (51, 228), (0, (zu_w32 (22 * ((zu_up σ a0 81 (zu_w32 ((σ a0 81) - 1))) a0 81))))] (zu_up σ a0 81 (zu_w32 ((σ a0 81) - 1)))) (fun v61 s61 => (some (0, (zu_up s61 a0 81 (zu_w32 ((s61 a0 81) + 1))))))) else (if 0 ≤ (zu_w32 (x1 + 22)) ∧ (zu_w32 (x1 + 22)) < 440 then (if 0 ≤ x1 ∧ x1 < 440 then (ex 11 [(40, a0), (0, (zu_w32 (x1 + 1)))] [] (zu_up σ 228 x1 (σ 228 (zu_w32 (x1 + 22))))) else none) else none)) := Eq.trans (Eq.refl _) rfl
set_option maxRecDepth 100000 in
set_option maxHeartbeats 4000000 in
theorem zr_191_0 (n : Nat) (c : zu_C) (ex : zu_I) (a0 : Int) (σ : zu_m) : zu_rega (zt_T n) c ex 1 zt_m191 [48] 400 0 [(40, a0), (2, 0), (2, 0)] [] σ = (if ((zu_up σ a0 2 0) a0 81) ≠ 0 then (if 0 ≤ (0 : Int) ∧ (0 : Int) < 2 then (zu_bd (c 189 [(40, a0), (51, 228), (0, (zu_w32 (22 * ((zu_up (zu_up σ a0 2 0) a0 81 (zu_w32 (((zu_up σ a0 2 0) a0 81) - 1))) a0 81))))] (zu_up (zu_up σ a0 2 0) a0 81 (zu_w32 (((zu_up σ a0 2 0) a0 81) - 1)))) (fun v43 s43 => (ex 48 [(40, a0), (0, ((zu_up (zu_up σ a0 2 0) a0 81 (zu_w32 (((zu_up σ a0 2 0) a0 81) - 1))) 216 0)), (0, ((zu_up (zu_up σ a0 2 0) a0 81 (zu_w32 (((zu_up σ a0 2 0) a0 81) - 1))) 216 0))] [] s43))) else none) else (some ((-1), (zu_up σ a0 2 0)))) := Eq.trans (Eq.refl _) rfl
set_option maxRecDepth 100000 in
set_option maxHeartbeats 4000000 in
theorem zr_191_48 (n : Nat) (c : zu_C) (ex : zu_I) (a0 x1 x2 : Int) (σ : zu_m) : zu_rega (zt_T n) c ex 1 zt_m191 [48] 400 48 [(40, a0), (0, x1), (0, x2)] [] σ = (if 0 ≤ (0 : Int) ∧ (0 : Int) < 2 then (if (σ 216 0) ≤ x2 then (some ((σ a0 81), σ)) else (if 0 ≤ x2 ∧ x2 < 36 then (ex 48 [(40, a0), (0, x1), (0, (zu_w32 (x2 + 1)))] [] (zu_up σ 215 x2 (-1))) else none)) else none) := Eq.trans (Eq.refl _) rfl
set_option maxRecDepth 100000 in
set_option maxHeartbeats 4000000 in
theorem zr_192_0 (n : Nat) (c : zu_C) (ex : zu_I) (a0 : Int) (σ : zu_m) : zu_rega (zt_T n) c ex 1 zt_m192 [21, 47, 72] 400 0 [(40, a0), (2, 0)] [] σ = (zu_b 1 (zu_bd (c 188 [(40, a0), (52, 229), (0, 0)] (zu_up (zu_up σ a0 2 0) a0 83 1)) (fun v16 s16 => (ex 21 [(40, a0), (0, 0)] [] s16)))) := Eq.trans (Eq.refl _) rfl
set_option maxRecDepth 100000 in
set_option maxHeartbeats 4000000 in
theorem zr_192_21 (n : Nat) (c : zu_C) (ex : zu_I) (a0 x1 : Int) (σ : zu_m) : zu_rega (zt_T n) c ex 1 zt_m192 [21, 47, 72] 400 21 [(40, a0), (0, x1)] [] σ = (if 16 ≤ x1 then (ex 47 [(40, a0), (0, 0)] [] σ) else (if 0 ≤ x1 ∧ x1 < 36 then (if 0 ≤ x1 ∧ x1 < 16 then (ex 21 [(40, a0), (0, (zu_w32 (x1 + 1)))] [] (zu_up σ 230 x1 (σ 215 x1))) else none) else none)) := Eq.trans (Eq.refl _) rfl
set_option maxRecDepth 100000 in
set_option maxHeartbeats 4000000 in
theorem zr_192_47 (n : Nat) (c : zu_C) (ex : zu_I) (a0 x1 : Int) (σ : zu_m) : zu_rega (zt_T n) c ex 1 zt_m192 [21, 47, 72] 400 47 [(40, a0), (0, x1)] [] σ = (if 4 ≤ x1 then (ex 72 [(40, a0), (0, 0)] [] σ) else (if 0 ≤ x1 ∧ x1 < 4 then (if 0 ≤ x1 ∧ x1 < 4 then (ex 47 [(40, a0), (0, (zu_w32 (x1 + 1)))] [] (zu_up σ 231 x1 (σ 219 x1))) else none) else none)) := Eq.trans (Eq.refl _) rfl
