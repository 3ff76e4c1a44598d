set_option maxRecDepth 100000 in
set_option maxHeartbeats 4000000 in
theorem zs_18_0 (n : Nat) (c : zu_C) (ex : zu_I) (m : zu_m) : zu_rega (zt_T n) c ex 1 zt_m18 [0, 39, 52, 79, 114, 149] 400 0 [(22, 45)] [] m = (if (m 45 2) ≤ (m 45 3) then (ex 52 [(22, 45)] [] m) else (if 0 ≤ (m 45 3) ∧ (m 45 3) < 700 then (if (m 4 (m 45 3)) = 32 then (ex 39 [(22, 45)] [] m) else (if 0 ≤ (m 45 3) ∧ (m 45 3) < 700 then (if (m 4 (m 45 3)) ≠ 10 then (ex 52 [(22, 45)] [] m) else (ex 39 [(22, 45)] [] m)) else none)) else none)) := Eq.trans (Eq.refl _) rfl
set_option maxRecDepth 100000 in
set_option maxHeartbeats 4000000 in
theorem zs_18_39 (n : Nat) (c : zu_C) (ex : zu_I) (m : zu_m) : zu_rega (zt_T n) c ex 1 zt_m18 [0, 39, 52, 79, 114, 149] 400 39 [(22, 45)] [] m = (ex 0 [(22, 45)] [] (zu_up m 45 3 (zu_w32 ((m 45 3) + 1)))) := Eq.trans (Eq.refl _) rfl
set_option maxRecDepth 100000 in
set_option maxHeartbeats 4000000 in
theorem zs_18_52 (n : Nat) (c : zu_C) (ex : zu_I) (m : zu_m) : zu_rega (zt_T n) c ex 1 zt_m18 [0, 39, 52, 79, 114, 149] 400 52 [(22, 45)] [] m = (if ((zu_up m 45 6 (m 45 3)) 45 3) < ((zu_up m 45 6 (m 45 3)) 45 2) then (ex 79 [(22, 45)] [] (zu_up m 45 6 (m 45 3))) else (some (0, (zu_up (zu_up m 45 6 (m 45 3)) 45 4 0)))) := Eq.trans (Eq.refl _) rfl
set_option maxRecDepth 100000 in
set_option maxHeartbeats 4000000 in
theorem zs_18_79 (n : Nat) (c : zu_C) (ex : zu_I) (m : zu_m) : zu_rega (zt_T n) c ex 1 zt_m18 [0, 39, 52, 79, 114, 149] 400 79 [(22, 45)] [] m = (if 0 ≤ (m 45 3) ∧ (m 45 3) < 700 then (if (m 4 (m 45 3)) < 97 then (ex 114 [(22, 45)] [] m) else (if 0 ≤ (m 45 3) ∧ (m 45 3) < 700 then (if 122 < (m 4 (m 45 3)) then (ex 114 [(22, 45)] [] m) else (zu_bd (c 280 [(22, 45)] m) (fun v108 s108 => (some (0, s108))))) else none)) else none) := Eq.trans (Eq.refl _) rfl
set_option maxRecDepth 100000 in
set_option maxHeartbeats 4000000 in
theorem zs_18_114 (n : Nat) (c : zu_C) (ex : zu_I) (m : zu_m) : zu_rega (zt_T n) c ex 1 zt_m18 [0, 39, 52, 79, 114, 149] 400 114 [(22, 45)] [] m = (if 0 ≤ (m 45 3) ∧ (m 45 3) < 700 then (if (m 4 (m 45 3)) < 48 then (ex 149 [(22, 45)] [] m) else (if 0 ≤ (m 45 3) ∧ (m 45 3) < 700 then (if 57 < (m 4 (m 45 3)) then (ex 149 [(22, 45)] [] m) else (zu_bd (c 281 [(22, 45)] m) (fun v143 s143 => (some (0, s143))))) else none)) else none) := Eq.trans (Eq.refl _) rfl
set_option maxRecDepth 100000 in
set_option maxHeartbeats 4000000 in
theorem zs_18_149 (n : Nat) (c : zu_C) (ex : zu_I) (m : zu_m) : zu_rega (zt_T n) c ex 1 zt_m18 [0, 39, 52, 79, 114, 149] 400 149 [(22, 45)] [] m = (if 0 ≤ (m 45 3) ∧ (m 45 3) < 700 then (zu_bd (c 283 [(0, (m 4 (m 45 3)))] m) (fun v159 s159 => (if ((zu_up s159 45 5 v159) 45 5) ≠ (-1) then (zu_bd (c 282 [(22, 45)] (zu_up (zu_up (zu_up s159 45 5 v159) 45 4 4) 45 3 (zu_w32 (((zu_up (zu_up s159 45 5 v159) 45 4 4) 45 3) + 1)))) (fun v193 s193 => (some (0, s193)))) else (zu_bd (c 282 [(22, 45)] (zu_up (zu_up (zu_up s159 45 5 v159) 45 4 5) 45 3 (zu_w32 (((zu_up (zu_up s159 45 5 v159) 45 4 5) 45 3) + 1)))) (fun v193 s193 => (some (0, s193))))))) else none) := Eq.trans (Eq.refl _) rfl
set_option maxRecDepth 100000 in
set_option maxHeartbeats 4000000 in
theorem zs_280_0 (n : Nat) (c : zu_C) (ex : zu_I) (m : zu_m) : zu_rega (zt_T n) c ex 0 zt_m280 [2, 86, 99, 129] 400 0 [(22, 45), (2, 0), (2, 0)] [] m = (ex 2 [(22, 45), (0, 0), (2, 0)] [] m) := Eq.trans (Eq.refl _) rfl
set_option maxRecDepth 100000 in
set_option maxHeartbeats 4000000 in
theorem zs_280_2 (n : Nat) (c : zu_C) (ex : zu_I) (x1 : Int) (m : zu_m) : zu_rega (zt_T n) c ex 0 zt_m280 [2, 86, 99, 129] 400 2 [(22, 45), (0, x1), (2, 0)] [] m = (if (m 45 2) ≤ (m 45 3) then (ex 99 [(22, 45), (0, x1), (2, 0)] [] m) else (if 0 ≤ (m 45 3) ∧ (m 45 3) < 700 then (if (m 4 (m 45 3)) < 97 then (ex 99 [(22, 45), (0, x1), (2, 0)] [] m) else (if 0 ≤ (m 45 3) ∧ (m 45 3) < 700 then (if 122 < (m 4 (m 45 3)) then (ex 99 [(22, 45), (0, x1), (2, 0)] [] m) else (if 6 ≤ (zu_w32 ((m 45 3) - (m 45 6))) then (ex 86 [(22, 45), (0, x1), (2, 0)] [] m) else (if 0 ≤ (m 45 3) ∧ (m 45 3) < 700 then (ex 86 [(22, 45), (0, (zu_i32 4 x1 (zu_i32 5 (zu_w32 ((zu_w32 ((m 4 (m 45 3)) - 97)) + 1)) (zu_w32 (5 * (zu_w32 (5 - (zu_w32 ((m 45 3) - (m 45 6)))))))))), (2, 0)] [] m) else none))) else none)) else none)) := Eq.trans (Eq.refl _) rfl
set_option maxRecDepth 100000 in
set_option maxHeartbeats 4000000 in
theorem zs_280_86 (n : Nat) (c : zu_C) (ex : zu_I) (x1 : Int) (m : zu_m) : zu_rega (zt_T n) c ex 0 zt_m280 [2, 86, 99, 129] 400 86 [(22, 45), (0, x1), (2, 0)] [] m = (ex 2 [(22, 45), (0, x1), (2, 0)] [] (zu_up m 45 3 (zu_w32 ((m 45 3) + 1)))) := Eq.trans (Eq.refl _) rfl
set_option maxRecDepth 100000 in
set_option maxHeartbeats 4000000 in
theorem zs_280_99 (n : Nat) (c : zu_C) (ex : zu_I) (x1 : Int) (m : zu_m) : zu_rega (zt_T n) c ex 0 zt_m280 [2, 86, 99, 129] 400 99 [(22, 45), (0, x1), (2, 0)] [] m = (if (zu_w32 (((zu_up m 45 5 x1) 45 3) - ((zu_up m 45 5 x1) 45 6))) ≤ 6 then (ex 129 [(22, 45), (0, x1), (0, 0)] [] (zu_up (zu_up m 45 5 x1) 45 4 2)) else (ex 129 [(22, 45), (0, x1), (0, 0)] [] (zu_up (zu_up m 45 5 x1) 45 4 5))) := Eq.trans (Eq.refl _) rfl
set_option maxRecDepth 100000 in
set_option maxHeartbeats 4000000 in
theorem zs_280_129 (n : Nat) (c : zu_C) (ex : zu_I) (x1 x2 : Int) (m : zu_m) : zu_rega (zt_T n) c ex 0 zt_m280 [2, 86, 99, 129] 400 129 [(22, 45), (0, x1), (0, x2)] [] m = (if 33 ≤ x2 then (some (0, m)) else (if (m 45 4) ≠ 2 then (some (0, m)) else (if 0 ≤ x2 ∧ x2 < 33 then (if (m 46 x2) ≠ x1 then (ex 129 [(22, 45), (0, x1), (0, (zu_w32 (x2 + 1)))] [] m) else (ex 129 [(22, 45), (0, x1), (0, (zu_w32 (x2 + 1)))] [] (zu_up (zu_up m 45 4 1) 45 5 x2))) else none))) := Eq.trans (Eq.refl _) rfl
set_option maxRecDepth 100000 in
set_option maxHeartbeats 4000000 in
theorem zs_282_0 (n : Nat) (c : zu_C) (ex : zu_I) (m : zu_m) : zu_rega (zt_T n) c ex 0 zt_m282 [25, 59, 93] 400 0 [(22, 45), (2, 0)] [] m = (if (m 45 2) ≤ (m 45 3) then (ex 25 [(22, 45), (0, 0)] [] m) else (if 0 ≤ (m 45 3) ∧ (m 45 3) < 700 then (ex 25 [(22, 45), (0, (m 4 (m 45 3)))] [] m) else none)) := Eq.trans (Eq.refl _) rfl
set_option maxRecDepth 100000 in
set_option maxHeartbeats 4000000 in
theorem zs_282_25 (n : Nat) (c : zu_C) (ex : zu_I) (x1 : Int) (m : zu_m) : zu_rega (zt_T n) c ex 0 zt_m282 [25, 59, 93] 400 25 [(22, 45), (0, x1)] [] m = (if (m 45 5) ≠ 7 then (ex 59 [(22, 45), (0, x1)] [] m) else (if x1 ≠ 61 then (ex 59 [(22, 45), (0, x1)] [] m) else (some (0, (zu_up (zu_up m 45 5 8) 45 3 (zu_w32 (((zu_up m 45 5 8) 45 3) + 1))))))) := Eq.trans (Eq.refl _) rfl
set_option maxRecDepth 100000 in
set_option maxHeartbeats 4000000 in
theorem zs_282_59 (n : Nat) (c : zu_C) (ex : zu_I) (x1 : Int) (m : zu_m) : zu_rega (zt_T n) c ex 0 zt_m282 [25, 59, 93] 400 59 [(22, 45), (0, x1)] [] m = (if (m 45 5) ≠ 7 then (ex 93 [(22, 45), (0, x1)] [] m) else (if x1 ≠ 62 then (ex 93 [(22, 45), (0, x1)] [] m) else (some (0, (zu_up (zu_up m 45 5 10) 45 3 (zu_w32 (((zu_up m 45 5 10) 45 3) + 1))))))) := Eq.trans (Eq.refl _) rfl
set_option maxRecDepth 100000 in
set_option maxHeartbeats 4000000 in
theorem zs_282_93 (n : Nat) (c : zu_C) (ex : zu_I) (x1 : Int) (m : zu_m) : zu_rega (zt_T n) c ex 0 zt_m282 [25, 59, 93] 400 93 [(22, 45), (0, x1)] [] m = (if (m 45 5) ≠ 12 then (some (0, m)) else (if x1 ≠ 61 then (some (0, m)) else (some (0, (zu_up (zu_up m 45 5 11) 45 3 (zu_w32 (((zu_up m 45 5 11) 45 3) + 1))))))) := Eq.trans (Eq.refl _) rfl
set_option maxRecDepth 100000 in
set_option maxHeartbeats 4000000 in
theorem zs_89_0 (n : Nat) (c : zu_C) (ex : zu_I) (m : zu_m) : zu_rega (zt_T n) c ex 1 zt_m89 [0, 39, 52, 79, 90, 114, 192, 213] 400 0 [(40, 190)] [] m = (if (m 190 6) ≤ (m 190 7) then (ex 52 [(40, 190)] [] m) else (if 0 ≤ (m 190 7) ∧ (m 190 7) < 700 then (if (m 191 (m 190 7)) = 10 then (ex 39 [(40, 190)] [] m) else (if 0 ≤ (m 190 7) ∧ (m 190 7) < 700 then (if (m 191 (m 190 7)) ≠ 32 then (ex 52 [(40, 190)] [] m) else (ex 39 [(40, 190)] [] m)) else none)) else none)) := Eq.trans (Eq.refl _) rfl
set_option maxRecDepth 100000 in
set_option maxHeartbeats 4000000 in
theorem zs_89_39 (n : Nat) (c : zu_C) (ex : zu_I) (m : zu_m) : zu_rega (zt_T n) c ex 1 zt_m89 [0, 39, 52, 79, 90, 114, 192, 213] 400 39 [(40, 190)] [] m = (ex 0 [(40, 190)] [] (zu_up m 190 7 (zu_w32 ((m 190 7) + 1)))) := Eq.trans (Eq.refl _) rfl
set_option maxRecDepth 100000 in
set_option maxHeartbeats 4000000 in
theorem zs_89_52 (n : Nat) (c : zu_C) (ex : zu_I) (m : zu_m) : zu_rega (zt_T n) c ex 1 zt_m89 [0, 39, 52, 79, 90, 114, 192, 213] 400 52 [(40, 190)] [] m = (if ((zu_up m 190 10 (m 190 7)) 190 7) ≠ ((zu_up m 190 10 (m 190 7)) 190 6) then (ex 79 [(40, 190)] [] (zu_up m 190 10 (m 190 7))) else (some (0, (zu_up (zu_up m 190 10 (m 190 7)) 190 8 0)))) := Eq.trans (Eq.refl _) rfl
set_option maxRecDepth 100000 in
set_option maxHeartbeats 4000000 in
theorem zs_89_79 (n : Nat) (c : zu_C) (ex : zu_I) (m : zu_m) : zu_rega (zt_T n) c ex 1 zt_m89 [0, 39, 52, 79, 90, 114, 192, 213] 400 79 [(40, 190)] [] m = (zu_bd (c 87 [(40, 190), (0, (m 190 7))] m) (fun v84 s84 => (if v84 = 0 then (ex 192 [(40, 190)] [] s84) else (ex 90 [(40, 190)] [] s84)))) := Eq.trans (Eq.refl _) rfl
set_option maxRecDepth 100000 in
set_option maxHeartbeats 4000000 in
theorem zs_89_90 (n : Nat) (c : zu_C) (ex : zu_I) (m : zu_m) : zu_rega (zt_T n) c ex 1 zt_m89 [0, 39, 52, 79, 90, 114, 192, 213] 400 90 [(40, 190)] [] m = (zu_bd (c 87 [(40, 190), (0, (m 190 7))] m) (fun v95 s95 => (if v95 = 0 then (ex 114 [(40, 190)] [] s95) else (ex 90 [(40, 190)] [] (zu_up s95 190 7 (zu_w32 ((s95 190 7) + 1))))))) := Eq.trans (Eq.refl _) rfl
set_option maxRecDepth 100000 in
set_option maxHeartbeats 4000000 in
theorem zs_89_114 (n : Nat) (c : zu_C) (ex : zu_I) (m : zu_m) : zu_rega (zt_T n) c ex 1 zt_m89 [0, 39, 52, 79, 90, 114, 192, 213] 400 114 [(40, 190)] [] m = (zu_bd (c 86 [(40, 190), (0, (m 190 10)), (0, (m 190 7))] m) (fun v124 s124 => (if ((zu_up s124 190 9 v124) 190 9) < 0 then (if (zu_w32 (((zu_up s124 190 9 v124) 190 7) - ((zu_up s124 190 9 v124) 190 10))) ≤ 6 then (if ((zu_up (zu_up s124 190 9 v124) 190 8 2) 190 8) ≠ 2 then (some (0, (zu_up (zu_up s124 190 9 v124) 190 8 2))) else (zu_bd (c 91 [(40, 190), (0, ((zu_up (zu_up s124 190 9 v124) 190 8 2) 190 10)), (0, ((zu_up (zu_up s124 190 9 v124) 190 8 2) 190 7))] (zu_up (zu_up s124 190 9 v124) 190 8 2)) (fun v183 s183 => (some (0, (zu_up s183 190 9 v183)))))) else (if ((zu_up (zu_up s124 190 9 v124) 190 8 6) 190 8) ≠ 2 then (some (0, (zu_up (zu_up s124 190 9 v124) 190 8 6))) else (zu_bd (c 91 [(40, 190), (0, ((zu_up (zu_up s124 190 9 v124) 190 8 6) 190 10)), (0, ((zu_up (zu_up s124 190 9 v124) 190 8 6) 190 7))] (zu_up (zu_up s124 190 9 v124) 190 8 6)) (fun v183 s183 => (some (0, (zu_up s183 190 9 v183))))))) else (if ((zu_up (zu_up s124 190 9 v124) 190 8 1) 190 8) ≠ 2 then (some (0, (zu_up (zu_up s124 190 9 v124) 190 8 1))) else (zu_bd (c 91 [(40, 190), (0, ((zu_up (zu_up s124 190 9 v124) 190 8 1) 190 10)), (0, ((zu_up (zu_up s124 190 9 v124) 190 8 1) 190 7))] (zu_up (zu_up s124 190 9 v124) 190 8 1)) (fun v183 s183 => (some (0, (zu_up s183 190 9 v183))))))))) := Eq.trans (Eq.refl _) rfl
set_option maxRecDepth 100000 in
set_option maxHeartbeats 4000000 in
theorem zs_89_192 (n : Nat) (c : zu_C) (ex : zu_I) (m : zu_m) : zu_rega (zt_T n) c ex 1 zt_m89 [0, 39, 52, 79, 90, 114, 192, 213] 400 192 [(40, 190)] [] m = (zu_bd (c 88 [(40, 190), (0, (m 190 7))] m) (fun v197 s197 => (if v197 = 0 then (zu_bd (c 90 [(40, 190)] s197) (fun v278 s278 => (some (0, s278)))) else (ex 213 [(40, 190)] [] (zu_up (zu_up s197 190 8 3) 190 9 0))))) := Eq.trans (Eq.refl _) rfl
set_option maxRecDepth 100000 in
set_option maxHeartbeats 4000000 in
theorem zs_89_213 (n : Nat) (c : zu_C) (ex : zu_I) (m : zu_m) : zu_rega (zt_T n) c ex 1 zt_m89 [0, 39, 52, 79, 90, 114, 192, 213] 400 213 [(40, 190)] [] m = (zu_bd (c 88 [(40, 190), (0, (m 190 7))] m) (fun v218 s218 => (if v218 = 0 then (some (0, s218)) else (if (s218 190 9) ≤ 99999 then (if 0 ≤ (s218 190 7) ∧ (s218 190 7) < 700 then (ex 213 [(40, 190)] [] (zu_up (zu_up s218 190 9 (zu_w32 ((zu_w32 ((zu_w32 (10 * (s218 190 9))) + (s218 191 (s218 190 7)))) - 48))) 190 7 (zu_w32 (((zu_up s218 190 9 (zu_w32 ((zu_w32 ((zu_w32 (10 * (s218 190 9))) + (s218 191 (s218 190 7)))) - 48))) 190 7) + 1)))) else none) else (ex 213 [(40, 190)] [] (zu_up (zu_up s218 190 9 (s218 190 9)) 190 7 (zu_w32 (((zu_up s218 190 9 (s218 190 9)) 190 7) + 1)))))))) := Eq.trans (Eq.refl _) rfl
set_option maxRecDepth 100000 in
set_option maxHeartbeats 4000000 in
theorem zs_90_0 (n : Nat) (c : zu_C) (ex : zu_I) (m : zu_m) : zu_rega (zt_T n) c ex 0 zt_m90 [50, 75, 96, 117, 135, 192, 198, 270, 275, 287] 400 0 [(40, 190), (2, 0), (2, 0), (2, 0)] [] m = (if 0 ≤ (m 190 7) ∧ (m 190 7) < 700 then (if ((zu_up (zu_up m 190 9 (m 191 (m 190 7))) 190 7 (zu_w32 (((zu_up m 190 9 (m 191 (m 190 7))) 190 7) + 1))) 190 9) = 60 then (ex 50 [(40, 190), (2, 0), (2, 0), (2, 0)] [] (zu_up (zu_up m 190 9 (m 191 (m 190 7))) 190 7 (zu_w32 (((zu_up m 190 9 (m 191 (m 190 7))) 190 7) + 1)))) else (if ((zu_up (zu_up m 190 9 (m 191 (m 190 7))) 190 7 (zu_w32 (((zu_up m 190 9 (m 191 (m 190 7))) 190 7) + 1))) 190 9) = 62 then (ex 50 [(40, 190), (2, 0), (2, 0), (2, 0)] [] (zu_up (zu_up m 190 9 (m 191 (m 190 7))) 190 7 (zu_w32 (((zu_up m 190 9 (m 191 (m 190 7))) 190 7) + 1)))) else (if ((zu_up (zu_up m 190 9 (m 191 (m 190 7))) 190 7 (zu_w32 (((zu_up m 190 9 (m 191 (m 190 7))) 190 7) + 1))) 190 9) ≠ 61 then (ex 198 [(40, 190), (2, 0), (2, 0), (2, 0)] [] (zu_up (zu_up m 190 9 (m 191 (m 190 7))) 190 7 (zu_w32 (((zu_up m 190 9 (m 191 (m 190 7))) 190 7) + 1)))) else (ex 50 [(40, 190), (2, 0), (2, 0), (2, 0)] [] (zu_up (zu_up m 190 9 (m 191 (m 190 7))) 190 7 (zu_w32 (((zu_up m 190 9 (m 191 (m 190 7))) 190 7) + 1))))))) else none) := Eq.trans (Eq.refl _) rfl
set_option maxRecDepth 100000 in
set_option maxHeartbeats 4000000 in
theorem zs_90_50 (n : Nat) (c : zu_C) (ex : zu_I) (m : zu_m) : zu_rega (zt_T n) c ex 0 zt_m90 [50, 75, 96, 117, 135, 192, 198, 270, 275, 287] 400 50 [(40, 190), (2, 0), (2, 0), (2, 0)] [] m = (if (m 190 6) ≤ (m 190 7) then (ex 75 [(40, 190), (0, 0), (2, 0), (2, 0)] [] m) else (if 0 ≤ (m 190 7) ∧ (m 190 7) < 700 then (ex 75 [(40, 190), (0, (m 191 (m 190 7))), (2, 0), (2, 0)] [] m) else none)) := Eq.trans (Eq.refl _) rfl
set_option maxRecDepth 100000 in
set_option maxHeartbeats 4000000 in
theorem zs_90_75 (n : Nat) (c : zu_C) (ex : zu_I) (x1 : Int) (m : zu_m) : zu_rega (zt_T n) c ex 0 zt_m90 [50, 75, 96, 117, 135, 192, 198, 270, 275, 287] 400 75 [(40, 190), (0, x1), (2, 0), (2, 0)] [] m = (if (m 190 9) = 61 then (ex 96 [(40, 190), (0, x1), (0, 0), (2, 0)] [] m) else (if x1 ≠ 61 then (ex 96 [(40, 190), (0, x1), (0, 0), (2, 0)] [] m) else (ex 96 [(40, 190), (0, x1), (0, 1), (2, 0)] [] m))) := Eq.trans (Eq.refl _) rfl
set_option maxRecDepth 100000 in
set_option maxHeartbeats 4000000 in
theorem zs_90_96 (n : Nat) (c : zu_C) (ex : zu_I) (x1 x2 : Int) (m : zu_m) : zu_rega (zt_T n) c ex 0 zt_m90 [50, 75, 96, 117, 135, 192, 198, 270, 275, 287] 400 96 [(40, 190), (0, x1), (0, x2), (2, 0)] [] m = (if (m 190 9) ≠ 60 then (ex 117 [(40, 190), (0, x1), (0, x2), (0, 0)] [] m) else (if x1 ≠ 62 then (ex 117 [(40, 190), (0, x1), (0, x2), (0, 0)] [] m) else (ex 117 [(40, 190), (0, x1), (0, x2), (0, 1)] [] m))) := Eq.trans (Eq.refl _) rfl
set_option maxRecDepth 100000 in
set_option maxHeartbeats 4000000 in
theorem zs_90_117 (n : Nat) (c : zu_C) (ex : zu_I) (x1 x2 x3 : Int) (m : zu_m) : zu_rega (zt_T n) c ex 0 zt_m90 [50, 75, 96, 117, 135, 192, 198, 270, 275, 287] 400 117 [(40, 190), (0, x1), (0, x2), (0, x3)] [] m = (if x2 ≠ 0 then (ex 135 [(40, 190), (0, x1), (0, x2), (0, x3)] [] (zu_up m 190 7 (zu_w32 ((m 190 7) + 1)))) else (if x3 = 0 then (ex 135 [(40, 190), (0, x1), (0, x2), (0, x3)] [] m) else (ex 135 [(40, 190), (0, x1), (0, x2), (0, x3)] [] (zu_up m 190 7 (zu_w32 ((m 190 7) + 1)))))) := Eq.trans (Eq.refl _) rfl
set_option maxRecDepth 100000 in
set_option maxHeartbeats 4000000 in
theorem zs_90_135 (n : Nat) (c : zu_C) (ex : zu_I) (x1 x2 x3 : Int) (m : zu_m) : zu_rega (zt_T n) c ex 0 zt_m90 [50, 75, 96, 117, 135, 192, 198, 270, 275, 287] 400 135 [(40, 190), (0, x1), (0, x2), (0, x3)] [] m = (if ((zu_up m 190 8 5) 190 9) ≠ 61 then (if ((zu_up m 190 8 5) 190 9) ≠ 60 then (if x2 = 0 then (ex 192 [(40, 190), (0, x1), (0, x2), (0, x3)] [(0, 5), (40, 190)] (zu_up m 190 8 5)) else (ex 192 [(40, 190), (0, x1), (0, x2), (0, x3)] [(0, 4), (40, 190)] (zu_up m 190 8 5))) else (if x2 = 0 then (if x3 = 0 then (ex 192 [(40, 190), (0, x1), (0, x2), (0, x3)] [(0, 0), (40, 190)] (zu_up m 190 8 5)) else (ex 192 [(40, 190), (0, x1), (0, x2), (0, x3)] [(0, 3), (40, 190)] (zu_up m 190 8 5))) else (ex 192 [(40, 190), (0, x1), (0, x2), (0, x3)] [(0, 1), (40, 190)] (zu_up m 190 8 5)))) else (ex 192 [(40, 190), (0, x1), (0, x2), (0, x3)] [(0, 2), (40, 190)] (zu_up m 190 8 5))) := Eq.trans (Eq.refl _) rfl
set_option maxRecDepth 100000 in
set_option maxHeartbeats 4000000 in
theorem zs_90_192 (n : Nat) (c : zu_C) (ex : zu_I) (x1 x2 x3 y0 : Int) (m : zu_m) : zu_rega (zt_T n) c ex 0 zt_m90 [50, 75, 96, 117, 135, 192, 198, 270, 275, 287] 400 192 [(40, 190), (0, x1), (0, x2), (0, x3)] [(0, y0), (40, 190)] m = (some (0, (zu_up m 190 9 y0))) := Eq.trans (Eq.refl _) rfl
set_option maxRecDepth 100000 in
set_option maxHeartbeats 4000000 in
theorem zs_90_198 (n : Nat) (c : zu_C) (ex : zu_I) (m : zu_m) : zu_rega (zt_T n) c ex 0 zt_m90 [50, 75, 96, 117, 135, 192, 198, 270, 275, 287] 400 198 [(40, 190), (2, 0), (2, 0), (2, 0)] [] m = (if (m 190 9) = 59 then (ex 270 [(40, 190), (2, 0), (2, 0), (2, 0)] [] m) else (if (m 190 9) = 40 then (ex 270 [(40, 190), (2, 0), (2, 0), (2, 0)] [] m) else (if (m 190 9) = 41 then (ex 270 [(40, 190), (2, 0), (2, 0), (2, 0)] [] m) else (if (m 190 9) = 43 then (ex 270 [(40, 190), (2, 0), (2, 0), (2, 0)] [] m) else (if (m 190 9) = 45 then (ex 270 [(40, 190), (2, 0), (2, 0), (2, 0)] [] m) else (if (m 190 9) = 42 then (ex 270 [(40, 190), (2, 0), (2, 0), (2, 0)] [] m) else (if (m 190 9) = 47 then (ex 270 [(40, 190), (2, 0), (2, 0), (2, 0)] [] m) else (if (m 190 9) ≠ 37 then (ex 275 [(40, 190), (2, 0), (2, 0), (2, 0)] [(0, 0)] m) else (ex 270 [(40, 190), (2, 0), (2, 0), (2, 0)] [] m))))))))) := Eq.trans (Eq.refl _) rfl
set_option maxRecDepth 100000 in
set_option maxHeartbeats 4000000 in
theorem zs_90_270 (n : Nat) (c : zu_C) (ex : zu_I) (m : zu_m) : zu_rega (zt_T n) c ex 0 zt_m90 [50, 75, 96, 117, 135, 192, 198, 270, 275, 287] 400 270 [(40, 190), (2, 0), (2, 0), (2, 0)] [] m = (ex 275 [(40, 190), (2, 0), (2, 0), (2, 0)] [(0, 1)] m) := Eq.trans (Eq.refl _) rfl
set_option maxRecDepth 100000 in
set_option maxHeartbeats 4000000 in
theorem zs_90_275 (n : Nat) (c : zu_C) (ex : zu_I) (y0 : Int) (m : zu_m) : zu_rega (zt_T n) c ex 0 zt_m90 [50, 75, 96, 117, 135, 192, 198, 270, 275, 287] 400 275 [(40, 190), (2, 0), (2, 0), (2, 0)] [(0, y0)] m = (if y0 = 0 then (ex 287 [(40, 190), (0, y0), (2, 0), (2, 0)] [(0, 6), (40, 190)] m) else (ex 287 [(40, 190), (0, y0), (2, 0), (2, 0)] [(0, 4), (40, 190)] m)) := Eq.trans (Eq.refl _) rfl
set_option maxRecDepth 100000 in
set_option maxHeartbeats 4000000 in
theorem zs_90_287 (n : Nat) (c : zu_C) (ex : zu_I) (x1 y0 : Int) (m : zu_m) : zu_rega (zt_T n) c ex 0 zt_m90 [50, 75, 96, 117, 135, 192, 198, 270, 275, 287] 400 287 [(40, 190), (0, x1), (2, 0), (2, 0)] [(0, y0), (40, 190)] m = (some (0, (zu_up m 190 8 y0))) := Eq.trans (Eq.refl _) rfl
set_option maxRecDepth 100000 in
set_option maxHeartbeats 4000000 in
theorem zs_281_0 (n : Nat) (c : zu_C) (ex : zu_I) (m : zu_m) : zu_rega (zt_T n) c ex 0 zt_m281 [10] 400 0 [(22, 45)] [] m = (ex 10 [(22, 45)] [] (zu_up (zu_up m 45 4 3) 45 5 0)) := Eq.trans (Eq.refl _) rfl
set_option maxRecDepth 100000 in
set_option maxHeartbeats 4000000 in
theorem zs_281_10 (n : Nat) (c : zu_C) (ex : zu_I) (m : zu_m) : zu_rega (zt_T n) c ex 0 zt_m281 [10] 400 10 [(22, 45)] [] m = (if (m 45 2) ≤ (m 45 3) then (some (0, m)) else (if 0 ≤ (m 45 3) ∧ (m 45 3) < 700 then (if (m 4 (m 45 3)) < 48 then (some (0, m)) else (if 0 ≤ (m 45 3) ∧ (m 45 3) < 700 then (if 57 < (m 4 (m 45 3)) then (some (0, m)) else (if (m 45 5) < 1000000 then (if 0 ≤ (m 45 3) ∧ (m 45 3) < 700 then (ex 10 [(22, 45)] [] (zu_up (zu_up m 45 5 (zu_w32 ((zu_w32 ((zu_w32 ((m 45 5) * 10)) + (m 4 (m 45 3)))) - 48))) 45 3 (zu_w32 (((zu_up m 45 5 (zu_w32 ((zu_w32 ((zu_w32 ((m 45 5) * 10)) + (m 4 (m 45 3)))) - 48))) 45 3) + 1)))) else none) else (ex 10 [(22, 45)] [] (zu_up (zu_up m 45 5 1000000) 45 3 (zu_w32 (((zu_up m 45 5 1000000) 45 3) + 1)))))) else none)) else none)) := Eq.trans (Eq.refl _) rfl
