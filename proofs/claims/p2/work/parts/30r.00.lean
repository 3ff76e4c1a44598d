def zd_123_0 (c : zu_C) (ex : zu_I) (a0 a1 : Int) (σ : zu_m) : Option zu_R := (if a1 < 0 then (zu_b 0 (some (0, σ))) else (zu_bd (c 36 [(40, a0)] σ) (fun v6 s6 => (if v6 ≤ a1 then (zu_b 0 (some (0, s6))) else (zu_b 1 (some (1, s6)))))))
set_option maxRecDepth 100000 in
set_option maxHeartbeats 4000000 in
theorem za_123_0 (n : Nat) (c : zu_C) (ex : zu_I) (a0 a1 : Int) (σ : zu_m) : zu_rega (zt_T n) c ex 1 zt_m123 [] 400 0 [(40, a0), (0, a1)] [] σ = zd_123_0 c ex a0 a1 σ := rfl
set_option maxRecDepth 100000 in
theorem zr_123_0 (n : Nat) (a0 a1 : Int) (σ : zu_m) : zu_call (zt_T n) 123 [(40, a0), (0, a1)] σ = zd_123_0 (zu_call (zt_T n)) (zu_ex (zt_T n) 123) a0 a1 σ := zu_call_at (zt_T n) (d := 1) (y := zt_m123) rfl rfl [] 400 [(40, a0), (0, a1)] [(40, a0), (0, a1)] σ rfl (za_123_0 n _ _ a0 a1 σ)
def zd_142_0 (c : zu_C) (ex : zu_I) (a0 a1 : Int) (σ : zu_m) : Option zu_R := (some (0, (zu_up σ a0 2 a1)))
set_option maxRecDepth 100000 in
set_option maxHeartbeats 4000000 in
theorem za_142_0 (n : Nat) (c : zu_C) (ex : zu_I) (a0 a1 : Int) (σ : zu_m) : zu_rega (zt_T n) c ex 0 zt_m142 [] 400 0 [(40, a0), (0, a1)] [] σ = zd_142_0 c ex a0 a1 σ := rfl
set_option maxRecDepth 100000 in
theorem zr_142_0 (n : Nat) (a0 a1 : Int) (σ : zu_m) : zu_call (zt_T n) 142 [(40, a0), (0, a1)] σ = zd_142_0 (zu_call (zt_T n)) (zu_ex (zt_T n) 142) a0 a1 σ := zu_call_at (zt_T n) (d := 0) (y := zt_m142) rfl rfl [] 400 [(40, a0), (0, a1)] [(40, a0), (0, a1)] σ rfl (za_142_0 n _ _ a0 a1 σ)
def zd_36_0 (c : zu_C) (ex : zu_I) (a0 : Int) (σ : zu_m) : Option zu_R := (some ((zu_w32 ((σ a0 12) * (σ a0 13))), σ))
set_option maxRecDepth 100000 in
set_option maxHeartbeats 4000000 in
theorem za_36_0 (n : Nat) (c : zu_C) (ex : zu_I) (a0 : Int) (σ : zu_m) : zu_rega (zt_T n) c ex 0 zt_m36 [] 400 0 [(40, a0)] [] σ = zd_36_0 c ex a0 σ := rfl
set_option maxRecDepth 100000 in
theorem zr_36_0 (n : Nat) (a0 : Int) (σ : zu_m) : zu_call (zt_T n) 36 [(40, a0)] σ = zd_36_0 (zu_call (zt_T n)) (zu_ex (zt_T n) 36) a0 σ := zu_call_at (zt_T n) (d := 0) (y := zt_m36) rfl rfl [] 400 [(40, a0)] [(40, a0)] σ rfl (za_36_0 n _ _ a0 σ)
def zd_84_0 (c : zu_C) (ex : zu_I) (a0 a1 : Int) (σ : zu_m) : Option zu_R := (if (zu_lcmp (zu_i64 3 (zu_shr a0 a1) 1) 1) ≠ 0 then (zu_b 0 (some (0, σ))) else (zu_b 1 (some (1, σ))))
set_option maxRecDepth 100000 in
set_option maxHeartbeats 4000000 in
theorem za_84_0 (n : Nat) (c : zu_C) (ex : zu_I) (a0 a1 : Int) (σ : zu_m) : zu_rega (zt_T n) c ex 0 zt_m84 [] 400 0 [(1, a0), (2, 0), (0, a1)] [] σ = zd_84_0 c ex a0 a1 σ := rfl
set_option maxRecDepth 100000 in
theorem zr_84_0 (n : Nat) (a0 a1 : Int) (σ : zu_m) : zu_call (zt_T n) 84 [(1, a0), (0, a1)] σ = zd_84_0 (zu_call (zt_T n)) (zu_ex (zt_T n) 84) a0 a1 σ := zu_call_at (zt_T n) (d := 0) (y := zt_m84) rfl rfl [] 400 [(1, a0), (0, a1)] [(1, a0), (2, 0), (0, a1)] σ rfl (za_84_0 n _ _ a0 a1 σ)
def zd_210_0 (c : zu_C) (ex : zu_I) (a0 a1 : Int) (σ : zu_m) : Option zu_R := (if a1 < 0 then (zu_b 0 (some (0, σ))) else (if (σ a0 2) ≤ a1 then (zu_b 0 (some (0, σ))) else (zu_b 1 (some (1, σ)))))
set_option maxRecDepth 100000 in
set_option maxHeartbeats 4000000 in
theorem za_210_0 (n : Nat) (c : zu_C) (ex : zu_I) (a0 a1 : Int) (σ : zu_m) : zu_rega (zt_T n) c ex 0 zt_m210 [] 400 0 [(27, a0), (0, a1)] [] σ = zd_210_0 c ex a0 a1 σ := rfl
set_option maxRecDepth 100000 in
theorem zr_210_0 (n : Nat) (a0 a1 : Int) (σ : zu_m) : zu_call (zt_T n) 210 [(27, a0), (0, a1)] σ = zd_210_0 (zu_call (zt_T n)) (zu_ex (zt_T n) 210) a0 a1 σ := zu_call_at (zt_T n) (d := 0) (y := zt_m210) rfl rfl [] 400 [(27, a0), (0, a1)] [(27, a0), (0, a1)] σ rfl (za_210_0 n _ _ a0 a1 σ)
def zd_124_0 (c : zu_C) (ex : zu_I) (a0 a1 : Int) (σ : zu_m) : Option zu_R := (if a1 < 0 then (zu_b 0 (some (0, σ))) else (if 0 ≤ (0 : Int) ∧ (0 : Int) < 2 then (if (σ 216 0) ≤ a1 then (zu_b 0 (some (0, σ))) else (zu_b 1 (some (1, σ)))) else none))
set_option maxRecDepth 100000 in
set_option maxHeartbeats 4000000 in
theorem za_124_0 (n : Nat) (c : zu_C) (ex : zu_I) (a0 a1 : Int) (σ : zu_m) : zu_rega (zt_T n) c ex 0 zt_m124 [] 400 0 [(40, a0), (0, a1)] [] σ = zd_124_0 c ex a0 a1 σ := rfl
set_option maxRecDepth 100000 in
theorem zr_124_0 (n : Nat) (a0 a1 : Int) (σ : zu_m) : zu_call (zt_T n) 124 [(40, a0), (0, a1)] σ = zd_124_0 (zu_call (zt_T n)) (zu_ex (zt_T n) 124) a0 a1 σ := zu_call_at (zt_T n) (d := 0) (y := zt_m124) rfl rfl [] 400 [(40, a0), (0, a1)] [(40, a0), (0, a1)] σ rfl (za_124_0 n _ _ a0 a1 σ)
def zd_211_0 (c : zu_C) (ex : zu_I) (a0 a1 : Int) (σ : zu_m) : Option zu_R := (if a1 < 0 then (zu_b 0 (some (0, σ))) else (if (σ a0 4) ≤ a1 then (zu_b 0 (some (0, σ))) else (zu_b 1 (some (1, σ)))))
set_option maxRecDepth 100000 in
set_option maxHeartbeats 4000000 in
theorem za_211_0 (n : Nat) (c : zu_C) (ex : zu_I) (a0 a1 : Int) (σ : zu_m) : zu_rega (zt_T n) c ex 0 zt_m211 [] 400 0 [(27, a0), (0, a1)] [] σ = zd_211_0 c ex a0 a1 σ := rfl
set_option maxRecDepth 100000 in
theorem zr_211_0 (n : Nat) (a0 a1 : Int) (σ : zu_m) : zu_call (zt_T n) 211 [(27, a0), (0, a1)] σ = zd_211_0 (zu_call (zt_T n)) (zu_ex (zt_T n) 211) a0 a1 σ := zu_call_at (zt_T n) (d := 0) (y := zt_m211) rfl rfl [] 400 [(27, a0), (0, a1)] [(27, a0), (0, a1)] σ rfl (za_211_0 n _ _ a0 a1 σ)
def zd_125_0 (c : zu_C) (ex : zu_I) (a0 a1 : Int) (σ : zu_m) : Option zu_R := (if a1 < 0 then (zu_b 0 (some (0, σ))) else (if (σ a0 15) ≤ a1 then (zu_b 0 (some (0, σ))) else (zu_b 1 (some (1, σ)))))
set_option maxRecDepth 100000 in
set_option maxHeartbeats 4000000 in
theorem za_125_0 (n : Nat) (c : zu_C) (ex : zu_I) (a0 a1 : Int) (σ : zu_m) : zu_rega (zt_T n) c ex 0 zt_m125 [] 400 0 [(40, a0), (0, a1)] [] σ = zd_125_0 c ex a0 a1 σ := rfl
set_option maxRecDepth 100000 in
theorem zr_125_0 (n : Nat) (a0 a1 : Int) (σ : zu_m) : zu_call (zt_T n) 125 [(40, a0), (0, a1)] σ = zd_125_0 (zu_call (zt_T n)) (zu_ex (zt_T n) 125) a0 a1 σ := zu_call_at (zt_T n) (d := 0) (y := zt_m125) rfl rfl [] 400 [(40, a0), (0, a1)] [(40, a0), (0, a1)] σ rfl (za_125_0 n _ _ a0 a1 σ)
def zd_244_0 (c : zu_C) (ex : zu_I) (a0 a1 : Int) (σ : zu_m) : Option zu_R := (if a1 < 0 then (zu_b 0 (some (0, σ))) else (if (σ a0 2) ≤ a1 then (zu_b 0 (some (0, σ))) else (zu_b 1 (some (1, σ)))))
set_option maxRecDepth 100000 in
set_option maxHeartbeats 4000000 in
theorem za_244_0 (n : Nat) (c : zu_C) (ex : zu_I) (a0 a1 : Int) (σ : zu_m) : zu_rega (zt_T n) c ex 0 zt_m244 [] 400 0 [(8, a0), (0, a1)] [] σ = zd_244_0 c ex a0 a1 σ := rfl
set_option maxRecDepth 100000 in
theorem zr_244_0 (n : Nat) (a0 a1 : Int) (σ : zu_m) : zu_call (zt_T n) 244 [(8, a0), (0, a1)] σ = zd_244_0 (zu_call (zt_T n)) (zu_ex (zt_T n) 244) a0 a1 σ := zu_call_at (zt_T n) (d := 0) (y := zt_m244) rfl rfl [] 400 [(8, a0), (0, a1)] [(8, a0), (0, a1)] σ rfl (za_244_0 n _ _ a0 a1 σ)
def zd_83_0 (c : zu_C) (ex : zu_I) (a0 a1 a2 : Int) (σ : zu_m) : Option zu_R := (if a0 < a1 then (zu_b 0 (some (0, σ))) else (if a2 < a0 then (zu_b 0 (some (0, σ))) else (zu_b 1 (some (1, σ)))))
set_option maxRecDepth 100000 in
set_option maxHeartbeats 4000000 in
theorem za_83_0 (n : Nat) (c : zu_C) (ex : zu_I) (a0 a1 a2 : Int) (σ : zu_m) : zu_rega (zt_T n) c ex 0 zt_m83 [] 400 0 [(0, a0), (0, a1), (0, a2)] [] σ = zd_83_0 c ex a0 a1 a2 σ := rfl
set_option maxRecDepth 100000 in
theorem zr_83_0 (n : Nat) (a0 a1 a2 : Int) (σ : zu_m) : zu_call (zt_T n) 83 [(0, a0), (0, a1), (0, a2)] σ = zd_83_0 (zu_call (zt_T n)) (zu_ex (zt_T n) 83) a0 a1 a2 σ := zu_call_at (zt_T n) (d := 0) (y := zt_m83) rfl rfl [] 400 [(0, a0), (0, a1), (0, a2)] [(0, a0), (0, a1), (0, a2)] σ rfl (za_83_0 n _ _ a0 a1 a2 σ)
def zd_51_0 (c : zu_C) (ex : zu_I) (a0 : Int) (σ : zu_m) : Option zu_R := (if a0 < 0 then (zu_b 0 (some (0, σ))) else (if 4 ≤ a0 then (zu_b 0 (some (0, σ))) else (zu_b 1 (some (1, σ)))))
set_option maxRecDepth 100000 in
set_option maxHeartbeats 4000000 in
theorem za_51_0 (n : Nat) (c : zu_C) (ex : zu_I) (a0 : Int) (σ : zu_m) : zu_rega (zt_T n) c ex 0 zt_m51 [] 400 0 [(0, a0)] [] σ = zd_51_0 c ex a0 σ := rfl
set_option maxRecDepth 100000 in
theorem zr_51_0 (n : Nat) (a0 : Int) (σ : zu_m) : zu_call (zt_T n) 51 [(0, a0)] σ = zd_51_0 (zu_call (zt_T n)) (zu_ex (zt_T n) 51) a0 σ := zu_call_at (zt_T n) (d := 0) (y := zt_m51) rfl rfl [] 400 [(0, a0)] [(0, a0)] σ rfl (za_51_0 n _ _ a0 σ)
def zd_52_0 (c : zu_C) (ex : zu_I) (a0 : Int) (σ : zu_m) : Option zu_R := (if a0 < 0 then (zu_b 0 (some (0, σ))) else (if 9 < a0 then (zu_b 0 (some (0, σ))) else (zu_b 1 (some (1, σ)))))
set_option maxRecDepth 100000 in
set_option maxHeartbeats 4000000 in
theorem za_52_0 (n : Nat) (c : zu_C) (ex : zu_I) (a0 : Int) (σ : zu_m) : zu_rega (zt_T n) c ex 0 zt_m52 [] 400 0 [(0, a0)] [] σ = zd_52_0 c ex a0 σ := rfl
set_option maxRecDepth 100000 in
theorem zr_52_0 (n : Nat) (a0 : Int) (σ : zu_m) : zu_call (zt_T n) 52 [(0, a0)] σ = zd_52_0 (zu_call (zt_T n)) (zu_ex (zt_T n) 52) a0 σ := zu_call_at (zt_T n) (d := 0) (y := zt_m52) rfl rfl [] 400 [(0, a0)] [(0, a0)] σ rfl (za_52_0 n _ _ a0 σ)
def zd_213_0 (c : zu_C) (ex : zu_I) (a0 a1 a2 a3 : Int) (σ : zu_m) : Option zu_R := (if 16 ≤ (σ a0 2) then (some (0, σ)) else (if 0 ≤ (σ a0 2) ∧ (σ a0 2) < 16 then (some (0, (zu_up (zu_up (zu_up (zu_up (zu_up σ ((a0 + 1) + 5 + (σ a0 2)) 0 a1) ((a0 + 1) + 5 + (σ a0 2)) 1 a2) ((a0 + 1) + 5 + (σ a0 2)) 2 a3) ((a0 + 1) + 5 + (σ a0 2)) 3 (-1)) a0 2 (zu_w32 (((zu_up (zu_up (zu_up (zu_up σ ((a0 + 1) + 5 + (σ a0 2)) 0 a1) ((a0 + 1) + 5 + (σ a0 2)) 1 a2) ((a0 + 1) + 5 + (σ a0 2)) 2 a3) ((a0 + 1) + 5 + (σ a0 2)) 3 (-1)) a0 2) + 1))))) else none))
set_option maxRecDepth 100000 in
set_option maxHeartbeats 4000000 in
theorem za_213_0 (n : Nat) (c : zu_C) (ex : zu_I) (a0 a1 a2 a3 : Int) (σ : zu_m) : zu_rega (zt_T n) c ex 0 zt_m213 [] 400 0 [(27, a0), (0, a1), (0, a2), (0, a3), (2, 0)] [] σ = zd_213_0 c ex a0 a1 a2 a3 σ := rfl
set_option maxRecDepth 100000 in
theorem zr_213_0 (n : Nat) (a0 a1 a2 a3 : Int) (σ : zu_m) : zu_call (zt_T n) 213 [(27, a0), (0, a1), (0, a2), (0, a3)] σ = zd_213_0 (zu_call (zt_T n)) (zu_ex (zt_T n) 213) a0 a1 a2 a3 σ := zu_call_at (zt_T n) (d := 0) (y := zt_m213) rfl rfl [] 400 [(27, a0), (0, a1), (0, a2), (0, a3)] [(27, a0), (0, a1), (0, a2), (0, a3), (2, 0)] σ rfl (za_213_0 n _ _ a0 a1 a2 a3 σ)
def zd_213b_0 (c : zu_C) (ex : zu_I) (a0 a1 a2 a3 : Int) (σ : zu_m) : Option zu_R := (if 16 ≤ (σ a0 2) then (some (0, σ)) else (if 0 ≤ (σ a0 2) ∧ (σ a0 2) < 16 then (some (0, (zu_up (zu_up (zu_up (zu_up (zu_up σ (20 + 5 + (σ a0 2)) 0 a1) (20 + 5 + (σ a0 2)) 1 a2) (20 + 5 + (σ a0 2)) 2 a3) (20 + 5 + (σ a0 2)) 3 (-1)) a0 2 (zu_w32 (((zu_up (zu_up (zu_up (zu_up σ (20 + 5 + (σ a0 2)) 0 a1) (20 + 5 + (σ a0 2)) 1 a2) (20 + 5 + (σ a0 2)) 2 a3) (20 + 5 + (σ a0 2)) 3 (-1)) a0 2) + 1))))) else none))
set_option maxRecDepth 100000 in
set_option maxHeartbeats 4000000 in
theorem za_213b_0 (n : Nat) (c : zu_C) (ex : zu_I) (a0 a1 a2 a3 : Int) (σ : zu_m) : zu_rega (zt_T n) c ex 0 zt_m213 [] 400 0 [(16, a0), (0, a1), (0, a2), (0, a3), (2, 0)] [] σ = zd_213b_0 c ex a0 a1 a2 a3 σ := rfl
set_option maxRecDepth 100000 in
theorem zr_213b_0 (n : Nat) (a0 a1 a2 a3 : Int) (σ : zu_m) : zu_call (zt_T n) 213 [(16, a0), (0, a1), (0, a2), (0, a3)] σ = zd_213b_0 (zu_call (zt_T n)) (zu_ex (zt_T n) 213) a0 a1 a2 a3 σ := zu_call_at (zt_T n) (d := 0) (y := zt_m213) rfl rfl [] 400 [(16, a0), (0, a1), (0, a2), (0, a3)] [(16, a0), (0, a1), (0, a2), (0, a3), (2, 0)] σ rfl (za_213b_0 n _ _ a0 a1 a2 a3 σ)
def zd_53_0 (c : zu_C) (ex : zu_I) (a0 : Int) (σ : zu_m) : Option zu_R := (if a0 < 1 then (zu_b 0 (some (0, σ))) else (if 200 < a0 then (zu_b 0 (some (0, σ))) else (zu_b 1 (some (1, σ)))))
set_option maxRecDepth 100000 in
set_option maxHeartbeats 4000000 in
theorem za_53_0 (n : Nat) (c : zu_C) (ex : zu_I) (a0 : Int) (σ : zu_m) : zu_rega (zt_T n) c ex 0 zt_m53 [] 400 0 [(0, a0)] [] σ = zd_53_0 c ex a0 σ := rfl
set_option maxRecDepth 100000 in
theorem zr_53_0 (n : Nat) (a0 : Int) (σ : zu_m) : zu_call (zt_T n) 53 [(0, a0)] σ = zd_53_0 (zu_call (zt_T n)) (zu_ex (zt_T n) 53) a0 σ := zu_call_at (zt_T n) (d := 0) (y := zt_m53) rfl rfl [] 400 [(0, a0)] [(0, a0)] σ rfl (za_53_0 n _ _ a0 σ)
def zd_178_0 (c : zu_C) (ex : zu_I) (a0 a1 a2 a3 a4 : Int) (σ : zu_m) : Option zu_R := (if 0 ≤ (zu_w32 (4 * (σ a0 77))) ∧ (zu_w32 (4 * (σ a0 77))) < 96 then (if 0 ≤ (zu_w32 ((zu_w32 (4 * ((zu_up σ 226 (zu_w32 (4 * (σ a0 77))) a1) a0 77))) + 1)) ∧ (zu_w32 ((zu_w32 (4 * ((zu_up σ 226 (zu_w32 (4 * (σ a0 77))) a1) a0 77))) + 1)) < 96 then (if 0 ≤ (zu_w32 ((zu_w32 (4 * ((zu_up (zu_up σ 226 (zu_w32 (4 * (σ a0 77))) a1) 226 (zu_w32 ((zu_w32 (4 * ((zu_up σ 226 (zu_w32 (4 * (σ a0 77))) a1) a0 77))) + 1)) a2) a0 77))) + 2)) ∧ (zu_w32 ((zu_w32 (4 * ((zu_up (zu_up σ 226 (zu_w32 (4 * (σ a0 77))) a1) 226 (zu_w32 ((zu_w32 (4 * ((zu_up σ 226 (zu_w32 (4 * (σ a0 77))) a1) a0 77))) + 1)) a2) a0 77))) + 2)) < 96 then (if 0 ≤ (zu_w32 ((zu_w32 (4 * ((zu_up (zu_up (zu_up σ 226 (zu_w32 (4 * (σ a0 77))) a1) 226 (zu_w32 ((zu_w32 (4 * ((zu_up σ 226 (zu_w32 (4 * (σ a0 77))) a1) a0 77))) + 1)) a2) 226 (zu_w32 ((zu_w32 (4 * ((zu_up (zu_up σ 226 (zu_w32 (4 * (σ a0 77))) a1) 226 (zu_w32 ((zu_w32 (4 * ((zu_up σ 226 (zu_w32 (4 * (σ a0 77))) a1) a0 77))) + 1)) a2) a0 77))) + 2)) a3) a0 77))) + 3)) ∧ (zu_w32 ((zu_w32 (4 * ((zu_up (zu_up (zu_up σ 226 (zu_w32 (4 * (σ a0 77))) a1) 226 (zu_w32 ((zu_w32 (4 * ((zu_up σ 226 (zu_w32 (4 * (σ a0 77))) a1) a0 77))) + 1)) a2) 226 (zu_w32 ((zu_w32 (4 * ((zu_up (zu_up σ 226 (zu_w32 (4 * (σ a0 77))) a1) 226 (zu_w32 ((zu_w32 (4 * ((zu_up σ 226 (zu_w32 (4 * (σ a0 77))) a1) a0 77))) + 1)) a2) a0 77))) + 2)) a3) a0 77))) + 3)) < 96 then (some ((zu_w32 (((zu_up (zu_up (zu_up (zu_up (zu_up σ 226 (zu_w32 (4 * (σ a0 77))) a1) 226 (zu_w32 ((zu_w32 (4 * ((zu_up σ 226 (zu_w32 (4 * (σ a0 77))) a1) a0 77))) + 1)) a2) 226 (zu_w32 ((zu_w32 (4 * ((zu_up (zu_up σ 226 (zu_w32 (4 * (σ a0 77))) a1) 226 (zu_w32 ((zu_w32 (4 * ((zu_up σ 226 (zu_w32 (4 * (σ a0 77))) a1) a0 77))) + 1)) a2) a0 77))) + 2)) a3) 226 (zu_w32 ((zu_w32 (4 * ((zu_up (zu_up (zu_up σ 226 (zu_w32 (4 * (σ a0 77))) a1) 226 (zu_w32 ((zu_w32 (4 * ((zu_up σ 226 (zu_w32 (4 * (σ a0 77))) a1) a0 77))) + 1)) a2) 226 (zu_w32 ((zu_w32 (4 * ((zu_up (zu_up σ 226 (zu_w32 (4 * (σ a0 77))) a1) 226 (zu_w32 ((zu_w32 (4 * ((zu_up σ 226 (zu_w32 (4 * (σ a0 77))) a1) a0 77))) + 1)) a2) a0 77))) + 2)) a3) a0 77))) + 3)) a4) a0 77 (zu_w32 (((zu_up (zu_up (zu_up (zu_up σ 226 (zu_w32 (4 * (σ a0 77))) a1) 226 (zu_w32 ((zu_w32 (4 * ((zu_up σ 226 (zu_w32 (4 * (σ a0 77))) a1) a0 77))) + 1)) a2) 226 (zu_w32 ((zu_w32 (4 * ((zu_up (zu_up σ 226 (zu_w32 (4 * (σ a0 77))) a1) 226 (zu_w32 ((zu_w32 (4 * ((zu_up σ 226 (zu_w32 (4 * (σ a0 77))) a1) a0 77))) + 1)) a2) a0 77))) + 2)) a3) 226 (zu_w32 ((zu_w32 (4 * ((zu_up (zu_up (zu_up σ 226 (zu_w32 (4 * (σ a0 77))) a1) 226 (zu_w32 ((zu_w32 (4 * ((zu_up σ 226 (zu_w32 (4 * (σ a0 77))) a1) a0 77))) + 1)) a2) 226 (zu_w32 ((zu_w32 (4 * ((zu_up (zu_up σ 226 (zu_w32 (4 * (σ a0 77))) a1) 226 (zu_w32 ((zu_w32 (4 * ((zu_up σ 226 (zu_w32 (4 * (σ a0 77))) a1) a0 77))) + 1)) a2) a0 77))) + 2)) a3) a0 77))) + 3)) a4) a0 77) + 1))) a0 77) - 1)), (zu_up (zu_up (zu_up (zu_up (zu_up σ 226 (zu_w32 (4 * (σ a0 77))) a1) 226 (zu_w32 ((zu_w32 (4 * ((zu_up σ 226 (zu_w32 (4 * (σ a0 77))) a1) a0 77))) + 1)) a2) 226 (zu_w32 ((zu_w32 (4 * ((zu_up (zu_up σ 226 (zu_w32 (4 * (σ a0 77))) a1) 226 (zu_w32 ((zu_w32 (4 * ((zu_up σ 226 (zu_w32 (4 * (σ a0 77))) a1) a0 77))) + 1)) a2) a0 77))) + 2)) a3) 226 (zu_w32 ((zu_w32 (4 * ((zu_up (zu_up (zu_up σ 226 (zu_w32 (4 * (σ a0 77))) a1) 226 (zu_w32 ((zu_w32 (4 * ((zu_up σ 226 (zu_w32 (4 * (σ a0 77))) a1) a0 77))) + 1)) a2) 226 (zu_w32 ((zu_w32 (4 * ((zu_up (zu_up σ 226 (zu_w32 (4 * (σ a0 77))) a1) 226 (zu_w32 ((zu_w32 (4 * ((zu_up σ 226 (zu_w32 (4 * (σ a0 77))) a1) a0 77))) + 1)) a2) a0 77))) + 2)) a3) a0 77))) + 3)) a4) a0 77 (zu_w32 (((zu_up (zu_up (zu_up (zu_up σ 226 (zu_w32 (4 * (σ a0 77))) a1) 226 (zu_w32 ((zu_w32 (4 * ((zu_up σ 226 (zu_w32 (4 * (σ a0 77))) a1) a0 77))) + 1)) a2) 226 (zu_w32 ((zu_w32 (4 * ((zu_up (zu_up σ 226 (zu_w32 (4 * (σ a0 77))) a1) 226 (zu_w32 ((zu_w32 (4 * ((zu_up σ 226 (zu_w32 (4 * (σ a0 77))) a1) a0 77))) + 1)) a2) a0 77))) + 2)) a3) 226 (zu_w32 ((zu_w32 (4 * ((zu_up (zu_up (zu_up σ 226 (zu_w32 (4 * (σ a0 77))) a1) 226 (zu_w32 ((zu_w32 (4 * ((zu_up σ 226 (zu_w32 (4 * (σ a0 77))) a1) a0 77))) + 1)) a2) 226 (zu_w32 ((zu_w32 (4 * ((zu_up (zu_up σ 226 (zu_w32 (4 * (σ a0 77))) a1) 226 (zu_w32 ((zu_w32 (4 * ((zu_up σ 226 (zu_w32 (4 * (σ a0 77))) a1) a0 77))) + 1)) a2) a0 77))) + 2)) a3) a0 77))) + 3)) a4) a0 77) + 1))))) else none) else none) else none) else none)
set_option maxRecDepth 100000 in
set_option maxHeartbeats 4000000 in
theorem za_178_0 (n : Nat) (c : zu_C) (ex : zu_I) (a0 a1 a2 a3 a4 : Int) (σ : zu_m) : zu_rega (zt_T n) c ex 0 zt_m178 [] 400 0 [(40, a0), (0, a1), (0, a2), (0, a3), (0, a4)] [] σ = zd_178_0 c ex a0 a1 a2 a3 a4 σ := rfl
set_option maxRecDepth 100000 in
theorem zr_178_0 (n : Nat) (a0 a1 a2 a3 a4 : Int) (σ : zu_m) : zu_call (zt_T n) 178 [(40, a0), (0, a1), (0, a2), (0, a3), (0, a4)] σ = zd_178_0 (zu_call (zt_T n)) (zu_ex (zt_T n) 178) a0 a1 a2 a3 a4 σ := zu_call_at (zt_T n) (d := 0) (y := zt_m178) rfl rfl [] 400 [(40, a0), (0, a1), (0, a2), (0, a3), (0, a4)] [(40, a0), (0, a1), (0, a2), (0, a3), (0, a4)] σ rfl (za_178_0 n _ _ a0 a1 a2 a3 a4 σ)
def zd_182_0 (c : zu_C) (ex : zu_I) (a0 : Int) (σ : zu_m) : Option zu_R := (if 0 ≤ (σ a0 78) then (some ((σ a0 78), σ)) else (some ((σ a0 77), σ)))
set_option maxRecDepth 100000 in
set_option maxHeartbeats 4000000 in
theorem za_182_0 (n : Nat) (c : zu_C) (ex : zu_I) (a0 : Int) (σ : zu_m) : zu_rega (zt_T n) c ex 0 zt_m182 [] 400 0 [(40, a0)] [] σ = zd_182_0 c ex a0 σ := rfl
set_option maxRecDepth 100000 in
theorem zr_182_0 (n : Nat) (a0 : Int) (σ : zu_m) : zu_call (zt_T n) 182 [(40, a0)] σ = zd_182_0 (zu_call (zt_T n)) (zu_ex (zt_T n) 182) a0 σ := zu_call_at (zt_T n) (d := 0) (y := zt_m182) rfl rfl [] 400 [(40, a0)] [(40, a0)] σ rfl (za_182_0 n _ _ a0 σ)
def zd_271_0 (c : zu_C) (ex : zu_I) (a0 : Int) (σ : zu_m) : Option zu_R := (if (σ a0 7) ≠ (-1) then (some ((σ a0 7), σ)) else (some ((σ a0 6), σ)))
set_option maxRecDepth 100000 in
set_option maxHeartbeats 4000000 in
theorem za_271_0 (n : Nat) (c : zu_C) (ex : zu_I) (a0 : Int) (σ : zu_m) : zu_rega (zt_T n) c ex 0 zt_m271 [] 400 0 [(28, a0)] [] σ = zd_271_0 c ex a0 σ := rfl
set_option maxRecDepth 100000 in
theorem zr_271_0 (n : Nat) (a0 : Int) (σ : zu_m) : zu_call (zt_T n) 271 [(28, a0)] σ = zd_271_0 (zu_call (zt_T n)) (zu_ex (zt_T n) 271) a0 σ := zu_call_at (zt_T n) (d := 0) (y := zt_m271) rfl rfl [] 400 [(28, a0)] [(28, a0)] σ rfl (za_271_0 n _ _ a0 σ)
def zd_149_0 (c : zu_C) (ex : zu_I) (a0 a1 a2 a3 a4 : Int) (σ : zu_m) : Option zu_R := (if 0 ≤ a1 ∧ a1 < 2 then (if 0 ≤ (σ 216 a1) ∧ (σ 216 a1) < 36 then (if 0 ≤ (σ 216 a1) ∧ (σ 216 a1) < 36 then (if 0 ≤ (σ 216 a1) ∧ (σ 216 a1) < 36 then (if 0 ≤ (zu_w32 ((zu_w32 (18 * a1)) + (σ 216 a1))) ∧ (zu_w32 ((zu_w32 (18 * a1)) + (σ 216 a1))) < 36 then (if 0 ≤ a1 ∧ a1 < 2 then (if 0 ≤ a1 ∧ a1 < 2 then (some (0, (zu_up (zu_up (zu_up (zu_up (zu_up σ 197 (σ 216 a1) a2) 198 (σ 216 a1) a3) 199 (σ 216 a1) a4) 215 (zu_w32 ((zu_w32 (18 * a1)) + (σ 216 a1))) (-1)) 216 a1 (zu_w32 (((zu_up (zu_up (zu_up (zu_up σ 197 (σ 216 a1) a2) 198 (σ 216 a1) a3) 199 (σ 216 a1) a4) 215 (zu_w32 ((zu_w32 (18 * a1)) + (σ 216 a1))) (-1)) 216 a1) + 1))))) else none) else none) else none) else none) else none) else none) else none)
set_option maxRecDepth 100000 in
set_option maxHeartbeats 4000000 in
theorem za_149_0 (n : Nat) (c : zu_C) (ex : zu_I) (a0 a1 a2 a3 a4 : Int) (σ : zu_m) : zu_rega (zt_T n) c ex 0 zt_m149 [] 400 0 [(40, a0), (0, a1), (0, a2), (0, a3), (0, a4), (2, 0)] [] σ = zd_149_0 c ex a0 a1 a2 a3 a4 σ := rfl
set_option maxRecDepth 100000 in
theorem zr_149_0 (n : Nat) (a0 a1 a2 a3 a4 : Int) (σ : zu_m) : zu_call (zt_T n) 149 [(40, a0), (0, a1), (0, a2), (0, a3), (0, a4)] σ = zd_149_0 (zu_call (zt_T n)) (zu_ex (zt_T n) 149) a0 a1 a2 a3 a4 σ := zu_call_at (zt_T n) (d := 0) (y := zt_m149) rfl rfl [] 400 [(40, a0), (0, a1), (0, a2), (0, a3), (0, a4)] [(40, a0), (0, a1), (0, a2), (0, a3), (0, a4), (2, 0)] σ rfl (za_149_0 n _ _ a0 a1 a2 a3 a4 σ)
def zd_128_0 (c : zu_C) (ex : zu_I) (a0 a1 : Int) (σ : zu_m) : Option zu_R := (if (σ a0 68) = 0 then (if 0 ≤ a1 ∧ a1 < 8 then (some ((σ 202 a1), σ)) else none) else (some (11, σ)))
set_option maxRecDepth 100000 in
set_option maxHeartbeats 4000000 in
theorem za_128_0 (n : Nat) (c : zu_C) (ex : zu_I) (a0 a1 : Int) (σ : zu_m) : zu_rega (zt_T n) c ex 0 zt_m128 [] 400 0 [(40, a0), (0, a1)] [] σ = zd_128_0 c ex a0 a1 σ := rfl
set_option maxRecDepth 100000 in
theorem zr_128_0 (n : Nat) (a0 a1 : Int) (σ : zu_m) : zu_call (zt_T n) 128 [(40, a0), (0, a1)] σ = zd_128_0 (zu_call (zt_T n)) (zu_ex (zt_T n) 128) a0 a1 σ := zu_call_at (zt_T n) (d := 0) (y := zt_m128) rfl rfl [] 400 [(40, a0), (0, a1)] [(40, a0), (0, a1)] σ rfl (za_128_0 n _ _ a0 a1 σ)
def zd_248_0 (c : zu_C) (ex : zu_I) (a0 a1 : Int) (σ : zu_m) : Option zu_R := (if 0 ≤ (6 : Int) ∧ (6 : Int) < 7 then (some (0, (zu_up σ (a0 + 12) 6 a1))) else none)
set_option maxRecDepth 100000 in
set_option maxHeartbeats 4000000 in
theorem za_248_0 (n : Nat) (c : zu_C) (ex : zu_I) (a0 a1 : Int) (σ : zu_m) : zu_rega (zt_T n) c ex 0 zt_m248 [] 400 0 [(8, a0), (0, a1)] [] σ = zd_248_0 c ex a0 a1 σ := rfl
set_option maxRecDepth 100000 in
theorem zr_248_0 (n : Nat) (a0 a1 : Int) (σ : zu_m) : zu_call (zt_T n) 248 [(8, a0), (0, a1)] σ = zd_248_0 (zu_call (zt_T n)) (zu_ex (zt_T n) 248) a0 a1 σ := zu_call_at (zt_T n) (d := 0) (y := zt_m248) rfl rfl [] 400 [(8, a0), (0, a1)] [(8, a0), (0, a1)] σ rfl (za_248_0 n _ _ a0 a1 σ)
def zd_217_0 (c : zu_C) (ex : zu_I) (a0 a1 a2 : Int) (σ : zu_m) : Option zu_R := (if (σ a0 10) ≠ 1 then (zu_b 1 (some (1, σ))) else (if (4 : Int) = 0 then none else (if a2 ≠ (Int.tmod a1 4) then (zu_b 0 (some (0, σ))) else (zu_b 1 (some (1, σ))))))
set_option maxRecDepth 100000 in
set_option maxHeartbeats 4000000 in
theorem za_217_0 (n : Nat) (c : zu_C) (ex : zu_I) (a0 a1 a2 : Int) (σ : zu_m) : zu_rega (zt_T n) c ex 0 zt_m217 [] 400 0 [(27, a0), (0, a1), (0, a2)] [] σ = zd_217_0 c ex a0 a1 a2 σ := rfl
set_option maxRecDepth 100000 in
theorem zr_217_0 (n : Nat) (a0 a1 a2 : Int) (σ : zu_m) : zu_call (zt_T n) 217 [(27, a0), (0, a1), (0, a2)] σ = zd_217_0 (zu_call (zt_T n)) (zu_ex (zt_T n) 217) a0 a1 a2 σ := zu_call_at (zt_T n) (d := 0) (y := zt_m217) rfl rfl [] 400 [(27, a0), (0, a1), (0, a2)] [(27, a0), (0, a1), (0, a2)] σ rfl (za_217_0 n _ _ a0 a1 a2 σ)
def zd_249_0 (c : zu_C) (ex : zu_I) (a0 a1 : Int) (σ : zu_m) : Option zu_R := (zu_bd (c 26 [(10, (a0 + 4)), (0, a1), (15, (a0 + 12))] σ) (fun v9 s9 => (some (v9, s9))))
set_option maxRecDepth 100000 in
set_option maxHeartbeats 4000000 in
theorem za_249_0 (n : Nat) (c : zu_C) (ex : zu_I) (a0 a1 : Int) (σ : zu_m) : zu_rega (zt_T n) c ex 2 zt_m249 [] 400 0 [(8, a0), (0, a1)] [] σ = zd_249_0 c ex a0 a1 σ := rfl
set_option maxRecDepth 100000 in
theorem zr_249_0 (n : Nat) (a0 a1 : Int) (σ : zu_m) : zu_call (zt_T n) 249 [(8, a0), (0, a1)] σ = zd_249_0 (zu_call (zt_T n)) (zu_ex (zt_T n) 249) a0 a1 σ := zu_call_at (zt_T n) (d := 2) (y := zt_m249) rfl rfl [] 400 [(8, a0), (0, a1)] [(8, a0), (0, a1)] σ rfl (za_249_0 n _ _ a0 a1 σ)
def zd_87_0 (c : zu_C) (ex : zu_I) (a0 a1 : Int) (σ : zu_m) : Option zu_R := (if (σ a0 6) ≤ a1 then (zu_b 0 (some (0, σ))) else (if 0 ≤ a1 ∧ a1 < 700 then (if (σ 191 a1) < 97 then (zu_b 0 (some (0, σ))) else (if 0 ≤ a1 ∧ a1 < 700 then (if 122 < (σ 191 a1) then (zu_b 0 (some (0, σ))) else (zu_b 1 (some (1, σ)))) else none)) else none))
set_option maxRecDepth 100000 in
set_option maxHeartbeats 4000000 in
theorem za_87_0 (n : Nat) (c : zu_C) (ex : zu_I) (a0 a1 : Int) (σ : zu_m) : zu_rega (zt_T n) c ex 0 zt_m87 [] 400 0 [(40, a0), (0, a1)] [] σ = zd_87_0 c ex a0 a1 σ := rfl
set_option maxRecDepth 100000 in
theorem zr_87_0 (n : Nat) (a0 a1 : Int) (σ : zu_m) : zu_call (zt_T n) 87 [(40, a0), (0, a1)] σ = zd_87_0 (zu_call (zt_T n)) (zu_ex (zt_T n) 87) a0 a1 σ := zu_call_at (zt_T n) (d := 0) (y := zt_m87) rfl rfl [] 400 [(40, a0), (0, a1)] [(40, a0), (0, a1)] σ rfl (za_87_0 n _ _ a0 a1 σ)
def zd_88_0 (c : zu_C) (ex : zu_I) (a0 a1 : Int) (σ : zu_m) : Option zu_R := (if (σ a0 6) ≤ a1 then (zu_b 0 (some (0, σ))) else (if 0 ≤ a1 ∧ a1 < 700 then (if (σ 191 a1) < 48 then (zu_b 0 (some (0, σ))) else (if 0 ≤ a1 ∧ a1 < 700 then (if 57 < (σ 191 a1) then (zu_b 0 (some (0, σ))) else (zu_b 1 (some (1, σ)))) else none)) else none))
set_option maxRecDepth 100000 in
set_option maxHeartbeats 4000000 in
theorem za_88_0 (n : Nat) (c : zu_C) (ex : zu_I) (a0 a1 : Int) (σ : zu_m) : zu_rega (zt_T n) c ex 0 zt_m88 [] 400 0 [(40, a0), (0, a1)] [] σ = zd_88_0 c ex a0 a1 σ := rfl
set_option maxRecDepth 100000 in
theorem zr_88_0 (n : Nat) (a0 a1 : Int) (σ : zu_m) : zu_call (zt_T n) 88 [(40, a0), (0, a1)] σ = zd_88_0 (zu_call (zt_T n)) (zu_ex (zt_T n) 88) a0 a1 σ := zu_call_at (zt_T n) (d := 0) (y := zt_m88) rfl rfl [] 400 [(40, a0), (0, a1)] [(40, a0), (0, a1)] σ rfl (za_88_0 n _ _ a0 a1 σ)
def zd_253_0 (c : zu_C) (ex : zu_I) (a0 a1 : Int) (σ : zu_m) : Option zu_R := (some ((zu_w32 (zu_max 0 (zu_min a1 a0))), σ))
set_option maxRecDepth 100000 in
set_option maxHeartbeats 4000000 in
theorem za_253_0 (n : Nat) (c : zu_C) (ex : zu_I) (a0 a1 : Int) (σ : zu_m) : zu_rega (zt_T n) c ex 0 zt_m253 [] 400 0 [(1, a0), (2, 0), (0, a1)] [] σ = zd_253_0 c ex a0 a1 σ := rfl
set_option maxRecDepth 100000 in
theorem zr_253_0 (n : Nat) (a0 a1 : Int) (σ : zu_m) : zu_call (zt_T n) 253 [(1, a0), (0, a1)] σ = zd_253_0 (zu_call (zt_T n)) (zu_ex (zt_T n) 253) a0 a1 σ := zu_call_at (zt_T n) (d := 0) (y := zt_m253) rfl rfl [] 400 [(1, a0), (0, a1)] [(1, a0), (2, 0), (0, a1)] σ rfl (za_253_0 n _ _ a0 a1 σ)
def zd_85_0 (c : zu_C) (ex : zu_I) (a0 a1 : Int) (σ : zu_m) : Option zu_R := (zu_b 0 (some (0, (zu_up (zu_up σ a0 4 a1) a0 5 ((zu_up σ a0 4 a1) a0 10)))))
set_option maxRecDepth 100000 in
set_option maxHeartbeats 4000000 in
theorem za_85_0 (n : Nat) (c : zu_C) (ex : zu_I) (a0 a1 : Int) (σ : zu_m) : zu_rega (zt_T n) c ex 0 zt_m85 [] 400 0 [(40, a0), (0, a1)] [] σ = zd_85_0 c ex a0 a1 σ := rfl
set_option maxRecDepth 100000 in
theorem zr_85_0 (n : Nat) (a0 a1 : Int) (σ : zu_m) : zu_call (zt_T n) 85 [(40, a0), (0, a1)] σ = zd_85_0 (zu_call (zt_T n)) (zu_ex (zt_T n) 85) a0 a1 σ := zu_call_at (zt_T n) (d := 0) (y := zt_m85) rfl rfl [] 400 [(40, a0), (0, a1)] [(40, a0), (0, a1)] σ rfl (za_85_0 n _ _ a0 a1 σ)
def zd_98_0 (c : zu_C) (ex : zu_I) (a0 a1 : Int) (σ : zu_m) : Option zu_R := (if 0 ≤ a1 ∧ a1 < 6 then (if (σ 193 a1) = 0 then (zu_b 1 (if 0 ≤ a1 ∧ a1 < 6 then (zu_bd (c 89 [(40, a0)] (zu_up σ 193 a1 1)) (fun v23 s23 => (zu_b 1 (some (1, s23))))) else none)) else (zu_bd (c 85 [(40, a0), (0, 3)] σ) (fun v11 s11 => (zu_b v11 (some (v11, s11)))))) else none)
set_option maxRecDepth 100000 in
set_option maxHeartbeats 4000000 in
theorem za_98_0 (n : Nat) (c : zu_C) (ex : zu_I) (a0 a1 : Int) (σ : zu_m) : zu_rega (zt_T n) c ex 2 zt_m98 [] 400 0 [(40, a0), (0, a1)] [] σ = zd_98_0 c ex a0 a1 σ := rfl
set_option maxRecDepth 100000 in
theorem zr_98_0 (n : Nat) (a0 a1 : Int) (σ : zu_m) : zu_call (zt_T n) 98 [(40, a0), (0, a1)] σ = zd_98_0 (zu_call (zt_T n)) (zu_ex (zt_T n) 98) a0 a1 σ := zu_call_at (zt_T n) (d := 2) (y := zt_m98) rfl rfl [] 400 [(40, a0), (0, a1)] [(40, a0), (0, a1)] σ rfl (za_98_0 n _ _ a0 a1 σ)
def zd_97_0 (c : zu_C) (ex : zu_I) (a0 a1 a2 : Int) (σ : zu_m) : Option zu_R := (if (σ a0 8) ≠ 1 then (zu_bd (c 85 [(40, a0), (0, 1)] σ) (fun v26 s26 => (zu_b v26 (some (v26, s26))))) else (if (σ a0 9) < a1 then (zu_bd (c 85 [(40, a0), (0, 1)] σ) (fun v26 s26 => (zu_b v26 (some (v26, s26))))) else (if (σ a0 9) ≤ a2 then (zu_bd (c 89 [(40, a0)] σ) (fun v38 s38 => (zu_b 1 (some (1, (zu_up s38 a0 11 (zu_w32 ((σ a0 9) - a1)))))))) else (zu_bd (c 85 [(40, a0), (0, 1)] σ) (fun v26 s26 => (zu_b v26 (some (v26, s26))))))))
set_option maxRecDepth 100000 in
set_option maxHeartbeats 4000000 in
theorem za_97_0 (n : Nat) (c : zu_C) (ex : zu_I) (a0 a1 a2 : Int) (σ : zu_m) : zu_rega (zt_T n) c ex 2 zt_m97 [] 400 0 [(40, a0), (0, a1), (0, a2), (2, 0)] [] σ = zd_97_0 c ex a0 a1 a2 σ := rfl
set_option maxRecDepth 100000 in
theorem zr_97_0 (n : Nat) (a0 a1 a2 : Int) (σ : zu_m) : zu_call (zt_T n) 97 [(40, a0), (0, a1), (0, a2)] σ = zd_97_0 (zu_call (zt_T n)) (zu_ex (zt_T n) 97) a0 a1 a2 σ := zu_call_at (zt_T n) (d := 2) (y := zt_m97) rfl rfl [] 400 [(40, a0), (0, a1), (0, a2)] [(40, a0), (0, a1), (0, a2), (2, 0)] σ rfl (za_97_0 n _ _ a0 a1 a2 σ)
def zd_94_0 (c : zu_C) (ex : zu_I) (a0 a1 a2 : Int) (σ : zu_m) : Option zu_R := (if (σ a0 8) = 3 then (zu_bd (c 83 [(0, (σ a0 9)), (0, a1), (0, a2)] σ) (fun v20 s20 => (if v20 ≠ 0 then (zu_bd (c 89 [(40, a0)] (zu_up s20 a0 11 (s20 a0 9))) (fun v41 s41 => (zu_b 1 (some (1, s41))))) else (zu_bd (c 85 [(40, a0), (0, 2)] s20) (fun v28 s28 => (zu_b v28 (some (v28, s28)))))))) else (zu_bd (c 85 [(40, a0), (0, 1)] σ) (fun v10 s10 => (zu_b v10 (some (v10, s10))))))
set_option maxRecDepth 100000 in
set_option maxHeartbeats 4000000 in
theorem za_94_0 (n : Nat) (c : zu_C) (ex : zu_I) (a0 a1 a2 : Int) (σ : zu_m) : zu_rega (zt_T n) c ex 2 zt_m94 [] 400 0 [(40, a0), (0, a1), (0, a2)] [] σ = zd_94_0 c ex a0 a1 a2 σ := rfl
set_option maxRecDepth 100000 in
theorem zr_94_0 (n : Nat) (a0 a1 a2 : Int) (σ : zu_m) : zu_call (zt_T n) 94 [(40, a0), (0, a1), (0, a2)] σ = zd_94_0 (zu_call (zt_T n)) (zu_ex (zt_T n) 94) a0 a1 a2 σ := zu_call_at (zt_T n) (d := 2) (y := zt_m94) rfl rfl [] 400 [(40, a0), (0, a1), (0, a2)] [(40, a0), (0, a1), (0, a2)] σ rfl (za_94_0 n _ _ a0 a1 a2 σ)
def zd_96_0 (c : zu_C) (ex : zu_I) (a0 : Int) (σ : zu_m) : Option zu_R := (zu_b 1 (zu_bd (c 94 [(40, a0), (0, 0), (0, (zu_w32 (((zu_up σ a0 23 1) a0 17) - 1)))] (zu_up σ a0 23 1)) (fun v13 s13 => (if v13 ≠ 0 then (zu_bd (c 94 [(40, a0), (0, 0), (0, (zu_w32 (((zu_up s13 a0 42 (s13 a0 10)) a0 18) - 1)))] (zu_up s13 a0 42 (s13 a0 10))) (fun v42 s42 => (if v42 ≠ 0 then (zu_b 1 (some (1, (zu_up s42 a0 11 (zu_w32 ((zu_w32 ((s42 a0 17) * (s42 a0 11))) + (s13 a0 11))))))) else (zu_b 0 (some (0, s42)))))) else (zu_b 0 (some (0, s13)))))))
set_option maxRecDepth 100000 in
set_option maxHeartbeats 4000000 in
theorem za_96_0 (n : Nat) (c : zu_C) (ex : zu_I) (a0 : Int) (σ : zu_m) : zu_rega (zt_T n) c ex 3 zt_m96 [] 400 0 [(40, a0), (2, 0)] [] σ = zd_96_0 c ex a0 σ := rfl
set_option maxRecDepth 100000 in
theorem zr_96_0 (n : Nat) (a0 : Int) (σ : zu_m) : zu_call (zt_T n) 96 [(40, a0)] σ = zd_96_0 (zu_call (zt_T n)) (zu_ex (zt_T n) 96) a0 σ := zu_call_at (zt_T n) (d := 3) (y := zt_m96) rfl rfl [] 400 [(40, a0)] [(40, a0), (2, 0)] σ rfl (za_96_0 n _ _ a0 σ)
def zd_93_0 (c : zu_C) (ex : zu_I) (a0 a1 : Int) (σ : zu_m) : Option zu_R := (if (σ a0 8) ≠ 4 then (zu_b 0 (some (0, σ))) else (if (σ a0 9) ≠ a1 then (zu_b 0 (some (0, σ))) else (zu_b 1 (some (1, σ)))))
set_option maxRecDepth 100000 in
set_option maxHeartbeats 4000000 in
theorem za_93_0 (n : Nat) (c : zu_C) (ex : zu_I) (a0 a1 : Int) (σ : zu_m) : zu_rega (zt_T n) c ex 0 zt_m93 [] 400 0 [(40, a0), (0, a1)] [] σ = zd_93_0 c ex a0 a1 σ := rfl
set_option maxRecDepth 100000 in
theorem zr_93_0 (n : Nat) (a0 a1 : Int) (σ : zu_m) : zu_call (zt_T n) 93 [(40, a0), (0, a1)] σ = zd_93_0 (zu_call (zt_T n)) (zu_ex (zt_T n) 93) a0 a1 σ := zu_call_at (zt_T n) (d := 0) (y := zt_m93) rfl rfl [] 400 [(40, a0), (0, a1)] [(40, a0), (0, a1)] σ rfl (za_93_0 n _ _ a0 a1 σ)
def zd_275_0 (c : zu_C) (ex : zu_I) (a0 a1 : Int) (σ : zu_m) : Option zu_R := (if 0 ≤ a1 ∧ a1 < 24 then (if (σ 147 a1) ≠ 0 then (zu_b 0 (some (0, σ))) else (if 0 ≤ a1 ∧ a1 < 24 then (if (σ 146 a1) ≠ (-1) then (zu_b 0 (some (0, σ))) else (zu_b 1 (some (1, σ)))) else none)) else none)
set_option maxRecDepth 100000 in
set_option maxHeartbeats 4000000 in
theorem za_275_0 (n : Nat) (c : zu_C) (ex : zu_I) (a0 a1 : Int) (σ : zu_m) : zu_rega (zt_T n) c ex 0 zt_m275 [] 400 0 [(28, a0), (0, a1)] [] σ = zd_275_0 c ex a0 a1 σ := rfl
set_option maxRecDepth 100000 in
theorem zr_275_0 (n : Nat) (a0 a1 : Int) (σ : zu_m) : zu_call (zt_T n) 275 [(28, a0), (0, a1)] σ = zd_275_0 (zu_call (zt_T n)) (zu_ex (zt_T n) 275) a0 a1 σ := zu_call_at (zt_T n) (d := 0) (y := zt_m275) rfl rfl [] 400 [(28, a0), (0, a1)] [(28, a0), (0, a1)] σ rfl (za_275_0 n _ _ a0 a1 σ)
def zd_92_0 (c : zu_C) (ex : zu_I) (a0 a1 : Int) (σ : zu_m) : Option zu_R := (if (σ a0 8) ≠ 1 then (zu_b 0 (some (0, σ))) else (if (σ a0 9) ≠ a1 then (zu_b 0 (some (0, σ))) else (zu_b 1 (some (1, σ)))))
set_option maxRecDepth 100000 in
set_option maxHeartbeats 4000000 in
theorem za_92_0 (n : Nat) (c : zu_C) (ex : zu_I) (a0 a1 : Int) (σ : zu_m) : zu_rega (zt_T n) c ex 0 zt_m92 [] 400 0 [(40, a0), (0, a1)] [] σ = zd_92_0 c ex a0 a1 σ := rfl
set_option maxRecDepth 100000 in
theorem zr_92_0 (n : Nat) (a0 a1 : Int) (σ : zu_m) : zu_call (zt_T n) 92 [(40, a0), (0, a1)] σ = zd_92_0 (zu_call (zt_T n)) (zu_ex (zt_T n) 92) a0 a1 σ := zu_call_at (zt_T n) (d := 0) (y := zt_m92) rfl rfl [] 400 [(40, a0), (0, a1)] [(40, a0), (0, a1)] σ rfl (za_92_0 n _ _ a0 a1 σ)
def zd_109_0 (c : zu_C) (ex : zu_I) (a0 : Int) (σ : zu_m) : Option zu_R := (if a0 < 13 then (if a0 < 11 then (if a0 < 5 then (if a0 ≠ 2 then (if a0 ≠ 3 then (if a0 ≠ 4 then (some (0, σ)) else (some (1, σ))) else (some (2, σ))) else (some (3, σ))) else (some (4, σ))) else (some (5, σ))) else (some (6, σ)))
set_option maxRecDepth 100000 in
set_option maxHeartbeats 4000000 in
theorem za_109_0 (n : Nat) (c : zu_C) (ex : zu_I) (a0 : Int) (σ : zu_m) : zu_rega (zt_T n) c ex 0 zt_m109 [] 400 0 [(0, a0)] [] σ = zd_109_0 c ex a0 σ := rfl
set_option maxRecDepth 100000 in
theorem zr_109_0 (n : Nat) (a0 : Int) (σ : zu_m) : zu_call (zt_T n) 109 [(0, a0)] σ = zd_109_0 (zu_call (zt_T n)) (zu_ex (zt_T n) 109) a0 σ := zu_call_at (zt_T n) (d := 0) (y := zt_m109) rfl rfl [] 400 [(0, a0)] [(0, a0)] σ rfl (za_109_0 n _ _ a0 σ)
def zd_115_0 (c : zu_C) (ex : zu_I) (a0 : Int) (σ : zu_m) : Option zu_R := (if (σ a0 8) ≠ 1 then (some ((-1), σ)) else (if (σ a0 9) < 26 then (some ((-1), σ)) else (some ((zu_w32 ((σ a0 9) - 26)), σ))))
set_option maxRecDepth 100000 in
set_option maxHeartbeats 4000000 in
theorem za_115_0 (n : Nat) (c : zu_C) (ex : zu_I) (a0 : Int) (σ : zu_m) : zu_rega (zt_T n) c ex 0 zt_m115 [] 400 0 [(40, a0)] [] σ = zd_115_0 c ex a0 σ := rfl
set_option maxRecDepth 100000 in
theorem zr_115_0 (n : Nat) (a0 : Int) (σ : zu_m) : zu_call (zt_T n) 115 [(40, a0)] σ = zd_115_0 (zu_call (zt_T n)) (zu_ex (zt_T n) 115) a0 σ := zu_call_at (zt_T n) (d := 0) (y := zt_m115) rfl rfl [] 400 [(40, a0)] [(40, a0)] σ rfl (za_115_0 n _ _ a0 σ)
def zd_113_0 (c : zu_C) (ex : zu_I) (a0 : Int) (σ : zu_m) : Option zu_R := (if (σ a0 48) ≠ 64 then (zu_b 1 (some (1, (zu_up σ a0 48 (zu_w32 ((σ a0 48) + 1)))))) else (zu_bd (c 85 [(40, a0), (0, 2)] σ) (fun v11 s11 => (zu_b v11 (some (v11, s11))))))
set_option maxRecDepth 100000 in
set_option maxHeartbeats 4000000 in
theorem za_113_0 (n : Nat) (c : zu_C) (ex : zu_I) (a0 : Int) (σ : zu_m) : zu_rega (zt_T n) c ex 1 zt_m113 [] 400 0 [(40, a0)] [] σ = zd_113_0 c ex a0 σ := rfl
set_option maxRecDepth 100000 in
theorem zr_113_0 (n : Nat) (a0 : Int) (σ : zu_m) : zu_call (zt_T n) 113 [(40, a0)] σ = zd_113_0 (zu_call (zt_T n)) (zu_ex (zt_T n) 113) a0 σ := zu_call_at (zt_T n) (d := 1) (y := zt_m113) rfl rfl [] 400 [(40, a0)] [(40, a0)] σ rfl (za_113_0 n _ _ a0 σ)
def zd_114_0 (c : zu_C) (ex : zu_I) (a0 a1 : Int) (σ : zu_m) : Option zu_R := (if 0 ≤ (σ a0 45) ∧ (σ a0 45) < 96 then (some (0, (zu_up (zu_up σ 211 (σ a0 45) a1) a0 45 (zu_w32 (((zu_up σ 211 (σ a0 45) a1) a0 45) + 1))))) else none)
set_option maxRecDepth 100000 in
set_option maxHeartbeats 4000000 in
theorem za_114_0 (n : Nat) (c : zu_C) (ex : zu_I) (a0 a1 : Int) (σ : zu_m) : zu_rega (zt_T n) c ex 0 zt_m114 [] 400 0 [(40, a0), (0, a1)] [] σ = zd_114_0 c ex a0 a1 σ := rfl
set_option maxRecDepth 100000 in
theorem zr_114_0 (n : Nat) (a0 a1 : Int) (σ : zu_m) : zu_call (zt_T n) 114 [(40, a0), (0, a1)] σ = zd_114_0 (zu_call (zt_T n)) (zu_ex (zt_T n) 114) a0 a1 σ := zu_call_at (zt_T n) (d := 0) (y := zt_m114) rfl rfl [] 400 [(40, a0), (0, a1)] [(40, a0), (0, a1)] σ rfl (za_114_0 n _ _ a0 a1 σ)
def zd_111_0 (c : zu_C) (ex : zu_I) (a0 : Int) (σ : zu_m) : Option zu_R := (if 0 ≤ ((zu_up σ a0 46 (zu_w32 ((σ a0 46) - 1))) a0 46) ∧ ((zu_up σ a0 46 (zu_w32 ((σ a0 46) - 1))) a0 46) < 96 then (some (((zu_up σ a0 46 (zu_w32 ((σ a0 46) - 1))) 212 ((zu_up σ a0 46 (zu_w32 ((σ a0 46) - 1))) a0 46)), (zu_up σ a0 46 (zu_w32 ((σ a0 46) - 1))))) else none)
set_option maxRecDepth 100000 in
set_option maxHeartbeats 4000000 in
theorem za_111_0 (n : Nat) (c : zu_C) (ex : zu_I) (a0 : Int) (σ : zu_m) : zu_rega (zt_T n) c ex 0 zt_m111 [] 400 0 [(40, a0)] [] σ = zd_111_0 c ex a0 σ := rfl
set_option maxRecDepth 100000 in
theorem zr_111_0 (n : Nat) (a0 : Int) (σ : zu_m) : zu_call (zt_T n) 111 [(40, a0)] σ = zd_111_0 (zu_call (zt_T n)) (zu_ex (zt_T n) 111) a0 σ := zu_call_at (zt_T n) (d := 0) (y := zt_m111) rfl rfl [] 400 [(40, a0)] [(40, a0)] σ rfl (za_111_0 n _ _ a0 σ)
def zd_279_0 (c : zu_C) (ex : zu_I) (a0 a1 a2 : Int) (σ : zu_m) : Option zu_R := (if (σ a0 4) ≠ 1 then (zu_b 0 (some (0, σ))) else (if (σ a0 5) < a1 then (zu_b 0 (some (0, σ))) else (if (zu_w32 (a1 + a2)) ≤ (σ a0 5) then (zu_b 0 (some (0, σ))) else (zu_b 1 (some (1, σ))))))
set_option maxRecDepth 100000 in
set_option maxHeartbeats 4000000 in
theorem za_279_0 (n : Nat) (c : zu_C) (ex : zu_I) (a0 a1 a2 : Int) (σ : zu_m) : zu_rega (zt_T n) c ex 0 zt_m279 [] 400 0 [(22, a0), (0, a1), (0, a2)] [] σ = zd_279_0 c ex a0 a1 a2 σ := rfl
set_option maxRecDepth 100000 in
theorem zr_279_0 (n : Nat) (a0 a1 a2 : Int) (σ : zu_m) : zu_call (zt_T n) 279 [(22, a0), (0, a1), (0, a2)] σ = zd_279_0 (zu_call (zt_T n)) (zu_ex (zt_T n) 279) a0 a1 a2 σ := zu_call_at (zt_T n) (d := 0) (y := zt_m279) rfl rfl [] 400 [(22, a0), (0, a1), (0, a2)] [(22, a0), (0, a1), (0, a2)] σ rfl (za_279_0 n _ _ a0 a1 a2 σ)
def zd_257_0 (c : zu_C) (ex : zu_I) (a0 a1 : Int) (σ : zu_m) : Option zu_R := (zu_b 0 (some (0, (zu_up (zu_up σ a0 9 a1) a0 10 ((zu_up σ a0 9 a1) 45 6)))))
set_option maxRecDepth 100000 in
set_option maxHeartbeats 4000000 in
theorem za_257_0 (n : Nat) (c : zu_C) (ex : zu_I) (a0 a1 : Int) (σ : zu_m) : zu_rega (zt_T n) c ex 0 zt_m257 [] 400 0 [(7, a0), (0, a1)] [] σ = zd_257_0 c ex a0 a1 σ := rfl
set_option maxRecDepth 100000 in
theorem zr_257_0 (n : Nat) (a0 a1 : Int) (σ : zu_m) : zu_call (zt_T n) 257 [(7, a0), (0, a1)] σ = zd_257_0 (zu_call (zt_T n)) (zu_ex (zt_T n) 257) a0 a1 σ := zu_call_at (zt_T n) (d := 0) (y := zt_m257) rfl rfl [] 400 [(7, a0), (0, a1)] [(7, a0), (0, a1)] σ rfl (za_257_0 n _ _ a0 a1 σ)
def zd_263_0 (c : zu_C) (ex : zu_I) (a0 a1 : Int) (σ : zu_m) : Option zu_R := (if (zu_i32 3 (zu_i32 6 (σ a0 4) a1) 1) ≠ 1 then (zu_b 1 (some (1, (zu_up σ a0 4 (zu_i32 4 (σ a0 4) (zu_i32 5 1 a1)))))) else (zu_bd (c 257 [(7, a0), (0, 3)] σ) (fun v14 s14 => (zu_b v14 (some (v14, s14))))))
set_option maxRecDepth 100000 in
set_option maxHeartbeats 4000000 in
theorem za_263_0 (n : Nat) (c : zu_C) (ex : zu_I) (a0 a1 : Int) (σ : zu_m) : zu_rega (zt_T n) c ex 1 zt_m263 [] 400 0 [(7, a0), (0, a1)] [] σ = zd_263_0 c ex a0 a1 σ := rfl
set_option maxRecDepth 100000 in
theorem zr_263_0 (n : Nat) (a0 a1 : Int) (σ : zu_m) : zu_call (zt_T n) 263 [(7, a0), (0, a1)] σ = zd_263_0 (zu_call (zt_T n)) (zu_ex (zt_T n) 263) a0 a1 σ := zu_call_at (zt_T n) (d := 1) (y := zt_m263) rfl rfl [] 400 [(7, a0), (0, a1)] [(7, a0), (0, a1)] σ rfl (za_263_0 n _ _ a0 a1 σ)
def zd_260_0 (c : zu_C) (ex : zu_I) (a0 a1 a2 : Int) (σ : zu_m) : Option zu_R := (zu_bd (c 18 [(22, 45)] σ) (fun v4 s4 => (if (s4 45 4) = 3 then (if ((zu_up s4 a0 7 (s4 45 5)) a0 7) < a1 then (zu_bd (c 257 [(7, a0), (0, 2)] (zu_up s4 a0 7 (s4 45 5))) (fun v53 s53 => (if v53 = 0 then (zu_b 0 (some (0, s53))) else (zu_b 1 (some (1, s53)))))) else (if ((zu_up s4 a0 7 (s4 45 5)) a0 7) ≤ a2 then (zu_b 1 (some (1, (zu_up s4 a0 7 (s4 45 5))))) else (zu_bd (c 257 [(7, a0), (0, 2)] (zu_up s4 a0 7 (s4 45 5))) (fun v53 s53 => (if v53 = 0 then (zu_b 0 (some (0, s53))) else (zu_b 1 (some (1, s53)))))))) else (zu_bd (c 257 [(7, a0), (0, 1)] s4) (fun v20 s20 => (zu_b v20 (some (v20, s20))))))))
set_option maxRecDepth 100000 in
set_option maxHeartbeats 4000000 in
theorem za_260_0 (n : Nat) (c : zu_C) (ex : zu_I) (a0 a1 a2 : Int) (σ : zu_m) : zu_rega (zt_T n) c ex 2 zt_m260 [] 400 0 [(7, a0), (0, a1), (0, a2)] [] σ = zd_260_0 c ex a0 a1 a2 σ := rfl
set_option maxRecDepth 100000 in
theorem zr_260_0 (n : Nat) (a0 a1 a2 : Int) (σ : zu_m) : zu_call (zt_T n) 260 [(7, a0), (0, a1), (0, a2)] σ = zd_260_0 (zu_call (zt_T n)) (zu_ex (zt_T n) 260) a0 a1 a2 σ := zu_call_at (zt_T n) (d := 2) (y := zt_m260) rfl rfl [] 400 [(7, a0), (0, a1), (0, a2)] [(7, a0), (0, a1), (0, a2)] σ rfl (za_260_0 n _ _ a0 a1 a2 σ)
def zd_261_0 (c : zu_C) (ex : zu_I) (a0 a1 a2 : Int) (σ : zu_m) : Option zu_R := (zu_bd (c 18 [(22, 45)] σ) (fun v4 s4 => (zu_bd (c 279 [(22, 45), (0, a1), (0, a2)] s4) (fun v13 s13 => (if v13 ≠ 0 then (zu_b 1 (some (1, (zu_up s13 a0 7 (zu_w32 ((s13 45 5) - a1)))))) else (zu_bd (c 257 [(7, a0), (0, 1)] s13) (fun v21 s21 => (zu_b v21 (some (v21, s21))))))))))
set_option maxRecDepth 100000 in
set_option maxHeartbeats 4000000 in
theorem za_261_0 (n : Nat) (c : zu_C) (ex : zu_I) (a0 a1 a2 : Int) (σ : zu_m) : zu_rega (zt_T n) c ex 2 zt_m261 [] 400 0 [(7, a0), (0, a1), (0, a2)] [] σ = zd_261_0 c ex a0 a1 a2 σ := rfl
set_option maxRecDepth 100000 in
theorem zr_261_0 (n : Nat) (a0 a1 a2 : Int) (σ : zu_m) : zu_call (zt_T n) 261 [(7, a0), (0, a1), (0, a2)] σ = zd_261_0 (zu_call (zt_T n)) (zu_ex (zt_T n) 261) a0 a1 a2 σ := zu_call_at (zt_T n) (d := 2) (y := zt_m261) rfl rfl [] 400 [(7, a0), (0, a1), (0, a2)] [(7, a0), (0, a1), (0, a2)] σ rfl (za_261_0 n _ _ a0 a1 a2 σ)
def zd_262_0 (c : zu_C) (ex : zu_I) (a0 : Int) (σ : zu_m) : Option zu_R := (zu_b 1 (zu_bd (c 260 [(7, a0), (0, 0), (0, (zu_w32 (((zu_up σ a0 6 1) 6 0) - 1)))] (zu_up σ a0 6 1)) (fun v16 s16 => (if v16 ≠ 0 then (zu_bd (c 260 [(7, a0), (0, 0), (0, (zu_w32 ((s16 6 1) - 1)))] s16) (fun v40 s40 => (if v40 ≠ 0 then (zu_b 1 (some (1, (zu_up s40 a0 8 (zu_w32 ((zu_w32 ((s40 a0 7) * (s40 6 0))) + (s16 a0 7))))))) else (zu_b 0 (some (0, s40)))))) else (zu_b 0 (some (0, s16)))))))
set_option maxRecDepth 100000 in
set_option maxHeartbeats 4000000 in
theorem za_262_0 (n : Nat) (c : zu_C) (ex : zu_I) (a0 : Int) (σ : zu_m) : zu_rega (zt_T n) c ex 3 zt_m262 [] 400 0 [(7, a0), (2, 0)] [] σ = zd_262_0 c ex a0 σ := rfl
set_option maxRecDepth 100000 in
theorem zr_262_0 (n : Nat) (a0 : Int) (σ : zu_m) : zu_call (zt_T n) 262 [(7, a0)] σ = zd_262_0 (zu_call (zt_T n)) (zu_ex (zt_T n) 262) a0 σ := zu_call_at (zt_T n) (d := 3) (y := zt_m262) rfl rfl [] 400 [(7, a0)] [(7, a0), (2, 0)] σ rfl (za_262_0 n _ _ a0 σ)
def zd_269_0 (c : zu_C) (ex : zu_I) (a0 a1 : Int) (σ : zu_m) : Option zu_R := (if a1 ≠ 6 then (if a1 ≠ 7 then (if a1 ≠ 8 then (if a1 ≠ 9 then (if a1 ≠ 10 then (zu_b 1 (some (1, σ))) else (zu_b 1 (some (1, (zu_up σ 6 5 (σ a0 7)))))) else (zu_b 1 (some (1, (zu_up σ 19 11 (σ a0 7)))))) else (zu_b 1 (some (1, (zu_up σ 6 4 (σ a0 7)))))) else (zu_b 1 (some (1, (zu_up σ 6 3 (σ a0 7)))))) else (zu_b 1 (some (1, (zu_up σ 19 10 (σ a0 7))))))
set_option maxRecDepth 100000 in
set_option maxHeartbeats 4000000 in
theorem za_269_0 (n : Nat) (c : zu_C) (ex : zu_I) (a0 a1 : Int) (σ : zu_m) : zu_rega (zt_T n) c ex 0 zt_m269 [] 400 0 [(7, a0), (0, a1)] [] σ = zd_269_0 c ex a0 a1 σ := rfl
set_option maxRecDepth 100000 in
theorem zr_269_0 (n : Nat) (a0 a1 : Int) (σ : zu_m) : zu_call (zt_T n) 269 [(7, a0), (0, a1)] σ = zd_269_0 (zu_call (zt_T n)) (zu_ex (zt_T n) 269) a0 a1 σ := zu_call_at (zt_T n) (d := 0) (y := zt_m269) rfl rfl [] 400 [(7, a0), (0, a1)] [(7, a0), (0, a1)] σ rfl (za_269_0 n _ _ a0 a1 σ)
def zd_278_0 (c : zu_C) (ex : zu_I) (a0 a1 : Int) (σ : zu_m) : Option zu_R := (if (σ a0 4) ≠ 4 then (zu_b 0 (some (0, σ))) else (if (σ a0 5) ≠ a1 then (zu_b 0 (some (0, σ))) else (zu_b 1 (some (1, σ)))))
set_option maxRecDepth 100000 in
set_option maxHeartbeats 4000000 in
theorem za_278_0 (n : Nat) (c : zu_C) (ex : zu_I) (a0 a1 : Int) (σ : zu_m) : zu_rega (zt_T n) c ex 0 zt_m278 [] 400 0 [(22, a0), (0, a1)] [] σ = zd_278_0 c ex a0 a1 σ := rfl
set_option maxRecDepth 100000 in
theorem zr_278_0 (n : Nat) (a0 a1 : Int) (σ : zu_m) : zu_call (zt_T n) 278 [(22, a0), (0, a1)] σ = zd_278_0 (zu_call (zt_T n)) (zu_ex (zt_T n) 278) a0 a1 σ := zu_call_at (zt_T n) (d := 0) (y := zt_m278) rfl rfl [] 400 [(22, a0), (0, a1)] [(22, a0), (0, a1)] σ rfl (za_278_0 n _ _ a0 a1 σ)
def zd_201_0 (c : zu_C) (ex : zu_I) (a0 : Int) (σ : zu_m) : Option zu_R := (if (σ a0 4) < 8 then (zu_b 0 (if 0 ≤ ((zu_up σ a0 4 (zu_w32 ((σ a0 4) + 1))) a0 4) ∧ ((zu_up σ a0 4 (zu_w32 ((σ a0 4) + 1))) a0 4) < 9 then (zu_b 1 (zu_bd (c 205 [(24, a0), (0, 1)] (zu_up (zu_up (zu_up σ a0 4 (zu_w32 ((σ a0 4) + 1))) 49 ((zu_up σ a0 4 (zu_w32 ((σ a0 4) + 1))) a0 4) 0) a0 7 1)) (fun v38 s38 => (some (v38, s38))))) else none)) else (some (2, σ)))
set_option maxRecDepth 100000 in
set_option maxHeartbeats 4000000 in
theorem za_201_0 (n : Nat) (c : zu_C) (ex : zu_I) (a0 : Int) (σ : zu_m) : zu_rega (zt_T n) c ex 1 zt_m201 [] 400 0 [(24, a0)] [] σ = zd_201_0 c ex a0 σ := rfl
set_option maxRecDepth 100000 in
theorem zr_201_0 (n : Nat) (a0 : Int) (σ : zu_m) : zu_call (zt_T n) 201 [(24, a0)] σ = zd_201_0 (zu_call (zt_T n)) (zu_ex (zt_T n) 201) a0 σ := zu_call_at (zt_T n) (d := 1) (y := zt_m201) rfl rfl [] 400 [(24, a0)] [(24, a0)] σ rfl (za_201_0 n _ _ a0 σ)
def zd_205_0 (c : zu_C) (ex : zu_I) (a0 a1 : Int) (σ : zu_m) : Option zu_R := (if (σ a0 3) < 72 then (if 0 ≤ (σ a0 3) ∧ (σ a0 3) < 72 then (some (0, (zu_up (zu_up σ 48 (σ a0 3) a1) a0 3 (zu_w32 (((zu_up σ 48 (σ a0 3) a1) a0 3) + 1))))) else none) else (some (2, σ)))
set_option maxRecDepth 100000 in
set_option maxHeartbeats 4000000 in
theorem za_205_0 (n : Nat) (c : zu_C) (ex : zu_I) (a0 a1 : Int) (σ : zu_m) : zu_rega (zt_T n) c ex 0 zt_m205 [] 400 0 [(24, a0), (0, a1)] [] σ = zd_205_0 c ex a0 a1 σ := rfl
set_option maxRecDepth 100000 in
theorem zr_205_0 (n : Nat) (a0 a1 : Int) (σ : zu_m) : zu_call (zt_T n) 205 [(24, a0), (0, a1)] σ = zd_205_0 (zu_call (zt_T n)) (zu_ex (zt_T n) 205) a0 a1 σ := zu_call_at (zt_T n) (d := 0) (y := zt_m205) rfl rfl [] 400 [(24, a0), (0, a1)] [(24, a0), (0, a1)] σ rfl (za_205_0 n _ _ a0 a1 σ)
def zd_204_0 (c : zu_C) (ex : zu_I) (a0 : Int) (σ : zu_m) : Option zu_R := (if (σ 10 5) < 64 then (zu_b 1 (some (1, (zu_up σ 10 5 (zu_w32 ((σ 10 5) + 1)))))) else (zu_b 0 (some (0, σ))))
set_option maxRecDepth 100000 in
set_option maxHeartbeats 4000000 in
theorem za_204_0 (n : Nat) (c : zu_C) (ex : zu_I) (a0 : Int) (σ : zu_m) : zu_rega (zt_T n) c ex 0 zt_m204 [] 400 0 [(24, a0)] [] σ = zd_204_0 c ex a0 σ := rfl
set_option maxRecDepth 100000 in
theorem zr_204_0 (n : Nat) (a0 : Int) (σ : zu_m) : zu_call (zt_T n) 204 [(24, a0)] σ = zd_204_0 (zu_call (zt_T n)) (zu_ex (zt_T n) 204) a0 σ := zu_call_at (zt_T n) (d := 0) (y := zt_m204) rfl rfl [] 400 [(24, a0)] [(24, a0)] σ rfl (za_204_0 n _ _ a0 σ)
def zd_200_0 (c : zu_C) (ex : zu_I) (a0 a1 a2 : Int) (σ : zu_m) : Option zu_R := (zu_bd (c 204 [(24, a0)] σ) (fun v1 s1 => (if v1 ≠ 0 then (zu_bd (c 207 [(10, 10), (0, a1), (0, a2)] s1) (fun v15 s15 => (zu_b 0 (some (0, (zu_up s15 a0 6 0)))))) else (some (2, s1)))))
set_option maxRecDepth 100000 in
set_option maxHeartbeats 4000000 in
theorem za_200_0 (n : Nat) (c : zu_C) (ex : zu_I) (a0 a1 a2 : Int) (σ : zu_m) : zu_rega (zt_T n) c ex 1 zt_m200 [] 400 0 [(24, a0), (0, a1), (0, a2)] [] σ = zd_200_0 c ex a0 a1 a2 σ := rfl
set_option maxRecDepth 100000 in
theorem zr_200_0 (n : Nat) (a0 a1 a2 : Int) (σ : zu_m) : zu_call (zt_T n) 200 [(24, a0), (0, a1), (0, a2)] σ = zd_200_0 (zu_call (zt_T n)) (zu_ex (zt_T n) 200) a0 a1 a2 σ := zu_call_at (zt_T n) (d := 1) (y := zt_m200) rfl rfl [] 400 [(24, a0), (0, a1), (0, a2)] [(24, a0), (0, a1), (0, a2)] σ rfl (za_200_0 n _ _ a0 a1 a2 σ)
def zd_203_0 (c : zu_C) (ex : zu_I) (a0 : Int) (σ : zu_m) : Option zu_R := (zu_bd (c 279 [(22, 45), (0, 23), (0, 1)] σ) (fun v7 s7 => (if v7 = 0 then (zu_bd (c 279 [(22, 45), (0, 24), (0, 1)] s7) (fun v23 s23 => (if v23 = 0 then (if (s23 45 4) ≠ 4 then (some ((-1), s23)) else (if (s23 45 5) < 3 then (some ((-1), s23)) else (some ((s23 45 5), s23)))) else (some (14, s23))))) else (some (13, s7)))))
set_option maxRecDepth 100000 in
set_option maxHeartbeats 4000000 in
theorem za_203_0 (n : Nat) (c : zu_C) (ex : zu_I) (a0 : Int) (σ : zu_m) : zu_rega (zt_T n) c ex 1 zt_m203 [] 400 0 [(24, a0)] [] σ = zd_203_0 c ex a0 σ := rfl
set_option maxRecDepth 100000 in
theorem zr_203_0 (n : Nat) (a0 : Int) (σ : zu_m) : zu_call (zt_T n) 203 [(24, a0)] σ = zd_203_0 (zu_call (zt_T n)) (zu_ex (zt_T n) 203) a0 σ := zu_call_at (zt_T n) (d := 1) (y := zt_m203) rfl rfl [] 400 [(24, a0)] [(24, a0)] σ rfl (za_203_0 n _ _ a0 σ)
def zd_14_0 (c : zu_C) (ex : zu_I) (a0 : Int) (σ : zu_m) : Option zu_R := (ex 12 [(10, a0), (0, 0)] [] (zu_up (zu_up σ a0 5 0) a0 6 0))
set_option maxRecDepth 100000 in
set_option maxHeartbeats 4000000 in
theorem za_14_0 (n : Nat) (c : zu_C) (ex : zu_I) (a0 : Int) (σ : zu_m) : zu_rega (zt_T n) c ex 0 zt_m14 [12] 400 0 [(10, a0), (2, 0)] [] σ = zd_14_0 c ex a0 σ := rfl
set_option maxRecDepth 100000 in
theorem zr_14_0 (n : Nat) (a0 : Int) (σ : zu_m) : zu_call (zt_T n) 14 [(10, a0)] σ = zd_14_0 (zu_call (zt_T n)) (zu_ex (zt_T n) 14) a0 σ := zu_call_at (zt_T n) (d := 0) (y := zt_m14) rfl rfl [12] 400 [(10, a0)] [(10, a0), (2, 0)] σ rfl (za_14_0 n _ _ a0 σ)
def zd_14_12 (c : zu_C) (ex : zu_I) (a0 x1 : Int) (σ : zu_m) : Option zu_R := (if 4 ≤ x1 then (some (0, σ)) else (if 0 ≤ x1 ∧ x1 < 4 then (if 0 ≤ x1 ∧ x1 < 4 then (ex 12 [(10, a0), (0, (zu_w32 (x1 + 1)))] [] (zu_up (zu_up σ (a0 + 3) x1 (-1)) (a0 + 4) x1 (-1))) else none) else none))
set_option maxRecDepth 100000 in
set_option maxHeartbeats 4000000 in
theorem za_14_12 (n : Nat) (c : zu_C) (ex : zu_I) (a0 x1 : Int) (σ : zu_m) : zu_rega (zt_T n) c ex 0 zt_m14 [12] 400 12 [(10, a0), (0, x1)] [] σ = zd_14_12 c ex a0 x1 σ := rfl
set_option maxRecDepth 100000 in
theorem zr_14_12 (n : Nat) (a0 x1 : Int) (σ : zu_m) : zu_ex (zt_T n) 14 12 [(10, a0), (0, x1)] [] σ = zd_14_12 (zu_call (zt_T n)) (zu_ex (zt_T n) 14) a0 x1 σ := zu_rega_at (zt_T n) (d := 0) (y := zt_m14) rfl rfl [12] 400 12 [(10, a0), (0, x1)] [] σ (za_14_12 n _ _ a0 x1 σ)
def zd_15_0 (c : zu_C) (ex : zu_I) (a0 a1 a2 : Int) (σ : zu_m) : Option zu_R := (ex 28 [(8, a0), (0, a1), (0, a2), (0, 0), (0, 0), (2, 0)] [] (zu_up (zu_up (zu_up σ a0 0 a1) a0 1 a2) a0 2 (zu_w32 (((zu_up (zu_up σ a0 0 a1) a0 1 a2) a0 0) * ((zu_up (zu_up σ a0 0 a1) a0 1 a2) a0 1)))))
set_option maxRecDepth 100000 in
set_option maxHeartbeats 4000000 in
theorem za_15_0 (n : Nat) (c : zu_C) (ex : zu_I) (a0 a1 a2 : Int) (σ : zu_m) : zu_rega (zt_T n) c ex 0 zt_m15 [28, 40] 400 0 [(8, a0), (0, a1), (0, a2), (2, 0), (2, 0), (2, 0)] [] σ = zd_15_0 c ex a0 a1 a2 σ := rfl
set_option maxRecDepth 100000 in
theorem zr_15_0 (n : Nat) (a0 a1 a2 : Int) (σ : zu_m) : zu_call (zt_T n) 15 [(8, a0), (0, a1), (0, a2)] σ = zd_15_0 (zu_call (zt_T n)) (zu_ex (zt_T n) 15) a0 a1 a2 σ := zu_call_at (zt_T n) (d := 0) (y := zt_m15) rfl rfl [28, 40] 400 [(8, a0), (0, a1), (0, a2)] [(8, a0), (0, a1), (0, a2), (2, 0), (2, 0), (2, 0)] σ rfl (za_15_0 n _ _ a0 a1 a2 σ)
def zd_15_28 (c : zu_C) (ex : zu_I) (a0 a1 a2 x3 x4 : Int) (σ : zu_m) : Option zu_R := (if (σ a0 1) ≤ x4 then (some (0, σ)) else (ex 40 [(8, a0), (0, a1), (0, a2), (0, x3), (0, x4), (0, 0)] [] σ))
set_option maxRecDepth 100000 in
set_option maxHeartbeats 4000000 in
theorem za_15_28 (n : Nat) (c : zu_C) (ex : zu_I) (a0 a1 a2 x3 x4 : Int) (σ : zu_m) : zu_rega (zt_T n) c ex 0 zt_m15 [28, 40] 400 28 [(8, a0), (0, a1), (0, a2), (0, x3), (0, x4), (2, 0)] [] σ = zd_15_28 c ex a0 a1 a2 x3 x4 σ := rfl
set_option maxRecDepth 100000 in
theorem zr_15_28 (n : Nat) (a0 a1 a2 x3 x4 : Int) (σ : zu_m) : zu_ex (zt_T n) 15 28 [(8, a0), (0, a1), (0, a2), (0, x3), (0, x4), (2, 0)] [] σ = zd_15_28 (zu_call (zt_T n)) (zu_ex (zt_T n) 15) a0 a1 a2 x3 x4 σ := zu_rega_at (zt_T n) (d := 0) (y := zt_m15) rfl rfl [28, 40] 400 28 [(8, a0), (0, a1), (0, a2), (0, x3), (0, x4), (2, 0)] [] σ (za_15_28 n _ _ a0 a1 a2 x3 x4 σ)
def zd_15_40 (c : zu_C) (ex : zu_I) (a0 a1 a2 x3 x4 x5 : Int) (σ : zu_m) : Option zu_R := (if (σ a0 0) ≤ x5 then (ex 28 [(8, a0), (0, a1), (0, a2), (0, x3), (0, (zu_w32 (x4 + 1))), (0, x5)] [] σ) else (if 48 ≤ x3 then (ex 28 [(8, a0), (0, a1), (0, a2), (0, x3), (0, (zu_w32 (x4 + 1))), (0, x5)] [] σ) else (if 0 ≤ x3 ∧ x3 < 48 then (if 0 ≤ x3 ∧ x3 < 48 then (ex 40 [(8, a0), (0, a1), (0, a2), (0, (zu_w32 (x3 + 1))), (0, x4), (0, (zu_w32 (x5 + 1)))] [] (zu_up (zu_up σ (a0 + 1) x3 x5) (a0 + 2) x3 x4)) else none) else none)))
set_option maxRecDepth 100000 in
set_option maxHeartbeats 4000000 in
theorem za_15_40 (n : Nat) (c : zu_C) (ex : zu_I) (a0 a1 a2 x3 x4 x5 : Int) (σ : zu_m) : zu_rega (zt_T n) c ex 0 zt_m15 [28, 40] 400 40 [(8, a0), (0, a1), (0, a2), (0, x3), (0, x4), (0, x5)] [] σ = zd_15_40 c ex a0 a1 a2 x3 x4 x5 σ := rfl
set_option maxRecDepth 100000 in
theorem zr_15_40 (n : Nat) (a0 a1 a2 x3 x4 x5 : Int) (σ : zu_m) : zu_ex (zt_T n) 15 40 [(8, a0), (0, a1), (0, a2), (0, x3), (0, x4), (0, x5)] [] σ = zd_15_40 (zu_call (zt_T n)) (zu_ex (zt_T n) 15) a0 a1 a2 x3 x4 x5 σ := zu_rega_at (zt_T n) (d := 0) (y := zt_m15) rfl rfl [28, 40] 400 40 [(8, a0), (0, a1), (0, a2), (0, x3), (0, x4), (0, x5)] [] σ (za_15_40 n _ _ a0 a1 a2 x3 x4 x5 σ)
def zd_16_0 (c : zu_C) (ex : zu_I) (a0 : Int) (σ : zu_m) : Option zu_R := (ex 33 [(16, a0), (0, 0)] [] (zu_up (zu_up (zu_up (zu_up (zu_up (zu_up σ a0 2 0) a0 4 0) a0 8 0) a0 9 0) a0 10 0) a0 11 1000000))
set_option maxRecDepth 100000 in
set_option maxHeartbeats 4000000 in
theorem za_16_0 (n : Nat) (c : zu_C) (ex : zu_I) (a0 : Int) (σ : zu_m) : zu_rega (zt_T n) c ex 0 zt_m16 [33] 400 0 [(16, a0), (2, 0)] [] σ = zd_16_0 c ex a0 σ := rfl
set_option maxRecDepth 100000 in
theorem zr_16_0 (n : Nat) (a0 : Int) (σ : zu_m) : zu_call (zt_T n) 16 [(16, a0)] σ = zd_16_0 (zu_call (zt_T n)) (zu_ex (zt_T n) 16) a0 σ := zu_call_at (zt_T n) (d := 0) (y := zt_m16) rfl rfl [33] 400 [(16, a0)] [(16, a0), (2, 0)] σ rfl (za_16_0 n _ _ a0 σ)
def zd_16_33 (c : zu_C) (ex : zu_I) (a0 x1 : Int) (σ : zu_m) : Option zu_R := (if 48 ≤ x1 then (some (0, σ)) else (zu_b 0 (if 0 ≤ x1 ∧ x1 < 48 then (if 0 ≤ x1 ∧ x1 < 48 then (ex 33 [(16, a0), (0, (zu_w32 (x1 + 1)))] [] (zu_up (zu_up σ 22 x1 0) 23 x1 0)) else none) else none)))
set_option maxRecDepth 100000 in
set_option maxHeartbeats 4000000 in
theorem za_16_33 (n : Nat) (c : zu_C) (ex : zu_I) (a0 x1 : Int) (σ : zu_m) : zu_rega (zt_T n) c ex 0 zt_m16 [33] 400 33 [(16, a0), (0, x1)] [] σ = zd_16_33 c ex a0 x1 σ := rfl
set_option maxRecDepth 100000 in
theorem zr_16_33 (n : Nat) (a0 x1 : Int) (σ : zu_m) : zu_ex (zt_T n) 16 33 [(16, a0), (0, x1)] [] σ = zd_16_33 (zu_call (zt_T n)) (zu_ex (zt_T n) 16) a0 x1 σ := zu_rega_at (zt_T n) (d := 0) (y := zt_m16) rfl rfl [33] 400 33 [(16, a0), (0, x1)] [] σ (za_16_33 n _ _ a0 x1 σ)
def zd_17_0 (c : zu_C) (ex : zu_I) (a0 a1 : Int) (σ : zu_m) : Option zu_R := (some (0, (zu_up (zu_up σ a0 2 a1) a0 3 0)))
set_option maxRecDepth 100000 in
set_option maxHeartbeats 4000000 in
theorem za_17_0 (n : Nat) (c : zu_C) (ex : zu_I) (a0 a1 : Int) (σ : zu_m) : zu_rega (zt_T n) c ex 0 zt_m17 [] 400 0 [(22, a0), (0, a1)] [] σ = zd_17_0 c ex a0 a1 σ := rfl
set_option maxRecDepth 100000 in
theorem zr_17_0 (n : Nat) (a0 a1 : Int) (σ : zu_m) : zu_call (zt_T n) 17 [(22, a0), (0, a1)] σ = zd_17_0 (zu_call (zt_T n)) (zu_ex (zt_T n) 17) a0 a1 σ := zu_call_at (zt_T n) (d := 0) (y := zt_m17) rfl rfl [] 400 [(22, a0), (0, a1)] [(22, a0), (0, a1)] σ rfl (za_17_0 n _ _ a0 a1 σ)
def zd_21_0 (c : zu_C) (ex : zu_I) (a0 a1 : Int) (σ : zu_m) : Option zu_R := (if 0 ≤ (64 : Int) ∧ 0 ≤ (0 : Int) ∧ 0 ≤ (0 : Int) ∧ (0 : Int) + 64 ≤ 64 ∧ (0 : Int) + 64 ≤ 64 then (if 0 ≤ (64 : Int) ∧ 0 ≤ (0 : Int) ∧ 0 ≤ (0 : Int) ∧ (0 : Int) + 64 ≤ 64 ∧ (0 : Int) + 64 ≤ 64 then (if 0 ≤ (4 : Int) ∧ 0 ≤ (0 : Int) ∧ 0 ≤ (0 : Int) ∧ (0 : Int) + 4 ≤ 4 ∧ (0 : Int) + 4 ≤ 4 then (if 0 ≤ (4 : Int) ∧ 0 ≤ (0 : Int) ∧ 0 ≤ (0 : Int) ∧ (0 : Int) + 4 ≤ 4 ∧ (0 : Int) + 4 ≤ 4 then (some (0, (zu_up (zu_up (zu_cp (zu_cp (zu_cp (zu_cp σ (a1 + 1) 0 (a0 + 1) 0 64) (a1 + 2) 0 (a0 + 2) 0 64) (a1 + 3) 0 (a0 + 3) 0 4) (a1 + 4) 0 (a0 + 4) 0 4) a0 5 ((zu_cp (zu_cp (zu_cp (zu_cp σ (a1 + 1) 0 (a0 + 1) 0 64) (a1 + 2) 0 (a0 + 2) 0 64) (a1 + 3) 0 (a0 + 3) 0 4) (a1 + 4) 0 (a0 + 4) 0 4) a1 5)) a0 6 ((zu_up (zu_cp (zu_cp (zu_cp (zu_cp σ (a1 + 1) 0 (a0 + 1) 0 64) (a1 + 2) 0 (a0 + 2) 0 64) (a1 + 3) 0 (a0 + 3) 0 4) (a1 + 4) 0 (a0 + 4) 0 4) a0 5 ((zu_cp (zu_cp (zu_cp (zu_cp σ (a1 + 1) 0 (a0 + 1) 0 64) (a1 + 2) 0 (a0 + 2) 0 64) (a1 + 3) 0 (a0 + 3) 0 4) (a1 + 4) 0 (a0 + 4) 0 4) a1 5)) a1 6)))) else none) else none) else none) else none)
set_option maxRecDepth 100000 in
set_option maxHeartbeats 4000000 in
theorem za_21_0 (n : Nat) (c : zu_C) (ex : zu_I) (a0 a1 : Int) (σ : zu_m) : zu_rega (zt_T n) c ex 0 zt_m21 [] 400 0 [(10, a0), (10, a1)] [] σ = zd_21_0 c ex a0 a1 σ := rfl
set_option maxRecDepth 100000 in
theorem zr_21_0 (n : Nat) (a0 a1 : Int) (σ : zu_m) : zu_call (zt_T n) 21 [(10, a0), (10, a1)] σ = zd_21_0 (zu_call (zt_T n)) (zu_ex (zt_T n) 21) a0 a1 σ := zu_call_at (zt_T n) (d := 0) (y := zt_m21) rfl rfl [] 400 [(10, a0), (10, a1)] [(10, a0), (10, a1)] σ rfl (za_21_0 n _ _ a0 a1 σ)
def zd_25_0 (c : zu_C) (ex : zu_I) (a0 a1 a2 a3 : Int) (σ : zu_m) : Option zu_R := (if 0 ≤ (0 : Int) ∧ (0 : Int) < 7 then (if 0 ≤ (1 : Int) ∧ (1 : Int) < 7 then (if 0 ≤ a1 ∧ a1 < 48 then (if 0 ≤ (2 : Int) ∧ (2 : Int) < 7 then (if 0 ≤ (3 : Int) ∧ (3 : Int) < 7 then (if 0 ≤ (4 : Int) ∧ (4 : Int) < 7 then (if 0 ≤ a1 ∧ a1 < 48 then (if 0 ≤ (5 : Int) ∧ (5 : Int) < 7 then (if 0 ≤ (6 : Int) ∧ (6 : Int) < 7 then (some (0, (zu_up (zu_up (zu_up (zu_up (zu_up (zu_up (zu_up σ (a0 + 12) 0 0) (a0 + 12) 1 a3) (a0 + 12) 2 ((zu_up (zu_up σ (a0 + 12) 0 0) (a0 + 12) 1 a3) (a0 + 3) a1)) (a0 + 12) 3 a2) (a0 + 12) 4 0) (a0 + 12) 5 ((zu_up (zu_up (zu_up (zu_up (zu_up σ (a0 + 12) 0 0) (a0 + 12) 1 a3) (a0 + 12) 2 ((zu_up (zu_up σ (a0 + 12) 0 0) (a0 + 12) 1 a3) (a0 + 3) a1)) (a0 + 12) 3 a2) (a0 + 12) 4 0) (a0 + 2) a1)) (a0 + 12) 6 0))) else none) else none) else none) else none) else none) else none) else none) else none) else none)
set_option maxRecDepth 100000 in
set_option maxHeartbeats 4000000 in
theorem za_25_0 (n : Nat) (c : zu_C) (ex : zu_I) (a0 a1 a2 a3 : Int) (σ : zu_m) : zu_rega (zt_T n) c ex 0 zt_m25 [] 400 0 [(8, a0), (0, a1), (0, a2), (0, a3)] [] σ = zd_25_0 c ex a0 a1 a2 a3 σ := rfl
set_option maxRecDepth 100000 in
theorem zr_25_0 (n : Nat) (a0 a1 a2 a3 : Int) (σ : zu_m) : zu_call (zt_T n) 25 [(8, a0), (0, a1), (0, a2), (0, a3)] σ = zd_25_0 (zu_call (zt_T n)) (zu_ex (zt_T n) 25) a0 a1 a2 a3 σ := zu_call_at (zt_T n) (d := 0) (y := zt_m25) rfl rfl [] 400 [(8, a0), (0, a1), (0, a2), (0, a3)] [(8, a0), (0, a1), (0, a2), (0, a3)] σ rfl (za_25_0 n _ _ a0 a1 a2 a3 σ)
def zd_27_0 (c : zu_C) (ex : zu_I) (a0 : Int) (σ : zu_m) : Option zu_R := (some (0, (zu_up (zu_up σ a0 6 0) a0 7 (-1))))
set_option maxRecDepth 100000 in
set_option maxHeartbeats 4000000 in
theorem za_27_0 (n : Nat) (c : zu_C) (ex : zu_I) (a0 : Int) (σ : zu_m) : zu_rega (zt_T n) c ex 0 zt_m27 [] 400 0 [(28, a0)] [] σ = zd_27_0 c ex a0 σ := rfl
set_option maxRecDepth 100000 in
theorem zr_27_0 (n : Nat) (a0 : Int) (σ : zu_m) : zu_call (zt_T n) 27 [(28, a0)] σ = zd_27_0 (zu_call (zt_T n)) (zu_ex (zt_T n) 27) a0 σ := zu_call_at (zt_T n) (d := 0) (y := zt_m27) rfl rfl [] 400 [(28, a0)] [(28, a0)] σ rfl (za_27_0 n _ _ a0 σ)
def zd_28_0 (c : zu_C) (ex : zu_I) (a0 : Int) (σ : zu_m) : Option zu_R := (some (0, (zu_up σ a0 4 0)))
set_option maxRecDepth 100000 in
set_option maxHeartbeats 4000000 in
theorem za_28_0 (n : Nat) (c : zu_C) (ex : zu_I) (a0 : Int) (σ : zu_m) : zu_rega (zt_T n) c ex 0 zt_m28 [] 400 0 [(31, a0)] [] σ = zd_28_0 c ex a0 σ := rfl
set_option maxRecDepth 100000 in
theorem zr_28_0 (n : Nat) (a0 : Int) (σ : zu_m) : zu_call (zt_T n) 28 [(31, a0)] σ = zd_28_0 (zu_call (zt_T n)) (zu_ex (zt_T n) 28) a0 σ := zu_call_at (zt_T n) (d := 0) (y := zt_m28) rfl rfl [] 400 [(31, a0)] [(31, a0)] σ rfl (za_28_0 n _ _ a0 σ)
def zd_30_0 (c : zu_C) (ex : zu_I) (a0 : Int) (σ : zu_m) : Option zu_R := (zu_b 0 (ex 43 [(40, a0), (0, 0)] [] (zu_up (zu_up (zu_up (zu_up (zu_up (zu_up (zu_up (zu_up σ a0 17 6) a0 18 5) a0 19 0) a0 20 0) a0 21 0) a0 22 0) a0 48 0) a0 23 0)))
set_option maxRecDepth 100000 in
set_option maxHeartbeats 4000000 in
theorem za_30_0 (n : Nat) (c : zu_C) (ex : zu_I) (a0 : Int) (σ : zu_m) : zu_rega (zt_T n) c ex 0 zt_m30 [43, 64, 95, 126] 400 0 [(40, a0), (2, 0)] [] σ = zd_30_0 c ex a0 σ := rfl
set_option maxRecDepth 100000 in
theorem zr_30_0 (n : Nat) (a0 : Int) (σ : zu_m) : zu_call (zt_T n) 30 [(40, a0)] σ = zd_30_0 (zu_call (zt_T n)) (zu_ex (zt_T n) 30) a0 σ := zu_call_at (zt_T n) (d := 0) (y := zt_m30) rfl rfl [43, 64, 95, 126] 400 [(40, a0)] [(40, a0), (2, 0)] σ rfl (za_30_0 n _ _ a0 σ)
def zd_30_43 (c : zu_C) (ex : zu_I) (a0 x1 : Int) (σ : zu_m) : Option zu_R := (if 6 ≤ x1 then (ex 64 [(40, a0), (0, 5)] [] σ) else (zu_b 0 (if 0 ≤ x1 ∧ x1 < 6 then (ex 43 [(40, a0), (0, (zu_w32 (x1 + 1)))] [] (zu_up σ 193 x1 0)) else none)))
set_option maxRecDepth 100000 in
set_option maxHeartbeats 4000000 in
theorem za_30_43 (n : Nat) (c : zu_C) (ex : zu_I) (a0 x1 : Int) (σ : zu_m) : zu_rega (zt_T n) c ex 0 zt_m30 [43, 64, 95, 126] 400 43 [(40, a0), (0, x1)] [] σ = zd_30_43 c ex a0 x1 σ := rfl
set_option maxRecDepth 100000 in
theorem zr_30_43 (n : Nat) (a0 x1 : Int) (σ : zu_m) : zu_ex (zt_T n) 30 43 [(40, a0), (0, x1)] [] σ = zd_30_43 (zu_call (zt_T n)) (zu_ex (zt_T n) 30) a0 x1 σ := zu_rega_at (zt_T n) (d := 0) (y := zt_m30) rfl rfl [43, 64, 95, 126] 400 43 [(40, a0), (0, x1)] [] σ (za_30_43 n _ _ a0 x1 σ)
def zd_30_64 (c : zu_C) (ex : zu_I) (a0 x1 : Int) (σ : zu_m) : Option zu_R := (if 10 ≤ x1 then (ex 95 [(40, a0), (0, 0)] [] σ) else (if x1 ≠ 8 then (if 0 ≤ x1 ∧ x1 < 10 then (ex 64 [(40, a0), (0, (zu_w32 (x1 + 1)))] [] (zu_up σ 194 x1 0)) else none) else (if 0 ≤ x1 ∧ x1 < 10 then (ex 64 [(40, a0), (0, (zu_w32 (x1 + 1)))] [] (zu_up σ 194 x1 (-1))) else none)))
set_option maxRecDepth 100000 in
set_option maxHeartbeats 4000000 in
theorem za_30_64 (n : Nat) (c : zu_C) (ex : zu_I) (a0 x1 : Int) (σ : zu_m) : zu_rega (zt_T n) c ex 0 zt_m30 [43, 64, 95, 126] 400 64 [(40, a0), (0, x1)] [] σ = zd_30_64 c ex a0 x1 σ := rfl
set_option maxRecDepth 100000 in
theorem zr_30_64 (n : Nat) (a0 x1 : Int) (σ : zu_m) : zu_ex (zt_T n) 30 64 [(40, a0), (0, x1)] [] σ = zd_30_64 (zu_call (zt_T n)) (zu_ex (zt_T n) 30) a0 x1 σ := zu_rega_at (zt_T n) (d := 0) (y := zt_m30) rfl rfl [43, 64, 95, 126] 400 64 [(40, a0), (0, x1)] [] σ (za_30_64 n _ _ a0 x1 σ)
def zd_30_95 (c : zu_C) (ex : zu_I) (a0 x1 : Int) (σ : zu_m) : Option zu_R := (if 48 ≤ x1 then (ex 126 [(40, a0), (0, 4)] [] σ) else (if 0 ≤ (zu_w32 (48 + x1)) ∧ (zu_w32 (48 + x1)) < 96 then (zu_b 0 (if 0 ≤ x1 ∧ x1 < 48 then (ex 95 [(40, a0), (0, (zu_w32 (x1 + 1)))] [] (zu_up (zu_up σ 195 (zu_w32 (48 + x1)) 0) 196 x1 0)) else none)) else none))
set_option maxRecDepth 100000 in
set_option maxHeartbeats 4000000 in
theorem za_30_95 (n : Nat) (c : zu_C) (ex : zu_I) (a0 x1 : Int) (σ : zu_m) : zu_rega (zt_T n) c ex 0 zt_m30 [43, 64, 95, 126] 400 95 [(40, a0), (0, x1)] [] σ = zd_30_95 c ex a0 x1 σ := rfl
set_option maxRecDepth 100000 in
theorem zr_30_95 (n : Nat) (a0 x1 : Int) (σ : zu_m) : zu_ex (zt_T n) 30 95 [(40, a0), (0, x1)] [] σ = zd_30_95 (zu_call (zt_T n)) (zu_ex (zt_T n) 30) a0 x1 σ := zu_rega_at (zt_T n) (d := 0) (y := zt_m30) rfl rfl [43, 64, 95, 126] 400 95 [(40, a0), (0, x1)] [] σ (za_30_95 n _ _ a0 x1 σ)
def zd_30_126 (c : zu_C) (ex : zu_I) (a0 x1 : Int) (σ : zu_m) : Option zu_R := (if 8 ≤ x1 then (some (0, σ)) else (zu_b 0 (if 0 ≤ x1 ∧ x1 < 8 then (ex 126 [(40, a0), (0, (zu_w32 (x1 + 1)))] [] (zu_up σ 205 x1 0)) else none)))
set_option maxRecDepth 100000 in
set_option maxHeartbeats 4000000 in
theorem za_30_126 (n : Nat) (c : zu_C) (ex : zu_I) (a0 x1 : Int) (σ : zu_m) : zu_rega (zt_T n) c ex 0 zt_m30 [43, 64, 95, 126] 400 126 [(40, a0), (0, x1)] [] σ = zd_30_126 c ex a0 x1 σ := rfl
set_option maxRecDepth 100000 in
theorem zr_30_126 (n : Nat) (a0 x1 : Int) (σ : zu_m) : zu_ex (zt_T n) 30 126 [(40, a0), (0, x1)] [] σ = zd_30_126 (zu_call (zt_T n)) (zu_ex (zt_T n) 30) a0 x1 σ := zu_rega_at (zt_T n) (d := 0) (y := zt_m30) rfl rfl [43, 64, 95, 126] 400 126 [(40, a0), (0, x1)] [] σ (za_30_126 n _ _ a0 x1 σ)
def zd_32_0 (c : zu_C) (ex : zu_I) (a0 a1 : Int) (σ : zu_m) : Option zu_R := (ex 2 [(43, a0), (0, a1), (0, 0)] [] σ)
set_option maxRecDepth 100000 in
set_option maxHeartbeats 4000000 in
theorem za_32_0 (n : Nat) (c : zu_C) (ex : zu_I) (a0 a1 : Int) (σ : zu_m) : zu_rega (zt_T n) c ex 0 zt_m32 [2] 400 0 [(43, a0), (0, a1), (2, 0)] [] σ = zd_32_0 c ex a0 a1 σ := rfl
set_option maxRecDepth 100000 in
theorem zr_32_0 (n : Nat) (a0 a1 : Int) (σ : zu_m) : zu_call (zt_T n) 32 [(43, a0), (0, a1)] σ = zd_32_0 (zu_call (zt_T n)) (zu_ex (zt_T n) 32) a0 a1 σ := zu_call_at (zt_T n) (d := 0) (y := zt_m32) rfl rfl [2] 400 [(43, a0), (0, a1)] [(43, a0), (0, a1), (2, 0)] σ rfl (za_32_0 n _ _ a0 a1 σ)
def zd_32_2 (c : zu_C) (ex : zu_I) (a0 a1 x2 : Int) (σ : zu_m) : Option zu_R := (if a1 ≤ x2 then (some (0, σ)) else (if 0 ≤ (zu_w32 (a1 + x2)) ∧ (zu_w32 (a1 + x2)) < 10 then (if 0 ≤ x2 ∧ x2 < 10 then (ex 2 [(43, a0), (0, a1), (0, (zu_w32 (x2 + 1)))] [] (zu_up σ a0 x2 (σ a0 (zu_w32 (a1 + x2))))) else none) else none))
set_option maxRecDepth 100000 in
set_option maxHeartbeats 4000000 in
theorem za_32_2 (n : Nat) (c : zu_C) (ex : zu_I) (a0 a1 x2 : Int) (σ : zu_m) : zu_rega (zt_T n) c ex 0 zt_m32 [2] 400 2 [(43, a0), (0, a1), (0, x2)] [] σ = zd_32_2 c ex a0 a1 x2 σ := rfl
set_option maxRecDepth 100000 in
theorem zr_32_2 (n : Nat) (a0 a1 x2 : Int) (σ : zu_m) : zu_ex (zt_T n) 32 2 [(43, a0), (0, a1), (0, x2)] [] σ = zd_32_2 (zu_call (zt_T n)) (zu_ex (zt_T n) 32) a0 a1 x2 σ := zu_rega_at (zt_T n) (d := 0) (y := zt_m32) rfl rfl [2] 400 2 [(43, a0), (0, a1), (0, x2)] [] σ (za_32_2 n _ _ a0 a1 x2 σ)
def zd_32b_0 (c : zu_C) (ex : zu_I) (a0 a1 : Int) (σ : zu_m) : Option zu_R := (ex 2 [(44, a0), (0, a1), (0, 0)] [] σ)
set_option maxRecDepth 100000 in
set_option maxHeartbeats 4000000 in
theorem za_32b_0 (n : Nat) (c : zu_C) (ex : zu_I) (a0 a1 : Int) (σ : zu_m) : zu_rega (zt_T n) c ex 0 zt_m32 [2] 400 0 [(44, a0), (0, a1), (2, 0)] [] σ = zd_32b_0 c ex a0 a1 σ := rfl
set_option maxRecDepth 100000 in
theorem zr_32b_0 (n : Nat) (a0 a1 : Int) (σ : zu_m) : zu_call (zt_T n) 32 [(44, a0), (0, a1)] σ = zd_32b_0 (zu_call (zt_T n)) (zu_ex (zt_T n) 32) a0 a1 σ := zu_call_at (zt_T n) (d := 0) (y := zt_m32) rfl rfl [2] 400 [(44, a0), (0, a1)] [(44, a0), (0, a1), (2, 0)] σ rfl (za_32b_0 n _ _ a0 a1 σ)
def zd_32b_2 (c : zu_C) (ex : zu_I) (a0 a1 x2 : Int) (σ : zu_m) : Option zu_R := (if a1 ≤ x2 then (some (0, σ)) else (if 0 ≤ (zu_w32 (a1 + x2)) ∧ (zu_w32 (a1 + x2)) < 96 then (if 0 ≤ x2 ∧ x2 < 96 then (ex 2 [(44, a0), (0, a1), (0, (zu_w32 (x2 + 1)))] [] (zu_up σ a0 x2 (σ a0 (zu_w32 (a1 + x2))))) else none) else none))
set_option maxRecDepth 100000 in
set_option maxHeartbeats 4000000 in
theorem za_32b_2 (n : Nat) (c : zu_C) (ex : zu_I) (a0 a1 x2 : Int) (σ : zu_m) : zu_rega (zt_T n) c ex 0 zt_m32 [2] 400 2 [(44, a0), (0, a1), (0, x2)] [] σ = zd_32b_2 c ex a0 a1 x2 σ := rfl
set_option maxRecDepth 100000 in
theorem zr_32b_2 (n : Nat) (a0 a1 x2 : Int) (σ : zu_m) : zu_ex (zt_T n) 32 2 [(44, a0), (0, a1), (0, x2)] [] σ = zd_32b_2 (zu_call (zt_T n)) (zu_ex (zt_T n) 32) a0 a1 x2 σ := zu_rega_at (zt_T n) (d := 0) (y := zt_m32) rfl rfl [2] 400 2 [(44, a0), (0, a1), (0, x2)] [] σ (za_32b_2 n _ _ a0 a1 x2 σ)
def zd_32c_0 (c : zu_C) (ex : zu_I) (a0 a1 : Int) (σ : zu_m) : Option zu_R := (ex 2 [(45, a0), (0, a1), (0, 0)] [] σ)
set_option maxRecDepth 100000 in
set_option maxHeartbeats 4000000 in
theorem za_32c_0 (n : Nat) (c : zu_C) (ex : zu_I) (a0 a1 : Int) (σ : zu_m) : zu_rega (zt_T n) c ex 0 zt_m32 [2] 400 0 [(45, a0), (0, a1), (2, 0)] [] σ = zd_32c_0 c ex a0 a1 σ := rfl
set_option maxRecDepth 100000 in
theorem zr_32c_0 (n : Nat) (a0 a1 : Int) (σ : zu_m) : zu_call (zt_T n) 32 [(45, a0), (0, a1)] σ = zd_32c_0 (zu_call (zt_T n)) (zu_ex (zt_T n) 32) a0 a1 σ := zu_call_at (zt_T n) (d := 0) (y := zt_m32) rfl rfl [2] 400 [(45, a0), (0, a1)] [(45, a0), (0, a1), (2, 0)] σ rfl (za_32c_0 n _ _ a0 a1 σ)
def zd_32c_2 (c : zu_C) (ex : zu_I) (a0 a1 x2 : Int) (σ : zu_m) : Option zu_R := (if a1 ≤ x2 then (some (0, σ)) else (if 0 ≤ (zu_w32 (a1 + x2)) ∧ (zu_w32 (a1 + x2)) < 36 then (if 0 ≤ x2 ∧ x2 < 36 then (ex 2 [(45, a0), (0, a1), (0, (zu_w32 (x2 + 1)))] [] (zu_up σ a0 x2 (σ a0 (zu_w32 (a1 + x2))))) else none) else none))
set_option maxRecDepth 100000 in
set_option maxHeartbeats 4000000 in
theorem za_32c_2 (n : Nat) (c : zu_C) (ex : zu_I) (a0 a1 x2 : Int) (σ : zu_m) : zu_rega (zt_T n) c ex 0 zt_m32 [2] 400 2 [(45, a0), (0, a1), (0, x2)] [] σ = zd_32c_2 c ex a0 a1 x2 σ := rfl
set_option maxRecDepth 100000 in
theorem zr_32c_2 (n : Nat) (a0 a1 x2 : Int) (σ : zu_m) : zu_ex (zt_T n) 32 2 [(45, a0), (0, a1), (0, x2)] [] σ = zd_32c_2 (zu_call (zt_T n)) (zu_ex (zt_T n) 32) a0 a1 x2 σ := zu_rega_at (zt_T n) (d := 0) (y := zt_m32) rfl rfl [2] 400 2 [(45, a0), (0, a1), (0, x2)] [] σ (za_32c_2 n _ _ a0 a1 x2 σ)
def zd_32d_0 (c : zu_C) (ex : zu_I) (a0 a1 : Int) (σ : zu_m) : Option zu_R := (ex 2 [(46, a0), (0, a1), (0, 0)] [] σ)
set_option maxRecDepth 100000 in
set_option maxHeartbeats 4000000 in
theorem za_32d_0 (n : Nat) (c : zu_C) (ex : zu_I) (a0 a1 : Int) (σ : zu_m) : zu_rega (zt_T n) c ex 0 zt_m32 [2] 400 0 [(46, a0), (0, a1), (2, 0)] [] σ = zd_32d_0 c ex a0 a1 σ := rfl
set_option maxRecDepth 100000 in
theorem zr_32d_0 (n : Nat) (a0 a1 : Int) (σ : zu_m) : zu_call (zt_T n) 32 [(46, a0), (0, a1)] σ = zd_32d_0 (zu_call (zt_T n)) (zu_ex (zt_T n) 32) a0 a1 σ := zu_call_at (zt_T n) (d := 0) (y := zt_m32) rfl rfl [2] 400 [(46, a0), (0, a1)] [(46, a0), (0, a1), (2, 0)] σ rfl (za_32d_0 n _ _ a0 a1 σ)
def zd_32d_2 (c : zu_C) (ex : zu_I) (a0 a1 x2 : Int) (σ : zu_m) : Option zu_R := (if a1 ≤ x2 then (some (0, σ)) else (if 0 ≤ (zu_w32 (a1 + x2)) ∧ (zu_w32 (a1 + x2)) < 8 then (if 0 ≤ x2 ∧ x2 < 8 then (ex 2 [(46, a0), (0, a1), (0, (zu_w32 (x2 + 1)))] [] (zu_up σ a0 x2 (σ a0 (zu_w32 (a1 + x2))))) else none) else none))
set_option maxRecDepth 100000 in
set_option maxHeartbeats 4000000 in
theorem za_32d_2 (n : Nat) (c : zu_C) (ex : zu_I) (a0 a1 x2 : Int) (σ : zu_m) : zu_rega (zt_T n) c ex 0 zt_m32 [2] 400 2 [(46, a0), (0, a1), (0, x2)] [] σ = zd_32d_2 c ex a0 a1 x2 σ := rfl
set_option maxRecDepth 100000 in
theorem zr_32d_2 (n : Nat) (a0 a1 x2 : Int) (σ : zu_m) : zu_ex (zt_T n) 32 2 [(46, a0), (0, a1), (0, x2)] [] σ = zd_32d_2 (zu_call (zt_T n)) (zu_ex (zt_T n) 32) a0 a1 x2 σ := zu_rega_at (zt_T n) (d := 0) (y := zt_m32) rfl rfl [2] 400 2 [(46, a0), (0, a1), (0, x2)] [] σ (za_32d_2 n _ _ a0 a1 x2 σ)
def zd_32e_0 (c : zu_C) (ex : zu_I) (a0 a1 : Int) (σ : zu_m) : Option zu_R := (ex 2 [(48, a0), (0, a1), (0, 0)] [] σ)
set_option maxRecDepth 100000 in
set_option maxHeartbeats 4000000 in
theorem za_32e_0 (n : Nat) (c : zu_C) (ex : zu_I) (a0 a1 : Int) (σ : zu_m) : zu_rega (zt_T n) c ex 0 zt_m32 [2] 400 0 [(48, a0), (0, a1), (2, 0)] [] σ = zd_32e_0 c ex a0 a1 σ := rfl
set_option maxRecDepth 100000 in
theorem zr_32e_0 (n : Nat) (a0 a1 : Int) (σ : zu_m) : zu_call (zt_T n) 32 [(48, a0), (0, a1)] σ = zd_32e_0 (zu_call (zt_T n)) (zu_ex (zt_T n) 32) a0 a1 σ := zu_call_at (zt_T n) (d := 0) (y := zt_m32) rfl rfl [2] 400 [(48, a0), (0, a1)] [(48, a0), (0, a1), (2, 0)] σ rfl (za_32e_0 n _ _ a0 a1 σ)
def zd_32e_2 (c : zu_C) (ex : zu_I) (a0 a1 x2 : Int) (σ : zu_m) : Option zu_R := (if a1 ≤ x2 then (some (0, σ)) else (if 0 ≤ (zu_w32 (a1 + x2)) ∧ (zu_w32 (a1 + x2)) < 128 then (if 0 ≤ x2 ∧ x2 < 128 then (ex 2 [(48, a0), (0, a1), (0, (zu_w32 (x2 + 1)))] [] (zu_up σ a0 x2 (σ a0 (zu_w32 (a1 + x2))))) else none) else none))
set_option maxRecDepth 100000 in
set_option maxHeartbeats 4000000 in
theorem za_32e_2 (n : Nat) (c : zu_C) (ex : zu_I) (a0 a1 x2 : Int) (σ : zu_m) : zu_rega (zt_T n) c ex 0 zt_m32 [2] 400 2 [(48, a0), (0, a1), (0, x2)] [] σ = zd_32e_2 c ex a0 a1 x2 σ := rfl
set_option maxRecDepth 100000 in
theorem zr_32e_2 (n : Nat) (a0 a1 x2 : Int) (σ : zu_m) : zu_ex (zt_T n) 32 2 [(48, a0), (0, a1), (0, x2)] [] σ = zd_32e_2 (zu_call (zt_T n)) (zu_ex (zt_T n) 32) a0 a1 x2 σ := zu_rega_at (zt_T n) (d := 0) (y := zt_m32) rfl rfl [2] 400 2 [(48, a0), (0, a1), (0, x2)] [] σ (za_32e_2 n _ _ a0 a1 x2 σ)
def zd_34_0 (c : zu_C) (ex : zu_I) (a0 a1 : Int) (σ : zu_m) : Option zu_R := (ex 2 [(40, a0), (0, a1), (0, 0)] [] σ)
set_option maxRecDepth 100000 in
set_option maxHeartbeats 4000000 in
theorem za_34_0 (n : Nat) (c : zu_C) (ex : zu_I) (a0 a1 : Int) (σ : zu_m) : zu_rega (zt_T n) c ex 0 zt_m34 [2, 38] 400 0 [(40, a0), (0, a1), (2, 0)] [] σ = zd_34_0 c ex a0 a1 σ := rfl
set_option maxRecDepth 100000 in
theorem zr_34_0 (n : Nat) (a0 a1 : Int) (σ : zu_m) : zu_call (zt_T n) 34 [(40, a0), (0, a1)] σ = zd_34_0 (zu_call (zt_T n)) (zu_ex (zt_T n) 34) a0 a1 σ := zu_call_at (zt_T n) (d := 0) (y := zt_m34) rfl rfl [2, 38] 400 [(40, a0), (0, a1)] [(40, a0), (0, a1), (2, 0)] σ rfl (za_34_0 n _ _ a0 a1 σ)
def zd_34_2 (c : zu_C) (ex : zu_I) (a0 a1 x2 : Int) (σ : zu_m) : Option zu_R := (if 18 ≤ x2 then (if 0 ≤ a1 ∧ a1 < 2 then (ex 38 [(40, a0), (0, a1), (0, 0)] [] (zu_up σ 216 a1 (σ a0 14))) else none) else (if 0 ≤ (zu_w32 ((zu_w32 (18 * a1)) + x2)) ∧ (zu_w32 ((zu_w32 (18 * a1)) + x2)) < 36 then (ex 2 [(40, a0), (0, a1), (0, (zu_w32 (x2 + 1)))] [] (zu_up σ 215 (zu_w32 ((zu_w32 (18 * a1)) + x2)) (-1))) else none))
set_option maxRecDepth 100000 in
set_option maxHeartbeats 4000000 in
theorem za_34_2 (n : Nat) (c : zu_C) (ex : zu_I) (a0 a1 x2 : Int) (σ : zu_m) : zu_rega (zt_T n) c ex 0 zt_m34 [2, 38] 400 2 [(40, a0), (0, a1), (0, x2)] [] σ = zd_34_2 c ex a0 a1 x2 σ := rfl
set_option maxRecDepth 100000 in
theorem zr_34_2 (n : Nat) (a0 a1 x2 : Int) (σ : zu_m) : zu_ex (zt_T n) 34 2 [(40, a0), (0, a1), (0, x2)] [] σ = zd_34_2 (zu_call (zt_T n)) (zu_ex (zt_T n) 34) a0 a1 x2 σ := zu_rega_at (zt_T n) (d := 0) (y := zt_m34) rfl rfl [2, 38] 400 2 [(40, a0), (0, a1), (0, x2)] [] σ (za_34_2 n _ _ a0 a1 x2 σ)
def zd_34_38 (c : zu_C) (ex : zu_I) (a0 a1 x2 : Int) (σ : zu_m) : Option zu_R := (if 4 ≤ x2 then (if 0 ≤ a1 ∧ a1 < 2 then (if 0 ≤ a1 ∧ a1 < 2 then (some (0, (zu_up (zu_up σ 220 a1 0) 221 a1 0))) else none) else none) else (if 0 ≤ x2 ∧ x2 < 8 then (if 0 ≤ (zu_w32 ((zu_w32 (4 * a1)) + x2)) ∧ (zu_w32 ((zu_w32 (4 * a1)) + x2)) < 8 then (if 0 ≤ x2 ∧ x2 < 8 then (if 0 ≤ (zu_w32 ((zu_w32 (4 * a1)) + x2)) ∧ (zu_w32 ((zu_w32 (4 * a1)) + x2)) < 8 then (ex 38 [(40, a0), (0, a1), (0, (zu_w32 (x2 + 1)))] [] (zu_up (zu_up σ 217 (zu_w32 ((zu_w32 (4 * a1)) + x2)) (σ 201 x2)) 218 (zu_w32 ((zu_w32 (4 * a1)) + x2)) ((zu_up σ 217 (zu_w32 ((zu_w32 (4 * a1)) + x2)) (σ 201 x2)) 204 x2))) else none) else none) else none) else none))
set_option maxRecDepth 100000 in
set_option maxHeartbeats 4000000 in
theorem za_34_38 (n : Nat) (c : zu_C) (ex : zu_I) (a0 a1 x2 : Int) (σ : zu_m) : zu_rega (zt_T n) c ex 0 zt_m34 [2, 38] 400 38 [(40, a0), (0, a1), (0, x2)] [] σ = zd_34_38 c ex a0 a1 x2 σ := rfl
set_option maxRecDepth 100000 in
theorem zr_34_38 (n : Nat) (a0 a1 x2 : Int) (σ : zu_m) : zu_ex (zt_T n) 34 38 [(40, a0), (0, a1), (0, x2)] [] σ = zd_34_38 (zu_call (zt_T n)) (zu_ex (zt_T n) 34) a0 a1 x2 σ := zu_rega_at (zt_T n) (d := 0) (y := zt_m34) rfl rfl [2, 38] 400 38 [(40, a0), (0, a1), (0, x2)] [] σ (za_34_38 n _ _ a0 a1 x2 σ)
def zd_35_0 (c : zu_C) (ex : zu_I) (a0 : Int) (σ : zu_m) : Option zu_R := (zu_b 0 (zu_b 0 (zu_b 0 (zu_b 0 (some (0, (zu_up (zu_up (zu_up (zu_up (zu_up (zu_up σ a0 64 (σ a0 62)) a0 65 0) a0 66 0) a0 67 0) a0 68 0) a0 69 (-1))))))))
set_option maxRecDepth 100000 in
set_option maxHeartbeats 4000000 in
theorem za_35_0 (n : Nat) (c : zu_C) (ex : zu_I) (a0 : Int) (σ : zu_m) : zu_rega (zt_T n) c ex 0 zt_m35 [] 400 0 [(40, a0)] [] σ = zd_35_0 c ex a0 σ := rfl
set_option maxRecDepth 100000 in
theorem zr_35_0 (n : Nat) (a0 : Int) (σ : zu_m) : zu_call (zt_T n) 35 [(40, a0)] σ = zd_35_0 (zu_call (zt_T n)) (zu_ex (zt_T n) 35) a0 σ := zu_call_at (zt_T n) (d := 0) (y := zt_m35) rfl rfl [] 400 [(40, a0)] [(40, a0)] σ rfl (za_35_0 n _ _ a0 σ)
def zd_38_0 (c : zu_C) (ex : zu_I) (a0 a1 a2 a3 a4 a5 a6 : Int) (σ : zu_m) : Option zu_R := (if 0 ≤ (0 : Int) ∧ (0 : Int) < 7 then (if 0 ≤ (1 : Int) ∧ (1 : Int) < 7 then (if 0 ≤ a3 ∧ a3 < 96 then (if 0 ≤ (2 : Int) ∧ (2 : Int) < 7 then (if 0 ≤ (3 : Int) ∧ (3 : Int) < 7 then (if 0 ≤ (4 : Int) ∧ (4 : Int) < 7 then (if ((zu_up (zu_up (zu_up (zu_up (zu_up σ 213 0 a1) 213 1 a2) 213 2 ((zu_up (zu_up σ 213 0 a1) 213 1 a2) 195 a3)) 213 3 a4) 213 4 a5) a0 12) = 0 then none else (if 0 ≤ (5 : Int) ∧ (5 : Int) < 7 then (if 0 ≤ (6 : Int) ∧ (6 : Int) < 7 then (some (0, (zu_up (zu_up (zu_up (zu_up (zu_up (zu_up (zu_up σ 213 0 a1) 213 1 a2) 213 2 ((zu_up (zu_up σ 213 0 a1) 213 1 a2) 195 a3)) 213 3 a4) 213 4 a5) 213 5 (zu_w32 (Int.tdiv a3 ((zu_up (zu_up (zu_up (zu_up (zu_up σ 213 0 a1) 213 1 a2) 213 2 ((zu_up (zu_up σ 213 0 a1) 213 1 a2) 195 a3)) 213 3 a4) 213 4 a5) a0 12)))) 213 6 a6))) else none) else none)) else none) else none) else none) else none) else none) else none)
set_option maxRecDepth 100000 in
set_option maxHeartbeats 4000000 in
theorem za_38_0 (n : Nat) (c : zu_C) (ex : zu_I) (a0 a1 a2 a3 a4 a5 a6 : Int) (σ : zu_m) : zu_rega (zt_T n) c ex 0 zt_m38 [] 400 0 [(40, a0), (0, a1), (0, a2), (0, a3), (0, a4), (0, a5), (0, a6)] [] σ = zd_38_0 c ex a0 a1 a2 a3 a4 a5 a6 σ := rfl
set_option maxRecDepth 100000 in
theorem zr_38_0 (n : Nat) (a0 a1 a2 a3 a4 a5 a6 : Int) (σ : zu_m) : zu_call (zt_T n) 38 [(40, a0), (0, a1), (0, a2), (0, a3), (0, a4), (0, a5), (0, a6)] σ = zd_38_0 (zu_call (zt_T n)) (zu_ex (zt_T n) 38) a0 a1 a2 a3 a4 a5 a6 σ := zu_call_at (zt_T n) (d := 0) (y := zt_m38) rfl rfl [] 400 [(40, a0), (0, a1), (0, a2), (0, a3), (0, a4), (0, a5), (0, a6)] [(40, a0), (0, a1), (0, a2), (0, a3), (0, a4), (0, a5), (0, a6)] σ rfl (za_38_0 n _ _ a0 a1 a2 a3 a4 a5 a6 σ)
def zd_41_0 (c : zu_C) (ex : zu_I) (a0 a1 : Int) (σ : zu_m) : Option zu_R := (ex 3 [(5, a0), (0, a1), (0, 24)] [] σ)
set_option maxRecDepth 100000 in
set_option maxHeartbeats 4000000 in
theorem za_41_0 (n : Nat) (c : zu_C) (ex : zu_I) (a0 a1 : Int) (σ : zu_m) : zu_rega (zt_T n) c ex 0 zt_m41 [3] 400 0 [(5, a0), (0, a1), (2, 0)] [] σ = zd_41_0 c ex a0 a1 σ := rfl
set_option maxRecDepth 100000 in
theorem zr_41_0 (n : Nat) (a0 a1 : Int) (σ : zu_m) : zu_call (zt_T n) 41 [(5, a0), (0, a1)] σ = zd_41_0 (zu_call (zt_T n)) (zu_ex (zt_T n) 41) a0 a1 σ := zu_call_at (zt_T n) (d := 0) (y := zt_m41) rfl rfl [3] 400 [(5, a0), (0, a1)] [(5, a0), (0, a1), (2, 0)] σ rfl (za_41_0 n _ _ a0 a1 σ)
def zd_41_3 (c : zu_C) (ex : zu_I) (a0 a1 x2 : Int) (σ : zu_m) : Option zu_R := (if x2 < 0 then (some (0, σ)) else (if 700 ≤ (σ a0 1) then (some (0, σ)) else (if 0 ≤ (σ a0 1) ∧ (σ a0 1) < 700 then (ex 3 [(5, a0), (0, a1), (0, (zu_w32 (x2 + (-8))))] [] (zu_up (zu_up σ 4 (σ a0 1) (zu_i32 3 (zu_i32 7 a1 x2) 255)) a0 1 (zu_w32 (((zu_up σ 4 (σ a0 1) (zu_i32 3 (zu_i32 7 a1 x2) 255)) a0 1) + 1)))) else none)))
set_option maxRecDepth 100000 in
set_option maxHeartbeats 4000000 in
theorem za_41_3 (n : Nat) (c : zu_C) (ex : zu_I) (a0 a1 x2 : Int) (σ : zu_m) : zu_rega (zt_T n) c ex 0 zt_m41 [3] 400 3 [(5, a0), (0, a1), (0, x2)] [] σ = zd_41_3 c ex a0 a1 x2 σ := rfl
set_option maxRecDepth 100000 in
theorem zr_41_3 (n : Nat) (a0 a1 x2 : Int) (σ : zu_m) : zu_ex (zt_T n) 41 3 [(5, a0), (0, a1), (0, x2)] [] σ = zd_41_3 (zu_call (zt_T n)) (zu_ex (zt_T n) 41) a0 a1 x2 σ := zu_rega_at (zt_T n) (d := 0) (y := zt_m41) rfl rfl [3] 400 3 [(5, a0), (0, a1), (0, x2)] [] σ (za_41_3 n _ _ a0 a1 x2 σ)
def zd_43_0 (c : zu_C) (ex : zu_I) (a0 a1 : Int) (σ : zu_m) : Option zu_R := (if a1 ≠ 0 then (if a1 ≠ 1 then (some ((-1), σ)) else (some ((σ a0 3), σ))) else (some ((σ a0 2), σ)))
set_option maxRecDepth 100000 in
set_option maxHeartbeats 4000000 in
theorem za_43_0 (n : Nat) (c : zu_C) (ex : zu_I) (a0 a1 : Int) (σ : zu_m) : zu_rega (zt_T n) c ex 0 zt_m43 [] 400 0 [(5, a0), (0, a1)] [] σ = zd_43_0 c ex a0 a1 σ := rfl
set_option maxRecDepth 100000 in
theorem zr_43_0 (n : Nat) (a0 a1 : Int) (σ : zu_m) : zu_call (zt_T n) 43 [(5, a0), (0, a1)] σ = zd_43_0 (zu_call (zt_T n)) (zu_ex (zt_T n) 43) a0 a1 σ := zu_call_at (zt_T n) (d := 0) (y := zt_m43) rfl rfl [] 400 [(5, a0), (0, a1)] [(5, a0), (0, a1)] σ rfl (za_43_0 n _ _ a0 a1 σ)
def zd_74_0 (c : zu_C) (ex : zu_I) (a0 a1 : Int) (σ : zu_m) : Option zu_R := (if a1 < (-1) then (zu_b 0 (some (0, σ))) else (if a1 ≤ (σ 141 6) then (zu_b 1 (some (1, (zu_up σ 141 7 a1)))) else (zu_b 0 (some (0, σ)))))
set_option maxRecDepth 100000 in
set_option maxHeartbeats 4000000 in
theorem za_74_0 (n : Nat) (c : zu_C) (ex : zu_I) (a0 a1 : Int) (σ : zu_m) : zu_rega (zt_T n) c ex 0 zt_m74 [] 400 0 [(5, a0), (0, a1)] [] σ = zd_74_0 c ex a0 a1 σ := rfl
set_option maxRecDepth 100000 in
theorem zr_74_0 (n : Nat) (a0 a1 : Int) (σ : zu_m) : zu_call (zt_T n) 74 [(5, a0), (0, a1)] σ = zd_74_0 (zu_call (zt_T n)) (zu_ex (zt_T n) 74) a0 a1 σ := zu_call_at (zt_T n) (d := 0) (y := zt_m74) rfl rfl [] 400 [(5, a0), (0, a1)] [(5, a0), (0, a1)] σ rfl (za_74_0 n _ _ a0 a1 σ)
def zd_82_0 (c : zu_C) (ex : zu_I) (a0 a1 a2 a3 a4 a5 : Int) (σ : zu_m) : Option zu_R := (if (zu_w32 (((zu_up σ a0 2 0) a0 1) + 20)) ≤ 700 then (ex 23 [(40, a0), (0, a1), (0, a2), (0, a3), (0, a4), (0, a5), (0, 0), (2, 0)] [] (zu_up σ a0 2 0)) else (some ((-1), (zu_up σ a0 2 0))))
set_option maxRecDepth 100000 in
set_option maxHeartbeats 4000000 in
theorem za_82_0 (n : Nat) (c : zu_C) (ex : zu_I) (a0 a1 a2 a3 a4 a5 : Int) (σ : zu_m) : zu_rega (zt_T n) c ex 0 zt_m82 [23] 400 0 [(40, a0), (0, a1), (0, a2), (0, a3), (0, a4), (0, a5), (2, 0), (2, 0)] [] σ = zd_82_0 c ex a0 a1 a2 a3 a4 a5 σ := rfl
set_option maxRecDepth 100000 in
theorem zr_82_0 (n : Nat) (a0 a1 a2 a3 a4 a5 : Int) (σ : zu_m) : zu_call (zt_T n) 82 [(40, a0), (0, a1), (0, a2), (0, a3), (0, a4), (0, a5)] σ = zd_82_0 (zu_call (zt_T n)) (zu_ex (zt_T n) 82) a0 a1 a2 a3 a4 a5 σ := zu_call_at (zt_T n) (d := 0) (y := zt_m82) rfl rfl [23] 400 [(40, a0), (0, a1), (0, a2), (0, a3), (0, a4), (0, a5)] [(40, a0), (0, a1), (0, a2), (0, a3), (0, a4), (0, a5), (2, 0), (2, 0)] σ rfl (za_82_0 n _ _ a0 a1 a2 a3 a4 a5 σ)
def zd_82_23 (c : zu_C) (ex : zu_I) (a0 a1 a2 a3 a4 a5 x6 : Int) (σ : zu_m) : Option zu_R := (if 20 ≤ x6 then (some (((zu_up σ a0 1 (zu_w32 ((σ a0 1) + 20))) a0 1), (zu_up σ a0 1 (zu_w32 ((σ a0 1) + 20))))) else (if 4 ≤ x6 then (if 8 ≤ x6 then (if 12 ≤ x6 then (if 16 ≤ x6 then (if (4 : Int) = 0 then none else (if 0 ≤ (zu_w32 ((σ a0 1) + x6)) ∧ (zu_w32 ((σ a0 1) + x6)) < 700 then (ex 23 [(40, a0), (0, a1), (0, a2), (0, a3), (0, a4), (0, a5), (0, (zu_w32 (x6 + 1))), (0, a5)] [] (zu_up σ 191 (zu_w32 ((σ a0 1) + x6)) (zu_i32 3 (zu_i32 6 a5 (zu_w32 (24 - (zu_w32 (8 * (Int.tmod x6 4)))))) 255))) else none)) else (if (4 : Int) = 0 then none else (if 0 ≤ (zu_w32 ((σ a0 1) + x6)) ∧ (zu_w32 ((σ a0 1) + x6)) < 700 then (ex 23 [(40, a0), (0, a1), (0, a2), (0, a3), (0, a4), (0, a5), (0, (zu_w32 (x6 + 1))), (0, a4)] [] (zu_up σ 191 (zu_w32 ((σ a0 1) + x6)) (zu_i32 3 (zu_i32 6 a4 (zu_w32 (24 - (zu_w32 (8 * (Int.tmod x6 4)))))) 255))) else none))) else (if (4 : Int) = 0 then none else (if 0 ≤ (zu_w32 ((σ a0 1) + x6)) ∧ (zu_w32 ((σ a0 1) + x6)) < 700 then (ex 23 [(40, a0), (0, a1), (0, a2), (0, a3), (0, a4), (0, a5), (0, (zu_w32 (x6 + 1))), (0, a3)] [] (zu_up σ 191 (zu_w32 ((σ a0 1) + x6)) (zu_i32 3 (zu_i32 6 a3 (zu_w32 (24 - (zu_w32 (8 * (Int.tmod x6 4)))))) 255))) else none))) else (if (4 : Int) = 0 then none else (if 0 ≤ (zu_w32 ((σ a0 1) + x6)) ∧ (zu_w32 ((σ a0 1) + x6)) < 700 then (ex 23 [(40, a0), (0, a1), (0, a2), (0, a3), (0, a4), (0, a5), (0, (zu_w32 (x6 + 1))), (0, a2)] [] (zu_up σ 191 (zu_w32 ((σ a0 1) + x6)) (zu_i32 3 (zu_i32 6 a2 (zu_w32 (24 - (zu_w32 (8 * (Int.tmod x6 4)))))) 255))) else none))) else (if (4 : Int) = 0 then none else (if 0 ≤ (zu_w32 ((σ a0 1) + x6)) ∧ (zu_w32 ((σ a0 1) + x6)) < 700 then (ex 23 [(40, a0), (0, a1), (0, a2), (0, a3), (0, a4), (0, a5), (0, (zu_w32 (x6 + 1))), (0, a1)] [] (zu_up σ 191 (zu_w32 ((σ a0 1) + x6)) (zu_i32 3 (zu_i32 6 a1 (zu_w32 (24 - (zu_w32 (8 * (Int.tmod x6 4)))))) 255))) else none))))
set_option maxRecDepth 100000 in
set_option maxHeartbeats 4000000 in
theorem za_82_23 (n : Nat) (c : zu_C) (ex : zu_I) (a0 a1 a2 a3 a4 a5 x6 : Int) (σ : zu_m) : zu_rega (zt_T n) c ex 0 zt_m82 [23] 400 23 [(40, a0), (0, a1), (0, a2), (0, a3), (0, a4), (0, a5), (0, x6), (2, 0)] [] σ = zd_82_23 c ex a0 a1 a2 a3 a4 a5 x6 σ := rfl
set_option maxRecDepth 100000 in
theorem zr_82_23 (n : Nat) (a0 a1 a2 a3 a4 a5 x6 : Int) (σ : zu_m) : zu_ex (zt_T n) 82 23 [(40, a0), (0, a1), (0, a2), (0, a3), (0, a4), (0, a5), (0, x6), (2, 0)] [] σ = zd_82_23 (zu_call (zt_T n)) (zu_ex (zt_T n) 82) a0 a1 a2 a3 a4 a5 x6 σ := zu_rega_at (zt_T n) (d := 0) (y := zt_m82) rfl rfl [23] 400 23 [(40, a0), (0, a1), (0, a2), (0, a3), (0, a4), (0, a5), (0, x6), (2, 0)] [] σ (za_82_23 n _ _ a0 a1 a2 a3 a4 a5 x6 σ)
def zd_86_0 (c : zu_C) (ex : zu_I) (a0 a1 a2 : Int) (σ : zu_m) : Option zu_R := (ex 5 [(40, a0), (0, a1), (0, a2), (0, 0), (0, 0), (2, 0), (2, 0), (2, 0)] [] σ)
set_option maxRecDepth 100000 in
set_option maxHeartbeats 4000000 in
theorem za_86_0 (n : Nat) (c : zu_C) (ex : zu_I) (a0 a1 a2 : Int) (σ : zu_m) : zu_rega (zt_T n) c ex 0 zt_m86 [5, 18, 57] 400 0 [(40, a0), (0, a1), (0, a2), (2, 0), (2, 0), (2, 0), (2, 0), (2, 0)] [] σ = zd_86_0 c ex a0 a1 a2 σ := rfl
set_option maxRecDepth 100000 in
theorem zr_86_0 (n : Nat) (a0 a1 a2 : Int) (σ : zu_m) : zu_call (zt_T n) 86 [(40, a0), (0, a1), (0, a2)] σ = zd_86_0 (zu_call (zt_T n)) (zu_ex (zt_T n) 86) a0 a1 a2 σ := zu_call_at (zt_T n) (d := 0) (y := zt_m86) rfl rfl [5, 18, 57] 400 [(40, a0), (0, a1), (0, a2)] [(40, a0), (0, a1), (0, a2), (2, 0), (2, 0), (2, 0), (2, 0), (2, 0)] σ rfl (za_86_0 n _ _ a0 a1 a2 σ)
def zd_86_5 (c : zu_C) (ex : zu_I) (a0 a1 a2 x3 x4 : Int) (σ : zu_m) : Option zu_R := (if 157 ≤ x4 then (some ((-1), σ)) else (ex 18 [(40, a0), (0, a1), (0, a2), (0, x3), (0, x4), (0, 0), (2, 0), (2, 0)] [] σ))
set_option maxRecDepth 100000 in
set_option maxHeartbeats 4000000 in
theorem za_86_5 (n : Nat) (c : zu_C) (ex : zu_I) (a0 a1 a2 x3 x4 : Int) (σ : zu_m) : zu_rega (zt_T n) c ex 0 zt_m86 [5, 18, 57] 400 5 [(40, a0), (0, a1), (0, a2), (0, x3), (0, x4), (2, 0), (2, 0), (2, 0)] [] σ = zd_86_5 c ex a0 a1 a2 x3 x4 σ := rfl
set_option maxRecDepth 100000 in
theorem zr_86_5 (n : Nat) (a0 a1 a2 x3 x4 : Int) (σ : zu_m) : zu_ex (zt_T n) 86 5 [(40, a0), (0, a1), (0, a2), (0, x3), (0, x4), (2, 0), (2, 0), (2, 0)] [] σ = zd_86_5 (zu_call (zt_T n)) (zu_ex (zt_T n) 86) a0 a1 a2 x3 x4 σ := zu_rega_at (zt_T n) (d := 0) (y := zt_m86) rfl rfl [5, 18, 57] 400 5 [(40, a0), (0, a1), (0, a2), (0, x3), (0, x4), (2, 0), (2, 0), (2, 0)] [] σ (za_86_5 n _ _ a0 a1 a2 x3 x4 σ)
def zd_86_18 (c : zu_C) (ex : zu_I) (a0 a1 a2 x3 x4 x5 : Int) (σ : zu_m) : Option zu_R := (if 0 ≤ (zu_w32 (x4 + x5)) ∧ (zu_w32 (x4 + x5)) < 157 then (if (σ 192 (zu_w32 (x4 + x5))) = 32 then (if x5 ≠ (zu_w32 (a2 - a1)) then (ex 57 [(40, a0), (0, a1), (0, a2), (0, x3), (0, x4), (0, x5), (0, 0), (0, 0)] [] σ) else (ex 57 [(40, a0), (0, a1), (0, a2), (0, x3), (0, x4), (0, x5), (0, 1), (0, 0)] [] σ)) else (ex 18 [(40, a0), (0, a1), (0, a2), (0, x3), (0, x4), (0, (zu_w32 (x5 + 1))), (2, 0), (2, 0)] [] σ)) else none)
set_option maxRecDepth 100000 in
set_option maxHeartbeats 4000000 in
theorem za_86_18 (n : Nat) (c : zu_C) (ex : zu_I) (a0 a1 a2 x3 x4 x5 : Int) (σ : zu_m) : zu_rega (zt_T n) c ex 0 zt_m86 [5, 18, 57] 400 18 [(40, a0), (0, a1), (0, a2), (0, x3), (0, x4), (0, x5), (2, 0), (2, 0)] [] σ = zd_86_18 c ex a0 a1 a2 x3 x4 x5 σ := rfl
set_option maxRecDepth 100000 in
theorem zr_86_18 (n : Nat) (a0 a1 a2 x3 x4 x5 : Int) (σ : zu_m) : zu_ex (zt_T n) 86 18 [(40, a0), (0, a1), (0, a2), (0, x3), (0, x4), (0, x5), (2, 0), (2, 0)] [] σ = zd_86_18 (zu_call (zt_T n)) (zu_ex (zt_T n) 86) a0 a1 a2 x3 x4 x5 σ := zu_rega_at (zt_T n) (d := 0) (y := zt_m86) rfl rfl [5, 18, 57] 400 18 [(40, a0), (0, a1), (0, a2), (0, x3), (0, x4), (0, x5), (2, 0), (2, 0)] [] σ (za_86_18 n _ _ a0 a1 a2 x3 x4 x5 σ)
def zd_86_57 (c : zu_C) (ex : zu_I) (a0 a1 a2 x3 x4 x5 x6 x7 : Int) (σ : zu_m) : Option zu_R := (if x5 ≤ x7 then (if x6 = 0 then (ex 5 [(40, a0), (0, a1), (0, a2), (0, (zu_w32 (x3 + 1))), (0, (zu_w32 (x4 + (zu_w32 (x5 + 1))))), (0, x5), (0, x6), (0, x7)] [] σ) else (some (x3, σ))) else (if x6 = 0 then (if x6 = 0 then (ex 5 [(40, a0), (0, a1), (0, a2), (0, (zu_w32 (x3 + 1))), (0, (zu_w32 (x4 + (zu_w32 (x5 + 1))))), (0, x5), (0, x6), (0, x7)] [] σ) else (some (x3, σ))) else (if 0 ≤ (zu_w32 (x4 + x7)) ∧ (zu_w32 (x4 + x7)) < 157 then (if 0 ≤ (zu_w32 (a1 + x7)) ∧ (zu_w32 (a1 + x7)) < 700 then (if (σ 192 (zu_w32 (x4 + x7))) ≠ (σ 191 (zu_w32 (a1 + x7))) then (ex 57 [(40, a0), (0, a1), (0, a2), (0, x3), (0, x4), (0, x5), (0, 0), (0, (zu_w32 (x7 + 1)))] [] σ) else (ex 57 [(40, a0), (0, a1), (0, a2), (0, x3), (0, x4), (0, x5), (0, 1), (0, (zu_w32 (x7 + 1)))] [] σ)) else none) else none)))
set_option maxRecDepth 100000 in
set_option maxHeartbeats 4000000 in
theorem za_86_57 (n : Nat) (c : zu_C) (ex : zu_I) (a0 a1 a2 x3 x4 x5 x6 x7 : Int) (σ : zu_m) : zu_rega (zt_T n) c ex 0 zt_m86 [5, 18, 57] 400 57 [(40, a0), (0, a1), (0, a2), (0, x3), (0, x4), (0, x5), (0, x6), (0, x7)] [] σ = zd_86_57 c ex a0 a1 a2 x3 x4 x5 x6 x7 σ := rfl
set_option maxRecDepth 100000 in
theorem zr_86_57 (n : Nat) (a0 a1 a2 x3 x4 x5 x6 x7 : Int) (σ : zu_m) : zu_ex (zt_T n) 86 57 [(40, a0), (0, a1), (0, a2), (0, x3), (0, x4), (0, x5), (0, x6), (0, x7)] [] σ = zd_86_57 (zu_call (zt_T n)) (zu_ex (zt_T n) 86) a0 a1 a2 x3 x4 x5 x6 x7 σ := zu_rega_at (zt_T n) (d := 0) (y := zt_m86) rfl rfl [5, 18, 57] 400 57 [(40, a0), (0, a1), (0, a2), (0, x3), (0, x4), (0, x5), (0, x6), (0, x7)] [] σ (za_86_57 n _ _ a0 a1 a2 x3 x4 x5 x6 x7 σ)
