/-! the value of an E, as a function of its knots; the reference's lawOf works it out -/
theorem zlc_ge {a b : Int} : 0 ≤ zu_lcmp a b ↔ b ≤ a := by
  rcases zu_lcmp_sp a b with ⟨h, e⟩ | ⟨h, e⟩ | ⟨h, e⟩ <;> rw [e] <;> omega
theorem zlc_gt {a b : Int} : 0 < zu_lcmp a b ↔ b < a := by
  rcases zu_lcmp_sp a b with ⟨h, e⟩ | ⟨h, e⟩ | ⟨h, e⟩ <;> rw [e] <;> omega
theorem zlc_le {a b : Int} : zu_lcmp a b ≤ 0 ↔ a ≤ b := by
  rcases zu_lcmp_sp a b with ⟨h, e⟩ | ⟨h, e⟩ | ⟨h, e⟩ <;> rw [e] <;> omega
theorem zlc_lt {a b : Int} : zu_lcmp a b < 0 ↔ a < b := by
  rcases zu_lcmp_sp a b with ⟨h, e⟩ | ⟨h, e⟩ | ⟨h, e⟩ <;> rw [e] <;> omega
theorem zlc_eq {a b : Int} : zu_lcmp a b = 0 ↔ a = b := by
  rcases zu_lcmp_sp a b with ⟨h, e⟩ | ⟨h, e⟩ | ⟨h, e⟩ <;> rw [e] <;> omega
theorem zlc_ne {a b : Int} : zu_lcmp a b ≠ 0 ↔ a ≠ b := not_congr zlc_eq
def zvab (x : Int) : Int := if 0 ≤ x then x else zu_w64 (-x)
def zvlim (x : Int) : Option Int := if 1000000000000 < x then none else if -1000000000000 ≤ x then some x else none
def zvmul (a b : Int) : Option Int := if a = 0 then some 0 else if b = 0 then some 0 else if zvab b ≤ zu_w64 (Int.tdiv 1000000000000 (zvab a)) then some (zu_w64 (a * b)) else none
def zvdiv (a b : Int) : Option Int := if b = 0 then none else some (zu_w64 (Int.tdiv a b))
def zvcp (r a b : Int) : Int := if r = 5 then (if b ≤ a then 0 else 1) else if r = 6 then (if b < a then 0 else 1) else if r = 7 then (if a ≠ b then 0 else 1) else if r = 8 then (if a = b then 0 else 1) else if r = 9 then (if a < b then 0 else 1) else (if a ≤ b then 0 else 1)
def zvop (r a b : Int) : Option Int := if r = 3 then some (if a = 0 then 0 else if b = 0 then 0 else 1) else if r = 4 then some (if a ≠ 0 then 1 else if b = 0 then 0 else 1) else if r = 11 then zvlim (zu_w64 (a + b)) else if r = 12 then zvlim (zu_w64 (a - b)) else if r = 13 then zvmul a b else if r = 14 then zvdiv a b else some (zvcp r a b)
def zvkn (nm V : Int → Int) (r a b : Int) : Option Int := if r = 0 then some a else if r = 1 then some (if 0 ≤ a ∧ a < 7 then nm a else 0) else if r = 2 then some (if V a ≠ 0 then 0 else 1) else zvop r (V a) (V b)
def zvl (K A B nm V0 : Int → Int) (f : Int) : Nat → Option (Int → Int)
  | 0 => some V0
  | k + 1 => (zvl K A B nm V0 f k).bind (fun V => (zvkn nm V (K (f + (k : Int))) (A (f + (k : Int))) (B (f + (k : Int)))).map (fun x j => if j = f + (k : Int) then x else V j))
/-- the flag of errors and the value, behind a step -/
def zvQ (t : zu_m) (o : Option Int) (v : Int) (t' : zu_m) : Prop := zfr [(28, 54)] t t' ∧ (t 190 53 ≠ 0 → t' 190 53 ≠ 0) ∧ (t 190 53 = 0 → (o = none ∧ t' 190 53 ≠ 0) ∨ (o = some v ∧ t' 190 53 = 0))
theorem zvQ_1 {t : zu_m} {v : Int} : zvQ t none v (zu_up t 190 53 1) := ⟨zfr_up rfl (zfr_rf _ _) zq_190 rfl, fun _ => by rw [zu_up_eq]; decide, fun _ => Or.inl ⟨rfl, by rw [zu_up_eq]; decide⟩⟩
theorem zvQ_e {t : zu_m} {o : Option Int} {v : Int} (h : t 190 53 ≠ 0) : zvQ t o v (zu_up t 190 53 1) := ⟨zfr_up rfl (zfr_rf _ _) zq_190 rfl, fun _ => by rw [zu_up_eq]; decide, fun q => absurd q h⟩
theorem zvQ_0 {t : zu_m} {v : Int} (h : ¬ t 190 53 ≠ 0) : zvQ t (some v) v (zu_up t 190 53 0) := ⟨zfr_up rfl (zfr_rf _ _) zq_190 rfl, fun q => absurd q h, fun _ => Or.inr ⟨rfl, zu_up_eq⟩⟩
theorem zvQ_s {t : zu_m} {v : Int} : zvQ t (some v) v t := ⟨zfr_rf _ _, fun q => q, fun q => Or.inr ⟨rfl, q⟩⟩
theorem zv_119 (n : Nat) {x : Int} {t : zu_m} : zl (zu_call (zt_T n) 119 [(40, 190), (1, x)] t) (fun v t' => zvQ t (zvlim x) v t') := by
  refine zl_eq (zu_call_at (zt_T n) (zm_119 n) (zdp_119 n) _ _ _ _ _ rfl (zr_119_0 n _ _ 190 x t)) ?_
  rw [show (zu_up t 190 53 1) 190 53 = 1 from zu_up_eq, show (zu_up t 190 53 0) 190 53 = 0 from zu_up_eq, if_neg (show ¬ (1 : Int) = 0 by decide), if_pos (show (0 : Int) = 0 from rfl)]
  refine zl_ite (fun h => zl_b (zl_some (zvQ_e h))) (fun h => ?_)
  unfold zvlim
  refine zl_ite (fun h1 => ?_) (fun h1 => ?_)
  · rw [if_pos (zlc_gt.mp h1)]
    exact zl_b (zl_some zvQ_1)
  rw [if_neg (fun q => h1 (zlc_gt.mpr q))]
  refine zl_ite (fun h2 => ?_) (fun h2 => ?_)
  · rw [if_pos (zlc_ge.mp h2)]
    exact zl_b (zl_some (zvQ_0 h))
  · rw [if_neg (fun q => h2 (zlc_ge.mpr q))]
    exact zl_b (zl_some zvQ_1)
theorem zv_120 (n : Nat) {r a b : Int} {t : zu_m} : zu_call (zt_T n) 120 [(0, r), (1, a), (1, b)] t = some (zvcp r a b, t) := by
  rw [zu_call_at (zt_T n) (zm_120 n) (zdp_120 n) _ _ _ _ _ rfl (zr_120_0 n _ _ r a b t)]
  unfold zvcp
  simp only [zlc_ge, zlc_gt, zlc_ne, zlc_eq, zlc_lt, zlc_le, zu_b0, zu_b1]
  repeat' split
  all_goals rfl
theorem zw64_0 : zu_w64 0 = 0 := by decide
theorem zv_121 (n : Nat) {a b : Int} {t : zu_m} : zl (zu_call (zt_T n) 121 [(40, 190), (1, a), (1, b)] t) (fun v t' => zvQ t (zvmul a b) v t') := by
  refine zl_eq (zu_call_at (zt_T n) (zm_121 n) (zdp_121 n) _ _ _ _ _ rfl (zr_121_0 n _ _ 190 a b t)) ?_
  rw [show (zu_up t 190 53 1) 190 53 = 1 from zu_up_eq, show (zu_up t 190 53 0) 190 53 = 0 from zu_up_eq]
  simp only [zlc_ge, zlc_gt, zlc_ne, zlc_eq, zlc_lt, zlc_le, if_true, if_false, show ((1 : Int) = 0) = False from eq_false (by decide)]
  have ok : ∀ {v : Int}, zvmul a b = some v → zl (if t 190 53 ≠ 0 then zu_b 1 (some (0, zu_up t 190 53 1)) else zu_b 0 (some (v, zu_up t 190 53 0))) (fun v t' => zvQ t (zvmul a b) v t') := fun e => by
    refine zl_ite (fun h => zl_b (zl_some (zvQ_e h))) (fun h => ?_)
    rw [e]
    exact zl_b (zl_some (zvQ_0 h))
  have no : zvmul a b = none → zl (if t 190 53 ≠ 0 then zu_b 1 (some (0, zu_up t 190 53 1)) else zu_b 1 (some (0, zu_up t 190 53 1))) (fun v t' => zvQ t (zvmul a b) v t') := fun e => by
    refine zl_ite (fun h => zl_b (zl_some (zvQ_e h))) (fun h => ?_)
    rw [e]
    exact zl_b (zl_some zvQ_1)
  refine zl_ite (fun ha => ok ?_) (fun ha => ?_)
  · unfold zvmul
    rw [if_pos ha, ha, Int.zero_mul, zw64_0]
  refine zl_ite (fun hb => ok ?_) (fun hb => ?_)
  · unfold zvmul
    rw [if_neg ha, if_pos hb, hb, Int.mul_zero, zw64_0]
  have e0 : ∀ {P Q : Int}, zvab b = P → zvab a = Q → zvmul a b = if P ≤ zu_w64 (Int.tdiv 1000000000000 Q) then some (zu_w64 (a * b)) else none := fun h1 h2 => by
    unfold zvmul
    rw [if_neg ha, if_neg hb, h1, h2]
  have pb : 0 ≤ b → zvab b = b := fun h => if_pos h
  have nb : ¬ 0 ≤ b → zvab b = zu_w64 (-b) := fun h => if_neg h
  have pa : 0 ≤ a → zvab a = a := fun h => if_pos h
  have na : ¬ 0 ≤ a → zvab a = zu_w64 (-a) := fun h => if_neg h
  refine zl_ite (fun h1 => zl_ite (fun h2 => ?_) (fun h2 => ?_)) (fun h1 => zl_ite (fun h2 => ?_) (fun h2 => ?_))
  · have e := e0 (pb h1) (pa h2)
    exact zl_ite (fun _ => zl_none) (fun _ => zl_ite (fun h => ok (e.trans (if_pos h))) (fun h => no (e.trans (if_neg h))))
  · have e := e0 (pb h1) (na h2)
    exact zl_ite (fun _ => zl_none) (fun _ => zl_ite (fun h => ok (e.trans (if_pos h))) (fun h => no (e.trans (if_neg h))))
  · have e := e0 (nb h1) (pa h2)
    exact zl_ite (fun _ => zl_none) (fun _ => zl_ite (fun h => ok (e.trans (if_pos h))) (fun h => no (e.trans (if_neg h))))
  · have e := e0 (nb h1) (na h2)
    exact zl_ite (fun _ => zl_none) (fun _ => zl_ite (fun h => ok (e.trans (if_pos h))) (fun h => no (e.trans (if_neg h))))
theorem zvkn_cg {nm nm' V : Int → Int} (h : ∀ p, 0 ≤ p → p < 7 → nm p = nm' p) (r a b : Int) : zvkn nm V r a b = zvkn nm' V r a b := by
  unfold zvkn
  by_cases hb : 0 ≤ a ∧ a < 7
  · rw [if_pos hb, if_pos hb, h a hb.1 hb.2]
  · rw [if_neg hb, if_neg hb]
theorem zvl_cg {K A B nm nm' V0 : Int → Int} {f : Int} (h : ∀ p, 0 ≤ p → p < 7 → nm p = nm' p) : ∀ k : Nat, zvl K A B nm V0 f k = zvl K A B nm' V0 f k := by
  intro k
  induction k with
  | zero => rfl
  | succ k ih =>
    show (zvl K A B nm V0 f k).bind _ = (zvl K A B nm' V0 f k).bind _
    rw [ih]
    congr 1
    refine funext (fun V => ?_)
    rw [zvkn_cg h]
