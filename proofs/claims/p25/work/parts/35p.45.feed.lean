/-! feed, side by side: both tapes stay alike -/
theorem zbyte_bv (x : BitVec 32) (s : Nat) (hs : s ≤ 24) : (x >>> s) &&& 255#32 = (x.sshiftRight s) &&& 255#32 := by
  apply BitVec.eq_of_getLsbD_eq
  intro i hi
  rw [BitVec.getLsbD_and, BitVec.getLsbD_and, BitVec.getLsbD_ushiftRight, BitVec.getLsbD_sshiftRight]
  by_cases h8 : i < 8
  · rw [if_pos (show s + i < 32 by omega)]
    have : decide (32 ≤ i) = false := decide_eq_false (by omega)
    rw [this]
    rfl
  · have h255 : (255#32).getLsbD i = false := by
      have : ∀ j : Fin 32, ¬ j.val < 8 → (255#32).getLsbD j.val = false := by decide
      exact this ⟨i, hi⟩ h8
    rw [h255, Bool.and_false, Bool.and_false]
theorem zbyte_q (x : Int32) (q : Int32) (k : Nat) (hk : k ≤ 24) (h1 : ((q.toUInt32 &&& Int32.toUInt32 31).toBitVec % 32).toNat = k) (h2 : ((q &&& 31).toBitVec.smod 32).toNat = k) : ((x.toUInt32 >>> (q.toUInt32 &&& Int32.toUInt32 31)).toInt32 &&& Int32.ofInt 255) = ((x >>> (q &&& 31)) &&& Int32.ofInt 255) := by
  apply Int32.toBitVec_inj.mp
  rw [Int32.toBitVec_and, Int32.toBitVec_and, Int32.toBitVec_shiftRight]
  show ((x.toBitVec >>> ((q.toUInt32 &&& Int32.toUInt32 31).toBitVec % 32)) &&& 255#32) = _
  rw [BitVec.ushiftRight_eq', h1]
  show _ = (x.toBitVec.sshiftRight ((q &&& 31).toBitVec.smod 32).toNat) &&& 255#32
  rw [h2]
  exact zbyte_bv _ _ hk
def zB (a q : Int) : Int := zu_i32 3 (zu_i32 6 a q) 255
theorem zbyte_k (a q : Int) (k : Nat) (hk : k ≤ 24) (h1 : (((Int32.ofInt q).toUInt32 &&& Int32.toUInt32 31).toBitVec % 32).toNat = k) (h2 : ((Int32.ofInt q &&& 31).toBitVec.smod 32).toNat = k) : zu_i32 3 (zu_i32 7 a q) 255 = zB a q := by
  show (Int32.ofInt ((((Int32.ofInt a).toUInt32 >>> ((Int32.ofInt q).toUInt32 &&& Int32.toUInt32 31)).toInt32).toInt) &&& Int32.ofInt 255).toInt = (Int32.ofInt ((Int32.ofInt a >>> (Int32.ofInt q &&& 31)).toInt) &&& Int32.ofInt 255).toInt
  rw [Int32.ofInt_toInt, Int32.ofInt_toInt]
  exact congrArg Int32.toInt (zbyte_q (Int32.ofInt a) (Int32.ofInt q) k hk h1 h2)
theorem zbyte (a q : Int) (hq : q = 24 ∨ q = 16 ∨ q = 8 ∨ q = 0) : zu_i32 3 (zu_i32 7 a q) 255 = zB a q := by
  rcases hq with rfl | rfl | rfl | rfl
  · exact zbyte_k a 24 24 (by decide) (by decide) (by decide)
  · exact zbyte_k a 16 16 (by decide) (by decide) (by decide)
  · exact zbyte_k a 8 8 (by decide) (by decide) (by decide)
  · exact zbyte_k a 0 0 (by decide) (by decide) (by decide)
def zlay (f : Int → Int) (p a : Int) : Int → Int := fun i => if i = p + 3 then zB a 0 else if i = p + 2 then zB a 8 else if i = p + 1 then zB a 16 else if i = p then zB a 24 else f i
theorem zlay_out {f : Int → Int} {p a i : Int} (h : i < p ∨ p + 4 ≤ i) : zlay f p a i = f i := by
  unfold zlay
  rw [if_neg (by omega), if_neg (by omega), if_neg (by omega), if_neg (by omega)]
theorem zlay_0 {f : Int → Int} {p a i : Int} (h : i = p) : zlay f p a i = zB a 24 := by
  unfold zlay
  rw [if_neg (by omega), if_neg (by omega), if_neg (by omega), if_pos h]
theorem zlay_1 {f : Int → Int} {p a i : Int} (h : i = p + 1) : zlay f p a i = zB a 16 := by
  unfold zlay
  rw [if_neg (by omega), if_neg (by omega), if_pos h]
theorem zlay_2 {f : Int → Int} {p a i : Int} (h : i = p + 2) : zlay f p a i = zB a 8 := by
  unfold zlay
  rw [if_neg (by omega), if_pos h]
theorem zlay_3 {f : Int → Int} {p a i : Int} (h : i = p + 3) : zlay f p a i = zB a 0 := by
  unfold zlay
  rw [if_pos h]
theorem zy_41s (n : Nat) {a q p : Int} {m : zu_m} (hq : q = 24 ∨ q = 16 ∨ q = 8 ∨ q = 0) (hp : m 3 1 = p) (h0 : 0 ≤ p) (h1 : p < 700) : zu_ex (zt_T n) 41 3 [(5, 3), (0, a), (0, q)] [] m = zu_ex (zt_T n) 41 3 [(5, 3), (0, a), (0, q - 8)] [] (zu_up (zu_up m 4 p (zB a q)) 3 1 (p + 1)) := by
  rw [zu_rega_at (zt_T n) (zm_41 n) (zdp_41 n) _ _ _ _ _ _ (zr_41_3 n _ _ 3 a q m), if_neg (show ¬ q < 0 by omega), hp, if_neg (show ¬ 700 ≤ p by omega), if_pos (show 0 ≤ p ∧ p < 700 from ⟨h0, h1⟩), zbyte a q hq, show (zu_up m 4 p (zB a q)) 3 1 = p from (zu_up_ne (Or.inl (by decide))).trans hp, zu_w32_id (z := p + 1) (by omega) (by omega), zu_w32_id (z := q + -8) (by omega) (by omega)]
  rfl
theorem zy_41 (n : Nat) {a p : Int} {m : zu_m} (hp : m 3 1 = p) (h0 : 0 ≤ p) (h1 : p ≤ 696) : zw (zu_call (zt_T n) 41 [(5, 3), (0, a)] m) (fun _ m' => m' 3 1 = p + 4 ∧ m' 4 = zlay (m 4) p a) := by
  refine zw_eq (zu_call_at (zt_T n) (zm_41 n) (zdp_41 n) _ _ _ _ _ rfl (zr_41_0 n _ _ 3 a m)) ?_
  rw [zy_41s n (q := 24) (Or.inl rfl) hp h0 (by omega)]
  generalize hm1 : zu_up (zu_up m 4 p (zB a 24)) 3 1 (p + 1) = m1
  have p1 : m1 3 1 = p + 1 := by rw [← hm1]; exact zu_up_eq
  rw [show (24 : Int) - 8 = 16 from rfl, zy_41s n (q := 16) (Or.inr (Or.inl rfl)) p1 (by omega) (by omega)]
  generalize hm2 : zu_up (zu_up m1 4 (p + 1) (zB a 16)) 3 1 (p + 1 + 1) = m2
  have p2 : m2 3 1 = p + 1 + 1 := by rw [← hm2]; exact zu_up_eq
  rw [show (16 : Int) - 8 = 8 from rfl, zy_41s n (q := 8) (Or.inr (Or.inr (Or.inl rfl))) p2 (by omega) (by omega)]
  generalize hm3 : zu_up (zu_up m2 4 (p + 1 + 1) (zB a 8)) 3 1 (p + 1 + 1 + 1) = m3
  have p3 : m3 3 1 = p + 1 + 1 + 1 := by rw [← hm3]; exact zu_up_eq
  rw [show (8 : Int) - 8 = 0 from rfl, zy_41s n (q := 0) (Or.inr (Or.inr (Or.inr rfl))) p3 (by omega) (by omega)]
  generalize hm4 : zu_up (zu_up m3 4 (p + 1 + 1 + 1) (zB a 0)) 3 1 (p + 1 + 1 + 1 + 1) = m4
  have p4 : m4 3 1 = p + 1 + 1 + 1 + 1 := by rw [← hm4]; exact zu_up_eq
  refine zw_eq (zu_rega_at (zt_T n) (zm_41 n) (zdp_41 n) _ _ _ _ _ _ (zr_41_3 n _ _ 3 a (0 - 8) m4)) ?_
  rw [if_pos (show (0 : Int) - 8 < 0 by decide)]
  refine zw_some ⟨by rw [p4]; omega, funext (fun i => ?_)⟩
  have e4 : m4 4 i = if i = p + 1 + 1 + 1 then zB a 0 else m3 4 i := by rw [← hm4]; simp [zu_up_app]
  have e3 : m3 4 i = if i = p + 1 + 1 then zB a 8 else m2 4 i := by rw [← hm3]; simp [zu_up_app]
  have e2 : m2 4 i = if i = p + 1 then zB a 16 else m1 4 i := by rw [← hm2]; simp [zu_up_app]
  have e1 : m1 4 i = if i = p then zB a 24 else m 4 i := by rw [← hm1]; simp [zu_up_app]
  rw [e4, e3, e2, e1]
  unfold zlay
  rw [show p + 1 + 1 + 1 = p + 3 by omega, show p + 1 + 1 = p + 2 by omega]
def zval (a1 a2 a3 a4 a5 k : Int) : Int := zB (if 4 ≤ k then (if 8 ≤ k then (if 12 ≤ k then (if 16 ≤ k then a5 else a4) else a3) else a2) else a1) (zu_w32 (24 - (zu_w32 (8 * (Int.tmod k 4)))))
theorem zy_82L (n : Nat) {a1 a2 a3 a4 a5 p : Int} (p0 : 0 ≤ p) (p1 : p ≤ 680) : ∀ (k : Nat) (x : Int) (t : zu_m), t 190 1 = p → 0 ≤ x → x ≤ 20 → 20 - x < (k : Int) → zw (zu_ex (zt_T n) 82 23 [(40, 190), (0, a1), (0, a2), (0, a3), (0, a4), (0, a5), (0, x), (2, 0)] [] t) (fun _ t' => ∀ i, t' 191 i = if p + x ≤ i ∧ i < p + 20 then zval a1 a2 a3 a4 a5 (i - p) else t 191 i) := by
  intro k
  induction k with
  | zero => intro x t _ x0 x1 hk; exfalso; omega
  | succ k ih =>
    intro x t ht x0 x1 hk
    refine zw_eq (zu_rega_at (zt_T n) (zm_82 n) (zdp_82 n) _ _ _ _ _ _ (zr_82_23 n _ _ 190 a1 a2 a3 a4 a5 x t)) ?_
    refine zw_ite (fun h => zw_some (fun i => ?_)) (fun h => ?_)
    · rw [if_neg (by omega)]
      exact zu_up_ne (Or.inl (by decide))
    rw [ht, zu_w32_id (z := p + x) (by omega) (by omega), zu_w32_id (z := x + 1) (by omega) (by omega)]
    have go : ∀ A : Int, (if 4 ≤ x then (if 8 ≤ x then (if 12 ≤ x then (if 16 ≤ x then a5 else a4) else a3) else a2) else a1) = A → zw (if (4 : Int) = 0 then none else (if 0 ≤ p + x ∧ p + x < 700 then (zu_ex (zt_T n) 82 23 [(40, 190), (0, a1), (0, a2), (0, a3), (0, a4), (0, a5), (0, x + 1), (0, A)] [] (zu_up t 191 (p + x) (zu_i32 3 (zu_i32 6 A (zu_w32 (24 - (zu_w32 (8 * (Int.tmod x 4)))))) 255))) else none)) (fun _ t' => ∀ i, t' 191 i = if p + x ≤ i ∧ i < p + 20 then zval a1 a2 a3 a4 a5 (i - p) else t 191 i) := fun A hA => by
      rw [if_neg (show ¬ (4 : Int) = 0 by decide), if_pos (show 0 ≤ p + x ∧ p + x < 700 by omega)]
      have hv : zu_i32 3 (zu_i32 6 A (zu_w32 (24 - (zu_w32 (8 * (Int.tmod x 4)))))) 255 = zval a1 a2 a3 a4 a5 x := by
        unfold zval
        rw [hA]
        rfl
      rw [hv]
      generalize hm1 : zu_up t 191 (p + x) (zval a1 a2 a3 a4 a5 x) = t1
      have q1 : t1 190 1 = p := (zs_ne hm1 (Or.inl (by decide))).trans ht
      refine zw_le (zu_forget (zu_lr_same (zu_lr_same (zu_lr_same (zu_lr_same (zu_lr_same (zu_lr_same (zu_lr_same (zu_lr_drop zu_lr_nil))))))))) (zw_mono (ih (x + 1) t1 q1 (by omega) (by omega) (by omega)) (fun _ t' hs i => ?_))
      rw [hs i]
      by_cases e : i = p + x
      · rw [if_neg (by omega), if_pos (by omega), e, show p + x - p = x by omega]
        exact zs_eq hm1
      · rw [zs_ne hm1 (Or.inr e)]
        by_cases h2 : p + (x + 1) ≤ i ∧ i < p + 20
        · rw [if_pos h2, if_pos (by omega)]
        · rw [if_neg h2, if_neg (by omega)]
    refine zw_ite (fun h4 => zw_ite (fun h8 => zw_ite (fun h12 => zw_ite (fun h16 => ?_) (fun h16 => ?_)) (fun h12 => ?_)) (fun h8 => ?_)) (fun h4 => ?_)
    · exact go a5 (by rw [if_pos h4, if_pos h8, if_pos h12, if_pos h16])
    · exact go a4 (by rw [if_pos h4, if_pos h8, if_pos h12, if_neg h16])
    · exact go a3 (by rw [if_pos h4, if_pos h8, if_neg h12])
    · exact go a2 (by rw [if_pos h4, if_neg h8])
    · exact go a1 (by rw [if_neg h4])
theorem zval_0 (a1 a2 a3 a4 a5 : Int) : zval a1 a2 a3 a4 a5 0 = zB a1 24 := by
  unfold zval
  rw [show zu_w32 (24 - (zu_w32 (8 * (Int.tmod 0 4)))) = 24 by decide]
  rfl
theorem zval_1 (a1 a2 a3 a4 a5 : Int) : zval a1 a2 a3 a4 a5 1 = zB a1 16 := by
  unfold zval
  rw [show zu_w32 (24 - (zu_w32 (8 * (Int.tmod 1 4)))) = 16 by decide]
  rfl
theorem zval_2 (a1 a2 a3 a4 a5 : Int) : zval a1 a2 a3 a4 a5 2 = zB a1 8 := by
  unfold zval
  rw [show zu_w32 (24 - (zu_w32 (8 * (Int.tmod 2 4)))) = 8 by decide]
  rfl
theorem zval_3 (a1 a2 a3 a4 a5 : Int) : zval a1 a2 a3 a4 a5 3 = zB a1 0 := by
  unfold zval
  rw [show zu_w32 (24 - (zu_w32 (8 * (Int.tmod 3 4)))) = 0 by decide]
  rfl
theorem zval_4 (a1 a2 a3 a4 a5 : Int) : zval a1 a2 a3 a4 a5 4 = zB a2 24 := by
  unfold zval
  rw [show zu_w32 (24 - (zu_w32 (8 * (Int.tmod 4 4)))) = 24 by decide]
  rfl
theorem zval_5 (a1 a2 a3 a4 a5 : Int) : zval a1 a2 a3 a4 a5 5 = zB a2 16 := by
  unfold zval
  rw [show zu_w32 (24 - (zu_w32 (8 * (Int.tmod 5 4)))) = 16 by decide]
  rfl
theorem zval_6 (a1 a2 a3 a4 a5 : Int) : zval a1 a2 a3 a4 a5 6 = zB a2 8 := by
  unfold zval
  rw [show zu_w32 (24 - (zu_w32 (8 * (Int.tmod 6 4)))) = 8 by decide]
  rfl
theorem zval_7 (a1 a2 a3 a4 a5 : Int) : zval a1 a2 a3 a4 a5 7 = zB a2 0 := by
  unfold zval
  rw [show zu_w32 (24 - (zu_w32 (8 * (Int.tmod 7 4)))) = 0 by decide]
  rfl
theorem zval_8 (a1 a2 a3 a4 a5 : Int) : zval a1 a2 a3 a4 a5 8 = zB a3 24 := by
  unfold zval
  rw [show zu_w32 (24 - (zu_w32 (8 * (Int.tmod 8 4)))) = 24 by decide]
  rfl
theorem zval_9 (a1 a2 a3 a4 a5 : Int) : zval a1 a2 a3 a4 a5 9 = zB a3 16 := by
  unfold zval
  rw [show zu_w32 (24 - (zu_w32 (8 * (Int.tmod 9 4)))) = 16 by decide]
  rfl
theorem zval_10 (a1 a2 a3 a4 a5 : Int) : zval a1 a2 a3 a4 a5 10 = zB a3 8 := by
  unfold zval
  rw [show zu_w32 (24 - (zu_w32 (8 * (Int.tmod 10 4)))) = 8 by decide]
  rfl
theorem zval_11 (a1 a2 a3 a4 a5 : Int) : zval a1 a2 a3 a4 a5 11 = zB a3 0 := by
  unfold zval
  rw [show zu_w32 (24 - (zu_w32 (8 * (Int.tmod 11 4)))) = 0 by decide]
  rfl
theorem zval_12 (a1 a2 a3 a4 a5 : Int) : zval a1 a2 a3 a4 a5 12 = zB a4 24 := by
  unfold zval
  rw [show zu_w32 (24 - (zu_w32 (8 * (Int.tmod 12 4)))) = 24 by decide]
  rfl
theorem zval_13 (a1 a2 a3 a4 a5 : Int) : zval a1 a2 a3 a4 a5 13 = zB a4 16 := by
  unfold zval
  rw [show zu_w32 (24 - (zu_w32 (8 * (Int.tmod 13 4)))) = 16 by decide]
  rfl
theorem zval_14 (a1 a2 a3 a4 a5 : Int) : zval a1 a2 a3 a4 a5 14 = zB a4 8 := by
  unfold zval
  rw [show zu_w32 (24 - (zu_w32 (8 * (Int.tmod 14 4)))) = 8 by decide]
  rfl
theorem zval_15 (a1 a2 a3 a4 a5 : Int) : zval a1 a2 a3 a4 a5 15 = zB a4 0 := by
  unfold zval
  rw [show zu_w32 (24 - (zu_w32 (8 * (Int.tmod 15 4)))) = 0 by decide]
  rfl
theorem zval_16 (a1 a2 a3 a4 a5 : Int) : zval a1 a2 a3 a4 a5 16 = zB a5 24 := by
  unfold zval
  rw [show zu_w32 (24 - (zu_w32 (8 * (Int.tmod 16 4)))) = 24 by decide]
  rfl
theorem zval_17 (a1 a2 a3 a4 a5 : Int) : zval a1 a2 a3 a4 a5 17 = zB a5 16 := by
  unfold zval
  rw [show zu_w32 (24 - (zu_w32 (8 * (Int.tmod 17 4)))) = 16 by decide]
  rfl
theorem zval_18 (a1 a2 a3 a4 a5 : Int) : zval a1 a2 a3 a4 a5 18 = zB a5 8 := by
  unfold zval
  rw [show zu_w32 (24 - (zu_w32 (8 * (Int.tmod 18 4)))) = 8 by decide]
  rfl
theorem zval_19 (a1 a2 a3 a4 a5 : Int) : zval a1 a2 a3 a4 a5 19 = zB a5 0 := by
  unfold zval
  rw [show zu_w32 (24 - (zu_w32 (8 * (Int.tmod 19 4)))) = 0 by decide]
  rfl
theorem zlay5 {f : Int → Int} {p a1 a2 a3 a4 a5 i : Int} : zlay (zlay (zlay (zlay (zlay f p a1) (p + 4) a2) (p + 8) a3) (p + 12) a4) (p + 16) a5 i = if p ≤ i ∧ i < p + 20 then zval a1 a2 a3 a4 a5 (i - p) else f i := by
  by_cases h : p ≤ i ∧ i < p + 20
  · rw [if_pos h]
    obtain ⟨j, hj⟩ : ∃ j, j = i - p := ⟨_, rfl⟩
    have hi : i = p + j := by omega
    have hc : j = 0 ∨ j = 1 ∨ j = 2 ∨ j = 3 ∨ j = 4 ∨ j = 5 ∨ j = 6 ∨ j = 7 ∨ j = 8 ∨ j = 9 ∨ j = 10 ∨ j = 11 ∨ j = 12 ∨ j = 13 ∨ j = 14 ∨ j = 15 ∨ j = 16 ∨ j = 17 ∨ j = 18 ∨ j = 19 := by omega
    rw [← hj]
    clear hj h
    subst hi
    rcases hc with rfl | rfl | rfl | rfl | rfl | rfl | rfl | rfl | rfl | rfl | rfl | rfl | rfl | rfl | rfl | rfl | rfl | rfl | rfl | rfl
    · rw [zlay_out (by omega), zlay_out (by omega), zlay_out (by omega), zlay_out (by omega), zlay_0 (by omega), zval_0]
    · rw [zlay_out (by omega), zlay_out (by omega), zlay_out (by omega), zlay_out (by omega), zlay_1 (by omega), zval_1]
    · rw [zlay_out (by omega), zlay_out (by omega), zlay_out (by omega), zlay_out (by omega), zlay_2 (by omega), zval_2]
    · rw [zlay_out (by omega), zlay_out (by omega), zlay_out (by omega), zlay_out (by omega), zlay_3 (by omega), zval_3]
    · rw [zlay_out (by omega), zlay_out (by omega), zlay_out (by omega), zlay_0 (by omega), zval_4]
    · rw [zlay_out (by omega), zlay_out (by omega), zlay_out (by omega), zlay_1 (by omega), zval_5]
    · rw [zlay_out (by omega), zlay_out (by omega), zlay_out (by omega), zlay_2 (by omega), zval_6]
    · rw [zlay_out (by omega), zlay_out (by omega), zlay_out (by omega), zlay_3 (by omega), zval_7]
    · rw [zlay_out (by omega), zlay_out (by omega), zlay_0 (by omega), zval_8]
    · rw [zlay_out (by omega), zlay_out (by omega), zlay_1 (by omega), zval_9]
    · rw [zlay_out (by omega), zlay_out (by omega), zlay_2 (by omega), zval_10]
    · rw [zlay_out (by omega), zlay_out (by omega), zlay_3 (by omega), zval_11]
    · rw [zlay_out (by omega), zlay_0 (by omega), zval_12]
    · rw [zlay_out (by omega), zlay_1 (by omega), zval_13]
    · rw [zlay_out (by omega), zlay_2 (by omega), zval_14]
    · rw [zlay_out (by omega), zlay_3 (by omega), zval_15]
    · rw [zlay_0 (by omega), zval_16]
    · rw [zlay_1 (by omega), zval_17]
    · rw [zlay_2 (by omega), zval_18]
    · rw [zlay_3 (by omega), zval_19]
  · rw [if_neg h, zlay_out (by omega), zlay_out (by omega), zlay_out (by omega), zlay_out (by omega), zlay_out (by omega)]
/-- feed -/
theorem zz_feed (n : Nat) {a1 a2 a3 a4 a5 : Int} {m t : zu_m} (hT : m 4 = t 191) (hL : m 3 1 = t 190 1) (h0 : 0 ≤ m 3 1 ∧ m 3 1 ≤ 700) : zl (zu_call (zt_T n) 40 [(5, 3), (0, a1), (0, a2), (0, a3), (0, a4), (0, a5)] m) (fun _ m' => zl (zu_call (zt_T n) 82 [(40, 190), (0, a1), (0, a2), (0, a3), (0, a4), (0, a5)] t) (fun _ t' => m' 4 = t' 191)) := by
  obtain ⟨p, hp⟩ : ∃ p, m 3 1 = p := ⟨_, rfl⟩
  refine zl_eq (zu_call_at (zt_T n) (zm_40 n) (zdp_40 n) _ _ _ _ _ rfl (zr_40_0 n _ _ 3 a1 a2 a3 a4 a5 m)) ?_
  rw [zu_call_at (zt_T n) (zm_82 n) (zdp_82 n) _ _ _ _ _ rfl (zr_82_0 n _ _ 190 a1 a2 a3 a4 a5 t), show (zu_up t 190 2 0) 190 1 = p from (zu_up_ne (Or.inr (by decide))).trans (hL.symm.trans hp), hp]
  rw [hp] at h0
  rw [zu_w32_id (z := p + 20) (by omega) (by omega)]
  by_cases h : p ≤ 680
  · rw [if_pos h, if_pos (show p + 20 ≤ 700 by omega)]
    refine zl_bd (zl_mono (zl_of (zy_41 n (a := a1) hp h0.1 (by omega))) (fun _ m1 hs => ?_))
    obtain ⟨p1, f1⟩ := hs
    refine zl_bd (zl_mono (zl_of (zy_41 n (a := a2) p1 (by omega) (by omega))) (fun _ m2 hs => ?_))
    obtain ⟨p2, f2⟩ := hs
    refine zl_bd (zl_mono (zl_of (zy_41 n (a := a3) p2 (by omega) (by omega))) (fun _ m3 hs => ?_))
    obtain ⟨p3, f3⟩ := hs
    refine zl_bd (zl_mono (zl_of (zy_41 n (a := a4) p3 (by omega) (by omega))) (fun _ m4 hs => ?_))
    obtain ⟨p4, f4⟩ := hs
    refine zl_bd (zl_mono (zl_of (zy_41 n (a := a5) p4 (by omega) (by omega))) (fun _ m5 hs => ?_))
    obtain ⟨p5, f5⟩ := hs
    refine zl_some (zl_mono (zl_of (zy_82L n h0.1 h 21 0 (zu_up t 190 2 0) ((zu_up_ne (Or.inr (by decide))).trans (hL.symm.trans hp)) (by decide) (by decide) (by decide))) (fun _ t' hs => funext (fun i => ?_)))
    rw [hs i, f5, f4, f3, f2, f1, show p + 4 + 4 + 4 + 4 = p + 16 by omega, show p + 4 + 4 + 4 = p + 12 by omega, show p + 4 + 4 = p + 8 by omega, zlay5, Int.add_zero, hT, show (zu_up t 190 2 0) 191 i = t 191 i from zu_up_ne (Or.inl (by decide))]
  · rw [if_neg h, if_neg (show ¬ p + 20 ≤ 700 by omega)]
    refine zl_some (zl_some (funext (fun i => ?_)))
    rw [hT]
    exact (zu_up_ne (Or.inl (by decide))).symm
