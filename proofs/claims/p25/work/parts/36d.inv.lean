def zch_a (n : Nat) : Bool := match zt_bdz.getD (zt_clz.getD n 0) [], zt_s0t.getD n [] with
  | [], _ => true
  | [b], r => Nat.blt 0 r.length && r.all (fun v => decide (b.1 ≤ v) && decide (v ≤ b.2))
  | l, r => Nat.blt 0 r.length && (Nat.beq (r.length % l.length) 0 && (List.range r.length).all (fun k => match l[k % l.length]?, r[k]? with
    | some b, some v => decide (b.1 ≤ v) && decide (v ≤ b.2)
    | _, _ => false))
set_option maxRecDepth 100000 in
theorem zch : (List.range 234).all zch_a = true := by decide +kernel
theorem zt_row_at {r : List Int} (h : 0 < r.length) (p : Int) : ∃ k : Nat, k < r.length ∧ r[k]? = some (zt_row r p) ∧ (k : Int) = p % (r.length : Int) := by
  cases r with
  | nil => exact absurd h (Nat.lt_irrefl 0)
  | cons x r =>
    have h1 := Int.emod_nonneg p (show ((x :: r).length : Int) ≠ 0 by omega)
    have h2 := Int.emod_lt_of_pos p (show (0 : Int) < ((x :: r).length : Int) by omega)
    refine ⟨(p % ((x :: r).length : Int)).toNat, by omega, ?_, by omega⟩
    show (x :: r)[(p % ((x :: r).length : Int)).toNat]? = some ((x :: r).getD (p % ((x :: r).length : Int)).toNat 0)
    rw [List.getD_eq_getElem?_getD, List.getElem?_eq_getElem (show (p % ((x :: r).length : Int)).toNat < (x :: r).length by omega)]
    rfl
theorem zt_I1 : zi_I zt_s1 := fun a p b hb => by
  cases a with
  | negSucc n => exact absurd (show (zbd 0 p) = some b from hb) (by unfold zbd; show ([] : List (Int × Int))[(p % ((0 : Nat) : Int)).toNat]? ≠ some b; simp)
  | ofNat n =>
    have hb : zbd (zt_clz.getD n 0) p = some b := hb
    by_cases hn : n < 234
    · have hc := List.all_eq_true.mp zch n (List.mem_range.mpr hn)
      unfold zch_a at hc
      show b.1 ≤ zt_row (zt_s0t.getD n []) p ∧ zt_row (zt_s0t.getD n []) p ≤ b.2
      revert hc hb
      generalize zt_s0t.getD n [] = r
      generalize zt_clz.getD n 0 = c
      intro hb hc
      rw [List.getD_eq_getElem?_getD] at hc
      unfold zbd at hb
      cases hl : zt_bdz[c]? with
      | none => rw [hl] at hb; cases hb
      | some l =>
        rw [hl] at hb hc
        rcases l with _ | ⟨x, _ | ⟨y, l⟩⟩
        · exact absurd hb (by simp)
        · have hx : x = b := Option.some.inj (show some x = some b from hb)
          subst hx
          obtain ⟨h1, h2⟩ := Bool.and_eq_true_iff.mp (show (Nat.blt 0 r.length && r.all (fun v => decide (x.1 ≤ v) && decide (v ≤ x.2))) = true from hc)
          obtain ⟨k, hk, hr, -⟩ := zt_row_at (Nat.le_of_ble_eq_true h1) p
          obtain ⟨h3, h4⟩ := Bool.and_eq_true_iff.mp (List.all_eq_true.mp h2 _ (List.mem_of_getElem? hr))
          exact ⟨of_decide_eq_true h3, of_decide_eq_true h4⟩
        · have hb : (x :: y :: l)[(p % (((x :: y :: l).length : Nat) : Int)).toNat]? = some b := hb
          revert hb hc
          generalize hL : x :: y :: l = L
          intro hc hb
          have hc : (Nat.blt 0 r.length && (Nat.beq (r.length % L.length) 0 && (List.range r.length).all (fun k => match L[k % L.length]?, r[k]? with
            | some b, some v => decide (b.1 ≤ v) && decide (v ≤ b.2)
            | _, _ => false))) = true := by rw [← hL]; rw [← hL] at hc; exact hc
          obtain ⟨h1, h2⟩ := Bool.and_eq_true_iff.mp hc
          obtain ⟨h3, h4⟩ := Bool.and_eq_true_iff.mp h2
          obtain ⟨k, hk, hr, hkp⟩ := zt_row_at (Nat.le_of_ble_eq_true h1) p
          have h5 := List.all_eq_true.mp h4 k (List.mem_range.mpr hk)
          have hLp : 0 < L.length := by rw [← hL]; exact Nat.succ_pos _
          have hd : (L.length : Int) ∣ (r.length : Int) := Int.natCast_dvd_natCast.mpr (Nat.dvd_of_mod_eq_zero (Nat.eq_of_beq_eq_true h3))
          have e1 : p % (L.length : Int) = ((k % L.length : Nat) : Int) := by
            rw [← Int.emod_emod_of_dvd p hd, ← hkp]
            exact (Int.natCast_emod k L.length).symm
          rw [e1] at hb
          rw [show (((k % L.length : Nat) : Int)).toNat = k % L.length from Int.toNat_natCast _] at hb
          rw [hb, hr] at h5
          obtain ⟨h6, h7⟩ := Bool.and_eq_true_iff.mp (show (decide (b.1 ≤ zt_row r p) && decide (zt_row r p ≤ b.2)) = true from h5)
          exact ⟨of_decide_eq_true h6, of_decide_eq_true h7⟩
    · have e : zt_clz.getD n 0 = 0 := by
        rw [List.getD_eq_getElem?_getD, List.getElem?_eq_none (by rw [show zt_clz.length = 234 from rfl]; omega)]
        rfl
      rw [e] at hb
      exact absurd hb (by unfold zbd; show ([] : List (Int × Int))[(p % ((0 : Nat) : Int)).toNat]? ≠ some b; simp)
theorem zrg {f : Int → Bool} {lo : Int} {n : Nat} (h : (List.range n).all (fun k => f (lo + (k : Int))) = true) {i : Int} (h0 : lo ≤ i) (h1 : i < lo + (n : Int)) : f i = true := by
  have h2 := List.all_eq_true.mp h (i - lo).toNat (List.mem_range.mpr (by omega))
  rw [show lo + (((i - lo).toNat : Nat) : Int) = i by omega] at h2
  exact h2
theorem zt_e {xs : Nat → Int32} {a p : Int} (h : a ≠ 1) : zt_s0 xs a p = zt_s1 a p := if_neg h
theorem zt_n15 : zt_s1 190 15 = 0 := by decide +kernel
theorem zt_i_BN : zR_BN zt_s1 := ⟨by decide +kernel, fun i h0 h1 => of_decide_eq_true (zrg (f := fun i => decide (1 ≤ zt_s1 2 i)) (lo := 3) (n := 13) (by decide +kernel) h0 (by omega))⟩
theorem zt_i_C0 : zR_C0 zt_s1 := fun c h0 h4 hl => by rw [zt_n15] at hl; omega
theorem zt_i_E115 : zt_s1 3 9 = 1 → zE zt_s1 115 50 := fun h => absurd h (by decide +kernel)
theorem zt_i_E63 : zE zt_s1 63 50 := zE_zero rfl (by decide +kernel)
theorem zt_i_E89 : zE zt_s1 89 50 := zE_zero rfl (by decide +kernel)
theorem zt_i_G5 : zgeo zt_s1 50 := ⟨by decide +kernel, fun i h0 h1 => of_decide_eq_true (zrg (f := fun i => decide (0 ≤ zt_s1 (50 + 1) i ∧ zt_s1 (50 + 1) i < zt_s1 50 0 ∧ 0 ≤ zt_s1 (50 + 2) i ∧ zt_s1 (50 + 2) i < zt_s1 50 1 ∧ i = zt_s1 (50 + 2) i * zt_s1 50 0 + zt_s1 (50 + 1) i)) (lo := 0) (n := 30) (by decide +kernel) h0 ((show zt_s1 50 2 = 0 + ((30 : Nat) : Int) by decide +kernel) ▸ h1))⟩
theorem zt_i_K10 : zR_K10 zt_s1 := fun a i ha h0 h1 hk => by
  have e := zone_10 ha
  subst e
  exact absurd hk (of_decide_eq_true (zrg (f := fun i => decide (¬ zt_s1 (10 + 1) i = 17)) (lo := 0) (n := 64) (by decide +kernel) h0 (by omega)))
theorem zt_i_K54 : zR_K54 zt_s1 := fun a i ha h0 h1 hk => by
  have e := zone_54 ha
  subst e
  exact absurd hk (of_decide_eq_true (zrg (f := fun i => decide (¬ zt_s1 (54 + 1) i = 17)) (lo := 0) (n := 64) (by decide +kernel) h0 (by omega)))
theorem zt_i_KN : zR_KN zt_s1 := fun i h0 h1 => of_decide_eq_true (zrg (f := fun i => decide ((zt_s1 208 i = 1 → zt_s1 209 i ≤ 6) ∧ (2 ≤ zt_s1 208 i → zt_s1 209 i ≤ 63) ∧ (3 ≤ zt_s1 208 i → 0 ≤ zt_s1 210 i))) (lo := 0) (n := 128) (by decide +kernel) h0 (by omega))
theorem zt_i_LT : zR_LT zt_s1 := fun i h0 h1 h2 => absurd h2 (of_decide_eq_true (zrg (f := fun i => decide (¬ zt_s1 205 i = 1)) (lo := 0) (n := 4) (by decide +kernel) h0 (by omega)))
theorem zt_i_NS : zR_NS zt_s1 := fun a ha => by
  have e := zone_190 ha
  subst e
  decide +kernel
theorem zt_i_RI : zR_RI zt_s1 := fun h => absurd h (by decide +kernel)
theorem zt_i_RU : zR_RU zt_s1 := zRU_zero (a := 190) rfl (by decide +kernel)
theorem zt_i_SE : zE1 zt_s1 0 := fun c h0 h4 hl => by rw [zt_n15] at hl; omega
theorem zt_i_TE : zR_TE zt_s1 := by
  show zt_s1 190 14 ≤ zt_s1 216 0
  decide +kernel
theorem zt_i_UN : zR_UN zt_s1 := zUN_zero (a := 148) rfl (by decide +kernel) (by decide +kernel)
theorem zt_i_UW : zR_UW zt_s1 := zUW_zero (a := 148) rfl (by decide +kernel)
theorem zt_i_WD : zR_WD zt_s1 := by
  show zt_s1 192 156 = 32 ∧ znb zt_s1 157 = 33
  decide +kernel
theorem zt_i_W1 : zR_W1 zt_s1 := fun i h0 h1 => of_decide_eq_true (zrg (f := fun i => decide (zt_s1 46 i = zwC.getD i.toNat 0)) (lo := 0) (n := 33) (by decide +kernel) h0 (by omega))
theorem zt_i_W2 : zR_W2 zt_s1 := fun i h0 h1 => of_decide_eq_true (zrg (f := fun i => decide (zt_s1 192 i = zwt i)) (lo := 0) (n := 157) (by decide +kernel) h0 (by omega))
theorem zt_i_BY : zR_BX zt_s1 := fun i h0 h1 => of_decide_eq_true (zrg (f := fun i => decide (zt_s1 2 i = zbnd.getD i.toNat 0)) (lo := 0) (n := 18) (by decide +kernel) h0 (by omega))
theorem zt_i_TA : zR_TA zt_s1 := funext (fun p => by
  show zt_row (zt_s0t.getD 4 []) p = zt_row (zt_s0t.getD 191 []) p
  rw [show zt_s0t.getD 4 [] = zt_s0t.getD 191 [] by decide +kernel])
theorem zt_i_TP : zR_TP zt_s1 := by
  show zt_s1 3 2 = zt_s1 190 4 ∧ zt_s1 3 3 = zt_s1 190 5
  decide +kernel
theorem zt_i_LK : zR_LK zt_s1 := by
  have e2 : zt_s1 50 2 = 30 := by decide +kernel
  have e12 : zt_s1 190 12 = 6 := by decide +kernel
  have e13 : zt_s1 190 13 = 5 := by decide +kernel
  have e205 : ∀ L, 0 ≤ L → L < 4 → zt_s1 205 L = 0 := fun L h0 h1 => of_decide_eq_true (zrg (f := fun i => decide (zt_s1 205 i = 0)) (lo := 0) (n := 4) (by decide +kernel) h0 (by omega))
  have e57 : ∀ L, 0 ≤ L → L < 4 → zt_s1 57 L = -1 := fun L h0 h1 => of_decide_eq_true (zrg (f := fun i => decide (zt_s1 57 i = -1)) (lo := 0) (n := 4) (by decide +kernel) h0 (by omega))
  have ec : ∀ c, 0 ≤ c → c < 30 → zt_s1 60 c = 1 ∧ zt_s1 53 c = 0 ∧ zt_s1 195 c = 0 ∧ zt_s1 52 c = Int.tdiv c 6 ∧ 0 ≤ zt_s1 52 c ∧ zt_s1 52 c ≤ 48 := fun c h0 h1 => of_decide_eq_true (zrg (f := fun i => decide (zt_s1 60 i = 1 ∧ zt_s1 53 i = 0 ∧ zt_s1 195 i = 0 ∧ zt_s1 52 i = Int.tdiv i 6 ∧ 0 ≤ zt_s1 52 i ∧ zt_s1 52 i ≤ 48)) (lo := 0) (n := 30) (by decide +kernel) h0 (by omega))
  refine ⟨fun c c0 c1 V0 => ?_, fun L l0 l1 => ⟨⟨fun _ => e205 L l0 l1, fun _ => by rw [e57 L l0 l1]; decide⟩, fun h => ?_⟩, ⟨by rw [e2]; decide, by rw [e12]; decide, fun c c0 c1 => ?_⟩, by rw [e2, e12, e13]; rfl⟩
  · rw [e2] at c1
    obtain ⟨h1, h2, h3, -⟩ := ec c c0 c1
    rw [h1, h3]
    exact (if_pos (e205 1 (by decide) (by decide))).symm
  · rw [e57 L l0 l1] at h
    exact absurd h (by decide)
  · rw [e2] at c1
    obtain ⟨h1, h2, h3, h4, h5, h6⟩ := ec c c0 c1
    rw [h2, h3, e12]
    exact ⟨rfl, by decide, by decide, h4, h5, h6⟩
theorem zt_inv0 (xs : Nat → Int32) : zt_INV (zt_s0 xs) := by
  have hz : ∀ {S : List (Nat × Nat)}, (∀ p, zin S 0 p = false) → ∀ (a p : Int), zin S (zcls a) p = true → zt_s0 xs a p = zt_s1 a p := fun {S} hS a p h => by
    by_cases ha : a = 1
    · subst ha
      rw [zq_1, hS p] at h
      cases h
    · exact zt_e ha
  refine ⟨fun a p b hb => ?_, zR_BN_fr (hz (fun _ => rfl)) zt_i_BN, zR_C0_fr (hz (fun _ => rfl)) zt_i_C0, zR_E115_fr (hz (fun _ => rfl)) zt_i_E115, zR_E63_fr (hz (fun _ => rfl)) zt_i_E63, zR_E89_fr (hz (fun _ => rfl)) zt_i_E89, zR_G5_fr (hz (fun _ => rfl)) zt_i_G5, zR_K10_fr (hz (fun _ => rfl)) zt_i_K10, zR_K54_fr (hz (fun _ => rfl)) zt_i_K54, zR_KN_fr (hz (fun _ => rfl)) zt_i_KN, zR_LT_fr (hz (fun _ => rfl)) zt_i_LT, zR_NS_fr (hz (fun _ => rfl)) zt_i_NS, zR_RI_fr (hz (fun _ => rfl)) zt_i_RI, zR_RU_fr (hz (fun _ => rfl)) zt_i_RU, zR_SE_fr (hz (fun _ => rfl)) zt_i_SE, zR_TE_fr (hz (fun _ => rfl)) zt_i_TE, zR_UN_fr (hz (fun _ => rfl)) zt_i_UN, zR_UW_fr (hz (fun _ => rfl)) zt_i_UW, zR_WD_fr (hz (fun _ => rfl)) zt_i_WD, zR_W1_fr (hz (fun _ => rfl)) zt_i_W1, zR_W2_fr (hz (fun _ => rfl)) zt_i_W2, zR_BY_fr (hz (fun _ => rfl)) zt_i_BY, zR_TA_fr (hz (fun _ => rfl)) zt_i_TA, zR_TP_fr (hz (fun _ => rfl)) zt_i_TP, zR_LK_fr (hz (fun _ => rfl)) zt_i_LK, ?_, fun j => ?_⟩
  · by_cases ha : a = 1
    · subst ha
      rw [zq_1] at hb
      exact absurd hb (by unfold zbd; show ([] : List (Int × Int))[(p % ((0 : Nat) : Int)).toNat]? ≠ some b; simp)
    · rw [zt_e ha]
      exact zt_I1 a p b hb
  · rw [zt_e (by decide), zt_e (by decide)]
    decide +kernel
  · have h1 := (xs j.toNat).le_toInt
    have h2 := (xs j.toNat).toInt_lt
    show (-2147483648 : Int) ≤ (xs j.toNat).toInt ∧ (xs j.toNat).toInt ≤ 2147483647
    omega
