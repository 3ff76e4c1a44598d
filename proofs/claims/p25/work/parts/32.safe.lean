/-! SAFETY: classes of the cells, bounds of their places, what a method may write -/
theorem zw_eq {x y : Option zu_R} {Q : Int → zu_m → Prop} (e : x = y) (h : zw y Q) : zw x Q := by rw [e]; exact h
theorem zw_bd {x : Option zu_R} {f : Int → zu_m → Option zu_R} {Q : Int → zu_m → Prop} (h : zw x (fun v σ => zw (f v σ) Q)) : zw (zu_bd x f) Q := by
  obtain ⟨v, σ, e, h1⟩ := h
  unfold zu_bd
  rw [e]
  exact h1
theorem zw_nif {p : Prop} {d : Decidable p} {x : Option zu_R} {Q : Int → zu_m → Prop} (h : ¬ p) (h1 : zw x Q) : zw (@ite _ p d none x) Q := by
  rw [if_neg h]
  exact h1
def zcls (a : Int) : Nat := match a with
  | .ofNat n => zt_clz.getD n 0
  | .negSucc _ => 0
def zbd (c : Nat) (p : Int) : Option (Int × Int) := match zt_bdz[c]? with
  | some [b] => some b
  | some l => l[(p % (l.length : Int)).toNat]?
  | none => none
def zi_I (σ : zu_m) : Prop := ∀ (a p : Int) (b : Int × Int), zbd (zcls a) p = some b → b.1 ≤ σ a p ∧ σ a p ≤ b.2
def zin (W : List (Nat × Nat)) (c : Nat) (p : Int) : Bool := W.any (fun q => Nat.beq q.1 c && (Nat.beq q.2 0 || decide ((q.2 : Int) = p + 1)))
def zfr (W : List (Nat × Nat)) (σ σ' : zu_m) : Prop := ∀ (a p : Int), zin W (zcls a) p = false → σ' a p = σ a p
def zsub (V W : List (Nat × Nat)) : Bool := V.all (fun q => W.any (fun r => Nat.beq r.1 q.1 && (Nat.beq r.2 0 || Nat.beq r.2 q.2)))
theorem zfr_rf (W : List (Nat × Nat)) (σ : zu_m) : zfr W σ σ := fun _ _ _ => rfl
theorem zsub_in {V W : List (Nat × Nat)} {c : Nat} {p : Int} (h : zsub V W = true) (hw : zin W c p = false) : zin V c p = false := by
  cases hv : zin V c p with
  | false => rfl
  | true =>
    obtain ⟨q, hq, h1⟩ := List.any_eq_true.mp hv
    obtain ⟨h2, h3⟩ := Bool.and_eq_true_iff.mp h1
    obtain ⟨r, hr, h4⟩ := List.any_eq_true.mp (List.all_eq_true.mp h q hq)
    obtain ⟨h5, h6⟩ := Bool.and_eq_true_iff.mp h4
    have : zin W c p = true := by
      refine List.any_eq_true.mpr ⟨r, hr, Bool.and_eq_true_iff.mpr ⟨?_, ?_⟩⟩
      · rw [Nat.eq_of_beq_eq_true h5]; exact h2
      · rcases Bool.or_eq_true_iff.mp h6 with h7 | h7
        · rw [h7]; rfl
        · rw [Nat.eq_of_beq_eq_true h7]; exact h3
    rw [this] at hw
    cases hw
theorem zfr_tr {V W : List (Nat × Nat)} {σ0 σ σ' : zu_m} (hF : zfr W σ0 σ) (hf : zfr V σ σ') (hs : zsub V W = true) : zfr W σ0 σ' := fun a p h => (hf a p (zsub_in hs h)).trans (hF a p h)
theorem zfr_ap {W : List (Nat × Nat)} {σ σ' : zu_m} {a p : Int} {c : Nat} (h : zfr W σ σ') (hc : zcls a = c) (hz : zin W c p = false) : σ' a p = σ a p := h a p (by rw [hc]; exact hz)
theorem zfr_up {W : List (Nat × Nat)} {σ0 σ σ' : zu_m} {a p v : Int} {c : Nat} (hm : zu_up σ a p v = σ') (hF : zfr W σ0 σ) (hc : zcls a = c) (hw : zin W c p = true) : zfr W σ0 σ' := fun b q hb => by
  rw [← hm, zu_up_ne]
  · exact hF b q hb
  · by_cases e : b = a
    · refine Or.inr (fun e2 => ?_)
      rw [e, e2, hc, hw] at hb
      cases hb
    · exact Or.inl e
theorem zi_rd {σ : zu_m} {a p lo hi : Int} {c : Nat} (hI : zi_I σ) (hc : zcls a = c) (hb : zbd c p = some (lo, hi)) : lo ≤ σ a p ∧ σ a p ≤ hi := hI a p (lo, hi) (by rw [hc]; exact hb)
/-- all bounds of the residues r0 .. r1 lie in lo .. hi -/
def zres (c m r0 r1 : Nat) (lo hi : Int) : Bool := match zt_bdz[c]? with
  | some l => Nat.beq l.length m && Nat.blt 1 m && (List.range m).all (fun i => !(Nat.ble r0 i && Nat.ble i r1) || (match l[i]? with
    | some b => decide (lo ≤ b.1) && decide (b.2 ≤ hi)
    | none => false))
  | none => false
/-- all bounds of the residues r0 .. r1 hold lo .. hi -/
def zrst (c m r0 r1 : Nat) (lo hi : Int) : Bool := match zt_bdz[c]? with
  | some l => Nat.beq l.length m && Nat.blt 1 m && (List.range m).all (fun i => !(Nat.ble r0 i && Nat.ble i r1) || (match l[i]? with
    | some b => decide (b.1 ≤ lo) && decide (hi ≤ b.2)
    | none => false))
  | none => false
def zmod (c m : Nat) : Bool := match zt_bdz[c]? with
  | some l => Nat.beq l.length m && Nat.blt 1 m
  | none => false
theorem zbd_l {c m : Nat} {l : List (Int × Int)} (h : zt_bdz[c]? = some l) (hm : l.length = m) (h1 : 1 < m) (p : Int) : zbd c p = l[(p % (m : Int)).toNat]? := by
  unfold zbd
  rw [h]
  subst hm
  rcases l with _ | ⟨x, _ | ⟨y, l⟩⟩
  · rfl
  · exact absurd h1 (Nat.lt_irrefl 1)
  · rfl
theorem zi_rdr {σ : zu_m} {a p lo hi : Int} {c m r0 r1 : Nat} (hI : zi_I σ) (hc : zcls a = c) (hp : (r0 : Int) ≤ p % (m : Int) ∧ p % (m : Int) ≤ (r1 : Int)) (hb : zres c m r0 r1 lo hi = true) : lo ≤ σ a p ∧ σ a p ≤ hi := by
  unfold zres at hb
  cases hl : zt_bdz[c]? with
  | none => rw [hl] at hb; cases hb
  | some l =>
    rw [hl] at hb
    obtain ⟨hb1, hb2⟩ := Bool.and_eq_true_iff.mp hb
    obtain ⟨hb3, hb4⟩ := Bool.and_eq_true_iff.mp hb1
    have h3 := Nat.eq_of_beq_eq_true hb3
    have h4 : 1 < m := Nat.le_of_ble_eq_true hb4
    have hz := zbd_l hl h3 h4 p
    have hlt : (p % (m : Int)).toNat < m := by
      have := Int.emod_lt_of_pos p (show (0 : Int) < (m : Int) by omega)
      omega
    have h5 := List.all_eq_true.mp hb2 (p % (m : Int)).toNat (List.mem_range.mpr hlt)
    have e1 : Nat.ble r0 (p % (m : Int)).toNat = true := Nat.ble_eq_true_of_le (by omega)
    have e2 : Nat.ble (p % (m : Int)).toNat r1 = true := Nat.ble_eq_true_of_le (by omega)
    rw [e1, e2] at h5
    cases hb6 : l[(p % (m : Int)).toNat]? with
    | none => rw [hb6] at h5; cases h5
    | some b =>
      rw [hb6] at h5
      obtain ⟨h7, h8⟩ := Bool.and_eq_true_iff.mp (show (decide (lo ≤ b.1) && decide (b.2 ≤ hi)) = true from h5)
      have h9 := hI a p b (by rw [hc, hz]; exact hb6)
      have h10 := of_decide_eq_true h7
      have h11 := of_decide_eq_true h8
      omega
theorem zi_upr {σ σ' : zu_m} {a p v lo hi : Int} {c m r0 r1 : Nat} (hm : zu_up σ a p v = σ') (hI : zi_I σ) (hc : zcls a = c) (hp : (r0 : Int) ≤ p % (m : Int) ∧ p % (m : Int) ≤ (r1 : Int)) (hb : zrst c m r0 r1 lo hi = true) (h1 : lo ≤ v) (h2 : v ≤ hi) : zi_I σ' := by
  unfold zrst at hb
  cases hl : zt_bdz[c]? with
  | none => rw [hl] at hb; cases hb
  | some l =>
    rw [hl] at hb
    obtain ⟨hb1, hb2⟩ := Bool.and_eq_true_iff.mp hb
    obtain ⟨hb3, hb4⟩ := Bool.and_eq_true_iff.mp hb1
    have h3 := Nat.eq_of_beq_eq_true hb3
    have h4 : 1 < m := Nat.le_of_ble_eq_true hb4
    have hz := zbd_l hl h3 h4 p
    have hlt : (p % (m : Int)).toNat < m := by
      have := Int.emod_lt_of_pos p (show (0 : Int) < (m : Int) by omega)
      omega
    have h5 := List.all_eq_true.mp hb2 (p % (m : Int)).toNat (List.mem_range.mpr hlt)
    have e1 : Nat.ble r0 (p % (m : Int)).toNat = true := Nat.ble_eq_true_of_le (by omega)
    have e2 : Nat.ble (p % (m : Int)).toNat r1 = true := Nat.ble_eq_true_of_le (by omega)
    rw [e1, e2] at h5
    intro b q w hw
    rw [← hm]
    unfold zu_up
    split
    · rename_i e
      rw [e.1, e.2, hc, hz] at hw
      rw [hw] at h5
      obtain ⟨h7, h8⟩ := Bool.and_eq_true_iff.mp (show (decide (w.1 ≤ lo) && decide (hi ≤ w.2)) = true from h5)
      have h10 := of_decide_eq_true h7
      have h11 := of_decide_eq_true h8
      omega
    · exact hI b q w hw
theorem zi_upm {σ σ' : zu_m} {a p v q : Int} {c m : Nat} (hm : zu_up σ a p v = σ') (hI : zi_I σ) (hc : zcls a = c) (hl : zmod c m = true) (hq : q % (m : Int) = p % (m : Int)) (hv : v = σ a q) : zi_I σ' := by
  unfold zmod at hl
  cases hz : zt_bdz[c]? with
  | none => rw [hz] at hl; cases hl
  | some l =>
    rw [hz] at hl
    obtain ⟨hb3, hb4⟩ := Bool.and_eq_true_iff.mp hl
    have h3 := Nat.eq_of_beq_eq_true hb3
    have h4 : 1 < m := Nat.le_of_ble_eq_true hb4
    intro b r w hw
    rw [← hm]
    unfold zu_up
    split
    · rename_i e
      rw [e.1, e.2, hc, zbd_l hz h3 h4, ← hq, ← zbd_l hz h3 h4] at hw
      rw [hv]
      exact hI a q w (by rw [hc]; exact hw)
    · exact hI b r w hw
theorem zi_up {σ σ' : zu_m} {a p v lo hi : Int} {c : Nat} (hm : zu_up σ a p v = σ') (hI : zi_I σ) (hc : zcls a = c) (hb : zbd c p = some (lo, hi)) (h1 : lo ≤ v) (h2 : v ≤ hi) : zi_I σ' := fun b q w hw => by
  rw [← hm]
  unfold zu_up
  split
  · rename_i e
    rw [e.1, e.2, hc, hb] at hw
    cases hw
    exact ⟨h1, h2⟩
  · exact hI b q w hw
theorem zi_cp {σ σ' : zu_m} {a sp b dp n la ha lb hb : Int} {ca cb : Nat} (hm : zu_cp σ a sp b dp n = σ') (hI : zi_I σ) (hca : zcls a = ca) (hcb : zcls b = cb) (h1 : ∀ p, zbd ca p = some (la, ha)) (h2 : ∀ p, zbd cb p = some (lb, hb)) (h3 : lb ≤ la) (h4 : ha ≤ hb) : zi_I σ' := fun c q w hw => by
  rw [← hm]
  unfold zu_cp
  split
  · rename_i e
    rw [e.1, hcb, h2] at hw
    cases hw
    have h5 := hI a (sp + (q - dp)) (la, ha) (by rw [hca]; exact h1 _)
    exact ⟨Int.le_trans h3 h5.1, Int.le_trans h5.2 h4⟩
  · exact hI c q w hw
theorem zfr_cp {W : List (Nat × Nat)} {σ0 σ σ' : zu_m} {a sp b dp n : Int} {cb : Nat} (hm : zu_cp σ a sp b dp n = σ') (hF : zfr W σ0 σ) (hcb : zcls b = cb) (hw : ∀ p, zin W cb p = true) : zfr W σ0 σ' := fun c q hc => by
  rw [← hm]
  unfold zu_cp
  split
  · rename_i e
    rw [e.1, hcb, hw] at hc
    cases hc
  · exact hF c q hc
theorem zs_ne {σ m : zu_m} {a i v b j : Int} (hm : zu_up σ a i v = m) (h : b ≠ a ∨ j ≠ i) : m b j = σ b j := by rw [← hm]; exact zu_up_ne h
theorem zs_eq {σ m : zu_m} {a i v : Int} (hm : zu_up σ a i v = m) : m a i = v := by rw [← hm]; exact zu_up_eq
theorem zc_ne {a b : Int} {c d : Nat} (h1 : zcls a = c) (h2 : zcls b = d) (h : c ≠ d) : a ≠ b := fun e => h (by rw [← h1, ← h2, e])
theorem zcls_inv {a : Int} {c : Nat} (h : zcls a = c) (hc : c ≠ 0) : ∃ n : Nat, a = (n : Int) ∧ n < 234 ∧ zt_clz.getD n 0 = c := by
  cases a with
  | ofNat n =>
    refine ⟨n, rfl, ?_, h⟩
    by_cases hn : n < 234
    · exact hn
    · have : zt_clz.getD n 0 = 0 := by
        rw [List.getD_eq_getElem?_getD, List.getElem?_eq_none (by rw [show zt_clz.length = 234 from rfl]; omega)]; rfl
      exact absurd (h.symm.trans this) hc
  | negSucc n => exact absurd h.symm hc
theorem zcls_st {a : Int} {c d k : Nat} (hd : (List.range 234).all (fun n => !(Nat.beq (zt_clz.getD n 0) c) || Nat.beq (zt_clz.getD (n + k) 0) d) = true) (hc : c ≠ 0) (h : zcls a = c) : zcls (a + (k : Int)) = d := by
  obtain ⟨n, rfl, hn, h1⟩ := zcls_inv h hc
  have h2 := List.all_eq_true.mp hd n (List.mem_range.mpr hn)
  rw [h1] at h2
  rw [show Nat.beq c c = true from Nat.beq_refl c] at h2
  exact Nat.eq_of_beq_eq_true h2
theorem zcls_el {a i : Int} {c d k l : Nat} (hd : (List.range 234).all (fun n => !(Nat.beq (zt_clz.getD n 0) c) || (List.range l).all (fun i => Nat.beq (zt_clz.getD (n + k + i) 0) d)) = true) (hc : c ≠ 0) (h : zcls a = c) (hi : 0 ≤ i ∧ i < (l : Int)) : zcls (a + (k : Int) + i) = d := by
  obtain ⟨n, rfl, hn, h1⟩ := zcls_inv h hc
  obtain ⟨e, rfl⟩ := Int.eq_ofNat_of_zero_le hi.1
  have h2 := List.all_eq_true.mp hd n (List.mem_range.mpr hn)
  rw [h1] at h2
  rw [show Nat.beq c c = true from Nat.beq_refl c] at h2
  exact Nat.eq_of_beq_eq_true (List.all_eq_true.mp h2 e (List.mem_range.mpr (by omega)))
/-! numbers -/
theorem zu_w32_rg (z : Int) : -2147483648 ≤ zu_w32 z ∧ zu_w32 z ≤ 2147483647 := by
  have h1 := Int.le_bmod (x := z) (m := 4294967296) (by omega)
  have h2 := Int.bmod_lt (x := z) (m := 4294967296) (by omega)
  unfold zu_w32
  omega
theorem zu_w64_rg (z : Int) : -9223372036854775808 ≤ zu_w64 z ∧ zu_w64 z ≤ 9223372036854775807 := by
  have h1 := Int.le_bmod (x := z) (m := 18446744073709551616) (by omega)
  have h2 := Int.bmod_lt (x := z) (m := 18446744073709551616) (by omega)
  unfold zu_w64
  omega
theorem zu_w64_ng {x : Int} (h1 : -9223372036854775808 ≤ x ∧ x ≤ 9223372036854775807) (h2 : x ≠ 0) : zu_w64 (-x) ≠ 0 := by
  intro h
  have h3 : (18446744073709551616 : Int) ∣ -x := Int.dvd_of_bmod_eq_zero h
  omega
theorem zu_w32_ng {x : Int} (h1 : -2147483648 ≤ x ∧ x ≤ 2147483647) (h2 : x ≠ 0) : zu_w32 (-x) ≠ 0 := by
  intro h
  have h3 : (4294967296 : Int) ∣ -x := Int.dvd_of_bmod_eq_zero h
  omega
theorem z32_rg (x : Int32) : -2147483648 ≤ x.toInt ∧ x.toInt ≤ 2147483647 := by
  have h1 := Int32.le_toInt x
  have h2 := Int32.toInt_lt x
  omega
theorem z64_rg (x : Int64) : -9223372036854775808 ≤ x.toInt ∧ x.toInt ≤ 9223372036854775807 := by
  have h1 := Int64.le_toInt x
  have h2 := Int64.toInt_lt x
  omega
theorem zu_i32_rg (o : Nat) (a b : Int) : -2147483648 ≤ zu_i32 o a b ∧ zu_i32 o a b ≤ 2147483647 := by
  unfold zu_i32
  split
  · exact z32_rg _
  · omega
theorem zu_i64_rg (o : Nat) (a b : Int) : -9223372036854775808 ≤ zu_i64 o a b ∧ zu_i64 o a b ≤ 9223372036854775807 := by
  unfold zu_i64
  split
  · exact z64_rg _
  · omega
theorem zu_shl_rg (a b : Int) : -9223372036854775808 ≤ zu_shl a b ∧ zu_shl a b ≤ 9223372036854775807 := z64_rg _
theorem zu_shr_rg (a b : Int) : -9223372036854775808 ≤ zu_shr a b ∧ zu_shr a b ≤ 9223372036854775807 := z64_rg _
theorem zmul_bd {x y a b A B : Int} (h0 : 0 ≤ a) (h1 : a ≤ x) (h2 : x ≤ A) (h5 : 0 ≤ b) (h3 : b ≤ y) (h4 : y ≤ B) : a * b ≤ x * y ∧ x * y ≤ A * B := ⟨Int.mul_le_mul h1 h3 h5 (Int.le_trans h0 h1), Int.mul_le_mul h2 h4 (Int.le_trans h5 h3) (Int.le_trans (Int.le_trans h0 h1) h2)⟩
theorem ztdiv_bd {x y : Int} (h1 : 0 ≤ x) (h2 : 1 ≤ y) : 0 ≤ Int.tdiv x y ∧ Int.tdiv x y ≤ x := by
  rw [Int.tdiv_eq_ediv_of_nonneg h1]
  exact ⟨Int.ediv_nonneg h1 (by omega), Int.ediv_le_self y h1⟩
theorem ztmod_ab {x y : Int} : -(x.natAbs : Int) ≤ Int.tmod x y ∧ Int.tmod x y ≤ (x.natAbs : Int) := by
  have h : (Int.tmod x y).natAbs ≤ x.natAbs := by
    rw [Int.natAbs_tmod]
    exact Nat.mod_le _ _
  omega
theorem ztmod_bd {x y : Int} (h1 : 0 ≤ x) (h2 : 1 ≤ y) : 0 ≤ Int.tmod x y ∧ Int.tmod x y < y ∧ Int.tmod x y ≤ x := by
  have h := ztmod_ab (x := x) (y := y)
  rw [Int.tmod_eq_emod_of_nonneg h1] at h ⊢
  exact ⟨Int.emod_nonneg x (by omega), Int.emod_lt_of_pos x (by omega), by omega⟩
theorem ztmod_b2 {x y : Int} (h2 : 1 ≤ y) : -y < Int.tmod x y ∧ Int.tmod x y < y := by
  refine ⟨?_, Int.tmod_lt_of_pos x (by omega)⟩
  have := Int.lt_tmod_of_pos x (show (0 : Int) < y by omega)
  omega
theorem ztmod_rg0 {x y : Int} (h : -2147483648 ≤ x ∧ x ≤ 2147483647) : -2147483648 ≤ Int.tmod x y ∧ Int.tmod x y ≤ 2147483648 := by
  have := ztmod_ab (x := x) (y := y)
  omega
theorem ztmod_rg1 {x y : Int} (h : -9223372036854775808 ≤ x ∧ x ≤ 9223372036854775807) (hy : y ≠ 0) : -9223372036854775808 ≤ Int.tmod x y ∧ Int.tmod x y ≤ 9223372036854775807 := by
  by_cases hx : 0 ≤ x
  · have := ztmod_ab (x := x) (y := y)
    omega
  · have h1 : Int.tmod x y ≤ 0 := by
      have := Int.tmod_nonneg (a := -x) y (by omega)
      rw [Int.neg_tmod] at this
      omega
    have := ztmod_ab (x := x) (y := y)
    omega
theorem zabs_bd {x : Int} (h1 : -2147483647 ≤ x) (h2 : x ≤ 2147483647) : 0 ≤ zu_abs x ∧ (zu_abs x = x ∨ zu_abs x = -x) := by
  unfold zu_abs
  split
  · omega
  · rw [zu_w32_id (by omega) (by omega)]; omega
theorem zabs_rg {x : Int} (h1 : -2147483648 ≤ x) (h2 : x ≤ 2147483647) : -2147483648 ≤ zu_abs x ∧ zu_abs x ≤ 2147483647 := by
  unfold zu_abs
  split
  · omega
  · exact zu_w32_rg _
theorem zmax_bd (x y : Int) : x ≤ zu_max x y ∧ y ≤ zu_max x y ∧ (zu_max x y = x ∨ zu_max x y = y) := by
  unfold zu_max
  split <;> omega
theorem zmin_bd (x y : Int) : zu_min x y ≤ x ∧ zu_min x y ≤ y ∧ (zu_min x y = x ∨ zu_min x y = y) := by
  unfold zu_min
  split <;> omega
theorem zu_lcmp_sp (x y : Int) : (x < y ∧ zu_lcmp x y = -1) ∨ (x = y ∧ zu_lcmp x y = 0) ∨ (y < x ∧ zu_lcmp x y = 1) := by
  unfold zu_lcmp
  split
  · omega
  · split <;> omega
