/-! TWO RUNS SIDE BY SIDE -/
theorem zw_swap {x y : Option zu_R} {Q : Int → zu_m → Int → zu_m → Prop} (h : zw y (fun w t => zw x (fun v m => Q v m w t))) : zw x (fun v m => zw y (fun w t => Q v m w t)) := by
  obtain ⟨w, t, h1, v, m, h2, h3⟩ := h
  exact ⟨v, m, h2, w, t, h1, h3⟩
theorem zw_ub {x : Option zu_R} {f : Int → zu_m → Option zu_R} {Q : Int → zu_m → Prop} (h : zw (zu_bd x f) Q) : zw x (fun v s => zw (f v s) Q) := by
  obtain ⟨v, s, h1, h2⟩ := h
  unfold zu_bd at h1
  cases x with
  | none => cases h1
  | some q => exact ⟨q.1, q.2, rfl, v, s, h1, h2⟩
theorem zu_bd2 (x : Option zu_R) (f g : Int → zu_m → Option zu_R) : zu_bd (zu_bd x f) g = zu_bd x (fun v s => zu_bd (f v s) g) := by
  cases x <;> rfl
theorem zw_pair {x y : Option zu_R} {f g : Int → zu_m → Option zu_R} {P Q : Int → zu_m → Int → zu_m → Prop} (h : zw x (fun v m => zw y (fun w t => P v m w t))) (k : ∀ v m w t, P v m w t → zw (f v m) (fun v' m' => zw (g w t) (fun w' t' => Q v' m' w' t'))) : zw (zu_bd x f) (fun v' m' => zw (zu_bd y g) (fun w' t' => Q v' m' w' t')) := by
  obtain ⟨v, m, h1, w, t, h2, h3⟩ := h
  have h4 := k v m w t h3
  rw [h1, h2]
  exact h4
theorem zw_and {x : Option zu_R} {P Q : Int → zu_m → Prop} (h1 : zw x P) (h2 : zw x Q) : zw x (fun v m => P v m ∧ Q v m) := by
  obtain ⟨v, m, e1, h3⟩ := h1
  obtain ⟨v1, m1, e2, h4⟩ := h2
  cases e1.symm.trans e2
  exact ⟨v, m, e1, h3, h4⟩
theorem zw_two {x y : Option zu_R} {P Q : Int → zu_m → Prop} (h1 : zw x P) (h2 : zw y Q) : zw x (fun v m => zw y (fun w t => P v m ∧ Q w t)) := by
  obtain ⟨v, m, e1, h3⟩ := h1
  obtain ⟨w, t, e2, h4⟩ := h2
  exact ⟨v, m, e1, w, t, e2, h3, h4⟩
theorem zw_mono2 {x y : Option zu_R} {P Q : Int → zu_m → Int → zu_m → Prop} (h : zw x (fun v m => zw y (fun w t => P v m w t))) (k : ∀ v m w t, P v m w t → Q v m w t) : zw x (fun v m => zw y (fun w t => Q v m w t)) :=
  zw_mono h (fun v m h1 => zw_mono h1 (fun w t h2 => k v m w t h2))
/-! numbers -/
theorem z32n {a : Int} (h0 : 0 ≤ a) (h1 : a ≤ 2147483647) : (BitVec.ofInt 32 a).toNat = a.toNat := by
  rw [BitVec.toNat_ofInt]
  have : a % ((2 ^ 32 : Nat) : Int) = a := Int.emod_eq_of_lt h0 (show a < 4294967296 by omega)
  rw [this]
theorem z32t {x : BitVec 32} {r : Nat} (h : x.toNat = r) (hr : r < 2147483648) : x.toInt = (r : Int) := by
  rw [BitVec.toInt_eq_toNat_of_lt (by rw [h]; show 2 * r < 4294967296; omega), h]
theorem zor32 {a b : Int} (h0 : 0 ≤ a) (h1 : a ≤ 2147483647) (h2 : 0 ≤ b) (h3 : b ≤ 2147483647) : zu_i32 4 a b = ((a.toNat ||| b.toNat : Nat) : Int) := by
  show (Int32.ofInt a ||| Int32.ofInt b).toInt = _
  rw [← Int32.toInt_toBitVec, Int32.toBitVec_or, Int32.toBitVec_ofInt, Int32.toBitVec_ofInt]
  refine z32t ?_ (Nat.or_lt_two_pow (n := 31) (by omega) (by omega))
  rw [BitVec.toNat_or, z32n h0 h1, z32n h2 h3]
theorem zand32 {a b : Int} (h0 : 0 ≤ a) (h1 : a ≤ 2147483647) (h2 : 0 ≤ b) (h3 : b ≤ 2147483647) : zu_i32 3 a b = ((a.toNat &&& b.toNat : Nat) : Int) := by
  show (Int32.ofInt a &&& Int32.ofInt b).toInt = _
  rw [← Int32.toInt_toBitVec, Int32.toBitVec_and, Int32.toBitVec_ofInt, Int32.toBitVec_ofInt]
  refine z32t ?_ (Nat.lt_of_le_of_lt Nat.and_le_left (by omega))
  rw [BitVec.toNat_and, z32n h0 h1, z32n h2 h3]
theorem zsh_k : ∀ k : Fin 32, ((Int32.ofInt (k.val : Int) &&& 31).toBitVec.smod 32).toNat = k.val := by decide +kernel
theorem zshl32 {a : Int} (k : Nat) {P : Nat} (hP : 2 ^ k = P) (hk : k < 32) (h0 : 0 ≤ a) (h1 : a * (P : Int) ≤ 2147483647) (hP1 : 1 ≤ P) : zu_i32 5 a (k : Int) = a * (P : Int) := by
  show (Int32.ofInt a <<< (Int32.ofInt (k : Int) &&& 31)).toInt = _
  have ha : a ≤ 2147483647 := Int.le_trans (by
    have := Int.mul_le_mul_of_nonneg_left (show (1 : Int) ≤ (P : Int) by omega) h0
    omega) h1
  obtain ⟨a', rfl⟩ := Int.eq_ofNat_of_zero_le h0
  have h2 : a' * P ≤ 2147483647 := Int.ofNat_le.mp (show ((a' * P : Nat) : Int) ≤ ((2147483647 : Nat) : Int) from h1)
  rw [← Int32.toInt_toBitVec, Int32.toBitVec_shiftLeft, Int32.toBitVec_ofInt, BitVec.shiftLeft_eq', zsh_k ⟨k, hk⟩]
  have h3 : (BitVec.ofInt 32 (a' : Int) <<< k).toNat = a' * P := by
    rw [BitVec.toNat_shiftLeft, z32n h0 ha, Nat.shiftLeft_eq, hP]
    show (a' : Int).toNat * P % 4294967296 = a' * P
    rw [Int.toNat_natCast, Nat.mod_eq_of_lt (by omega)]
  rw [z32t h3 (by omega)]
  exact Int.natCast_mul a' P
/-- low bits are free: or is a sum -/
theorem zorsum {x y d : Int} (k : Nat) {P : Nat} (hP : 2 ^ k = P) (h0 : 0 ≤ y) (hx : x = (P : Int) * y) (hd : 0 ≤ d) (hd1 : d < (P : Int)) (hb : x + d ≤ 2147483647) : zu_i32 4 x d = x + d := by
  obtain ⟨y', rfl⟩ := Int.eq_ofNat_of_zero_le h0
  obtain ⟨d', rfl⟩ := Int.eq_ofNat_of_zero_le hd
  have hx2 : x = ((P * y' : Nat) : Int) := by rw [hx]; exact (Int.natCast_mul P y').symm
  subst hx2
  have hd2 : d' < 2 ^ k := by rw [hP]; exact Int.ofNat_lt.mp hd1
  rw [zor32 (by omega) (by omega) (by omega) (by omega)]
  show ((P * y' ||| d' : Nat) : Int) = _
  rw [← hP, ← Nat.two_pow_add_eq_or_of_lt hd2, hP]
  exact Int.natCast_add _ _
