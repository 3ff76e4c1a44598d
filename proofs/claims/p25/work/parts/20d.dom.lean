/-! THE DOMAIN OF NUMBERS: every value is known -/
def zc_g (a : Int) (x : Value) : Prop := match x with
  | .int z => z.toInt = a
  | .long z => z.toInt = a
  | _ => False
def zc_op : Nat → Int → Int → Option Int
  | 0, a, b => some (zu_w32 (a + b))
  | 1, a, b => some (zu_w32 (a - b))
  | 2, a, b => some (zu_w32 (a * b))
  | 3, a, b => some (zu_i32 3 a b)
  | 4, a, b => some (zu_i32 4 a b)
  | 5, a, b => some (zu_i32 5 a b)
  | 6, a, b => some (zu_i32 6 a b)
  | 7, a, b => some (zu_i32 7 a b)
  | 8, a, b => if b = 0 then none else some (zu_w32 (a.tdiv b))
  | 9, a, b => if b = 0 then none else some (a.tmod b)
  | 10, a, _ => some (zu_w32 (-a))
  | 20, a, b => some (zu_w64 (a + b))
  | 21, a, b => some (zu_w64 (a - b))
  | 22, a, b => some (zu_w64 (a * b))
  | 23, a, b => some (zu_i64 3 a b)
  | 24, a, b => some (zu_i64 4 a b)
  | 25, a, b => if b = 0 then none else some (zu_w64 (a.tdiv b))
  | 26, a, b => if b = 0 then none else some (a.tmod b)
  | 27, a, _ => some (zu_w64 (-a))
  | 30, a, b => some (zu_shl a b)
  | 31, a, b => some (zu_shr a b)
  | 40, a, _ => some a
  | 41, a, _ => some (zu_w32 a)
  | 42, a, b => some (zu_lcmp a b)
  | _, _, _ => none
def zc_cmp : Nat → Int → Int → Option Bool
  | 0, a, b => some (decide (a = b))
  | 1, a, b => some (!decide (a = b))
  | 2, a, b => some (decide (a < b))
  | 3, a, b => some (decide (b ≤ a))
  | 4, a, b => some (decide (b < a))
  | _, a, b => some (decide (a ≤ b))
def zc_D : xv_D Int := (fun n => n.toInt, fun n => n.toInt, zc_op, zc_cmp, some, fun a => decide (a = 0 ∨ a = 1))
theorem zc_tmod32 (x y : Int32) (hy : ¬ y = 0) : (x - x / y * y).toInt = x.toInt.tmod y.toInt := by
  rw [← xd_rem32, Int32.toInt_ofInt]
  have h0 : y.toInt ≠ 0 := fun q => hy (Int32.toInt_inj.mp (by rw [q]; rfl))
  have h3 := y.le_toInt
  have h4 := y.toInt_lt
  have h5 := Int.natAbs_tmod x.toInt y.toInt
  have h6 : x.toInt.natAbs % y.toInt.natAbs < y.toInt.natAbs := Nat.mod_lt _ (by omega)
  exact Int.bmod_eq_of_le_mul_two (y := 4294967296) (by omega) (by omega)
theorem zc_tmod64 (x y : Int64) (hy : ¬ y = 0) : (x - x / y * y).toInt = x.toInt.tmod y.toInt := by
  rw [← xd_rem64, Int64.toInt_ofInt]
  have h0 : y.toInt ≠ 0 := fun q => hy (Int64.toInt_inj.mp (by rw [q]; rfl))
  have h3 := y.le_toInt
  have h4 := y.toInt_lt
  have h5 := Int.natAbs_tmod x.toInt y.toInt
  have h6 : x.toInt.natAbs % y.toInt.natAbs < y.toInt.natAbs := Nat.mod_lt _ (by omega)
  exact Int.bmod_eq_of_le_mul_two (y := 18446744073709551616) (by omega) (by omega)
theorem zc_i32 {o : Nat} {x y z : Int32} (h : xv_semI o x y = some z) : z.toInt = zu_i32 o x.toInt y.toInt := by
  unfold zu_i32
  rw [Int32.ofInt_toInt, Int32.ofInt_toInt, h]
theorem zc_i64 {o : Nat} {x y z : Int64} (h : xv_semL o x y = some z) : z.toInt = zu_i64 o x.toInt y.toInt := by
  unfold zu_i64
  rw [Int64.ofInt_toInt, Int64.ofInt_toInt, h]
theorem zc_opI (o : Nat) (a b r : Int) (x y : Int32) (ho : o < 20) (h : zc_op o a b = some r) (ha : zc_g a (.int x)) (hb : zc_g b (.int y)) : ∃ z, xv_semI o x y = some z ∧ zc_g r (.int z) := by
  obtain rfl : x.toInt = a := ha
  obtain rfl : y.toInt = b := hb
  match o, h with
  | 0, h => cases Option.some.inj h; exact ⟨x + y, rfl, Int32.toInt_add x y⟩
  | 1, h => cases Option.some.inj h; exact ⟨x - y, rfl, Int32.toInt_sub x y⟩
  | 2, h => cases Option.some.inj h; exact ⟨x * y, rfl, Int32.toInt_mul x y⟩
  | 3, h => cases Option.some.inj h; exact ⟨_, rfl, zc_i32 rfl⟩
  | 4, h => cases Option.some.inj h; exact ⟨_, rfl, zc_i32 rfl⟩
  | 5, h => cases Option.some.inj h; exact ⟨_, rfl, zc_i32 rfl⟩
  | 6, h => cases Option.some.inj h; exact ⟨_, rfl, zc_i32 rfl⟩
  | 7, h => cases Option.some.inj h; exact ⟨_, rfl, zc_i32 rfl⟩
  | 8, h =>
    have h : (if y.toInt = 0 then none else some (zu_w32 (x.toInt.tdiv y.toInt))) = some r := h
    split at h
    · cases h
    · rename_i hy
      cases Option.some.inj h
      exact ⟨x / y, by show (if y = 0 then none else some (x / y)) = _; rw [if_neg (xd_eqz32 hy)], Int32.toInt_div x y⟩
  | 9, h =>
    have h : (if y.toInt = 0 then none else some (x.toInt.tmod y.toInt)) = some r := h
    split at h
    · cases h
    · rename_i hy
      cases Option.some.inj h
      exact ⟨x - x / y * y, by show (if y = 0 then none else some (x - x / y * y)) = _; rw [if_neg (xd_eqz32 hy)], zc_tmod32 x y (xd_eqz32 hy)⟩
  | 10, h => cases Option.some.inj h; exact ⟨-x, rfl, Int32.toInt_neg x⟩
  | 11, h => cases h
  | 12, h => cases h
  | 13, h => cases h
  | 14, h => cases h
  | 15, h => cases h
  | 16, h => cases h
  | 17, h => cases h
  | 18, h => cases h
  | 19, h => cases h
  | n + 20, h => omega
theorem zc_opL (o : Nat) (a b r : Int) (x y : Int64) (ho : o < 10) (h : zc_op (o + 20) a b = some r) (ha : zc_g a (.long x)) (hb : zc_g b (.long y)) : ∃ z, xv_semL o x y = some z ∧ zc_g r (.long z) := by
  obtain rfl : x.toInt = a := ha
  obtain rfl : y.toInt = b := hb
  match o, h with
  | 0, h => cases Option.some.inj h; exact ⟨x + y, rfl, Int64.toInt_add x y⟩
  | 1, h => cases Option.some.inj h; exact ⟨x - y, rfl, Int64.toInt_sub x y⟩
  | 2, h => cases Option.some.inj h; exact ⟨x * y, rfl, Int64.toInt_mul x y⟩
  | 3, h => cases Option.some.inj h; exact ⟨_, rfl, zc_i64 rfl⟩
  | 4, h => cases Option.some.inj h; exact ⟨_, rfl, zc_i64 rfl⟩
  | 5, h =>
    have h : (if y.toInt = 0 then none else some (zu_w64 (x.toInt.tdiv y.toInt))) = some r := h
    split at h
    · cases h
    · rename_i hy
      cases Option.some.inj h
      exact ⟨x / y, by show (if y = 0 then none else some (x / y)) = _; rw [if_neg (xd_eqz64 hy)], Int64.toInt_div x y⟩
  | 6, h =>
    have h : (if y.toInt = 0 then none else some (x.toInt.tmod y.toInt)) = some r := h
    split at h
    · cases h
    · rename_i hy
      cases Option.some.inj h
      exact ⟨x - x / y * y, by show (if y = 0 then none else some (x - x / y * y)) = _; rw [if_neg (xd_eqz64 hy)], zc_tmod64 x y (xd_eqz64 hy)⟩
  | 7, h => cases Option.some.inj h; exact ⟨-x, rfl, Int64.toInt_neg x⟩
  | 8, h => cases h
  | 9, h => cases h
  | n + 10, h => omega
theorem zc_ok : xv_ok zc_D zc_g := by
  refine ⟨fun _ => rfl, fun _ => rfl, zc_opI, zc_opL, ?_, ?_, ?_, ?_, ?_, ?_, ?_, ?_⟩
  · intro a b r x y h ha hb
    obtain rfl : x.toInt = a := ha
    obtain rfl : y.toInt = b := hb
    cases Option.some.inj h
    show _ = (Int64.ofInt x.toInt <<< ((Int32.ofInt y.toInt).toInt64 &&& 63)).toInt
    rw [Int64.ofInt_toInt, Int32.ofInt_toInt]
  · intro a b r x y h ha hb
    obtain rfl : x.toInt = a := ha
    obtain rfl : y.toInt = b := hb
    cases Option.some.inj h
    show _ = (Int64.ofInt x.toInt >>> ((Int32.ofInt y.toInt).toInt64 &&& 63)).toInt
    rw [Int64.ofInt_toInt, Int32.ofInt_toInt]
  · intro a b r x h ha
    obtain rfl : x.toInt = a := ha
    cases Option.some.inj h
    exact Int32.toInt_toInt64 x
  · intro a b r x h ha
    obtain rfl : x.toInt = a := ha
    cases Option.some.inj h
    exact Int64.toInt_toInt32 x
  · intro a b r x y h ha hb
    obtain rfl : x.toInt = a := ha
    obtain rfl : y.toInt = b := hb
    cases Option.some.inj h
    show (lg_cmp x y).toInt = zu_lcmp x.toInt y.toInt
    unfold lg_cmp zu_lcmp
    by_cases h1 : x.toInt < y.toInt
    · have n1 : ¬ x > y := fun q => by have := Int64.lt_iff_toInt_lt.mp q; omega
      have n2 : ¬ x = y := fun q => by rw [q] at h1; omega
      rw [if_neg n1, if_neg n2, if_pos h1]
      rfl
    · by_cases h2 : x.toInt = y.toInt
      · have n1 : ¬ x > y := fun q => by have := Int64.lt_iff_toInt_lt.mp q; omega
        rw [if_neg n1, if_pos (Int64.toInt_inj.mp h2), if_neg h1, if_pos h2]
        rfl
      · rw [if_pos (show x > y from Int64.lt_iff_toInt_lt.mpr (by omega)), if_neg h1, if_neg h2]
        rfl
  · intro o a b t x y h ha hb
    obtain rfl : x.toInt = a := ha
    obtain rfl : y.toInt = b := hb
    match o, h with
    | 0, h => cases Option.some.inj h; show decide (x = y) = decide (x.toInt = y.toInt); rw [decide_eq_decide]; exact Int32.toInt_inj.symm
    | 1, h => cases Option.some.inj h; show (!decide (x = y)) = (!decide (x.toInt = y.toInt)); rw [decide_eq_decide.mpr Int32.toInt_inj.symm]
    | 2, h => cases Option.some.inj h; show decide (x < y) = decide (x.toInt < y.toInt); rw [decide_eq_decide]; exact Int32.lt_iff_toInt_lt
    | 3, h => cases Option.some.inj h; show decide (y ≤ x) = decide (y.toInt ≤ x.toInt); rw [decide_eq_decide]; exact Int32.le_iff_toInt_le
    | 4, h => cases Option.some.inj h; show decide (y < x) = decide (y.toInt < x.toInt); rw [decide_eq_decide]; exact Int32.lt_iff_toInt_lt
    | n + 5, h =>
      have h : some (decide (x.toInt ≤ y.toInt)) = some t := h
      cases Option.some.inj h; show decide (x ≤ y) = decide (x.toInt ≤ y.toInt); rw [decide_eq_decide]; exact Int32.le_iff_toInt_le
  · intro a n x h ha
    cases Option.some.inj h
    exact ha
  · intro a x h ha
    obtain rfl : x.toInt = a := ha
    rcases of_decide_eq_true h with e | e
    · exact Or.inl (Int32.toInt_inj.mp (by rw [e]; rfl))
    · exact Or.inr (Int32.toInt_inj.mp (by rw [e]; rfl))
