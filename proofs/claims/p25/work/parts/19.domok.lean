/-! THE DOMAIN IS RIGHT -/
def xd_g (v : xd_V) (x : Value) : Prop := match v, x with
  | .inl n, .int z => z.toInt = n
  | .inl n, .long z => z.toInt = n
  | .inr q, .int z => (xd_le q.1 q.2 = true → q.1 ≤ z.toInt ∧ z.toInt ≤ q.2) ∧ (xd_le q.1 q.2 = false → (z &&& 63).toInt = q.2)
  | _, _ => False
theorem xd_le_iff (a b : Int) : xd_le a b = true ↔ a ≤ b := by
  cases a with
  | ofNat m =>
    cases b with
    | ofNat n =>
      show Nat.ble m n = true ↔ (m : Int) ≤ (n : Int)
      exact ⟨fun h => Int.ofNat_le.mpr (Nat.le_of_ble_eq_true h), fun h => Nat.ble_eq_true_of_le (Int.ofNat_le.mp h)⟩
    | negSucc n =>
      show false = true ↔ (m : Int) ≤ Int.negSucc n
      exact ⟨fun h => (by cases h), fun h => (by omega)⟩
  | negSucc m =>
    cases b with
    | ofNat n =>
      show true = true ↔ Int.negSucc m ≤ (n : Int)
      exact ⟨fun _ => by omega, fun _ => rfl⟩
    | negSucc n =>
      show Nat.ble n m = true ↔ Int.negSucc m ≤ Int.negSucc n
      exact ⟨fun h => by have := Nat.le_of_ble_eq_true h; omega, fun h => Nat.ble_eq_true_of_le (by omega)⟩
theorem xd_le_false (a b : Int) : xd_le a b = false ↔ b < a := by
  have h := xd_le_iff a b
  cases hc : xd_le a b
  · rw [hc] at h
    exact ⟨fun _ => Int.not_le.mp (fun q => by cases h.mpr q), fun _ => rfl⟩
  · rw [hc] at h
    exact ⟨fun q => (by cases q), fun q => absurd (h.mp rfl) (Int.not_le.mpr q)⟩
theorem xd_gtop (z : Int32) : xd_g xd_top (.int z) := by
  have h1 := z.le_toInt
  have h2 := z.toInt_lt
  exact ⟨fun _ => ⟨by show (-2147483648 : Int) ≤ _; omega, by show _ ≤ (2147483647 : Int); omega⟩, fun h => by cases h⟩
theorem xd_r32_ok {z : Int} {r : xd_V} (h : xd_r32 z = some r) : r = .inl z ∧ (Int32.ofInt z).toInt = z := by
  unfold xd_r32 at h
  cases h1 : xd_le (-2147483648) z <;> simp only [h1, Bool.false_and, Bool.true_and, cond_false, cond_true, reduceCtorEq] at h
  cases h2 : xd_le z 2147483647 <;> simp only [h2, cond_false, cond_true, reduceCtorEq] at h
  have g1 := (xd_le_iff _ _).mp h1
  have g2 := (xd_le_iff _ _).mp h2
  exact ⟨(Option.some.inj h).symm, Int32.toInt_ofInt_of_le (by omega) (by omega)⟩
theorem xd_r64_ok {z : Int} {r : xd_V} (h : xd_r64 z = some r) : r = .inl z ∧ (Int64.ofInt z).toInt = z := by
  unfold xd_r64 at h
  cases h1 : xd_le (-9223372036854775808) z <;> simp only [h1, Bool.false_and, Bool.true_and, cond_false, cond_true, reduceCtorEq] at h
  cases h2 : xd_le z 9223372036854775807 <;> simp only [h2, cond_false, cond_true, reduceCtorEq] at h
  have g1 := (xd_le_iff _ _).mp h1
  have g2 := (xd_le_iff _ _).mp h2
  exact ⟨(Option.some.inj h).symm, Int64.toInt_ofInt_of_le (by omega) (by omega)⟩
/-- what an operation must do on exact numbers -/
theorem xd_ex_i {f : Int → Int → Option xd_V} {u : Option xd_V} {a b r : xd_V} {x y : Int32} {o : Nat} (h : xd_ex f u a b = some r) (ha : xd_g a (.int x)) (hb : xd_g b (.int y))
    (hf : ∀ r, f x.toInt y.toInt = some r → ∃ z, xv_semI o x y = some z ∧ xd_g r (.int z)) (hu : ∀ r, u = some r → ∃ z, xv_semI o x y = some z ∧ xd_g r (.int z)) : ∃ z, xv_semI o x y = some z ∧ xd_g r (.int z) := by
  unfold xd_ex at h
  split at h
  · rw [← show x.toInt = _ from ha, ← show y.toInt = _ from hb] at h
    exact hf _ h
  · exact hu _ h
theorem xd_ex_l {f : Int → Int → Option xd_V} {a b r : xd_V} {x y : Int64} {P : xd_V → Prop} (h : xd_ex f none a b = some r) (ha : xd_g a (.long x)) (hb : xd_g b (.long y)) (hf : ∀ r, f x.toInt y.toInt = some r → P r) : P r := by
  unfold xd_ex at h
  split at h
  · rw [← show x.toInt = _ from ha, ← show y.toInt = _ from hb] at h
    exact hf _ h
  · cases h
theorem xd_top_i {o : Nat} {x y : Int32} (hs : ∃ z, xv_semI o x y = some z) : ∀ r, some xd_top = some r → ∃ z, xv_semI o x y = some z ∧ xd_g r (.int z) := fun r h => by
  cases Option.some.inj h
  obtain ⟨z, hz⟩ := hs
  exact ⟨z, hz, xd_gtop z⟩
theorem xd_i32_ok {o : Nat} {x y : Int32} : ∀ r, xd_i32 o x.toInt y.toInt = some r → ∃ z, xv_semI o x y = some z ∧ xd_g r (.int z) := fun r h => by
  unfold xd_i32 at h
  rw [Int32.ofInt_toInt, Int32.ofInt_toInt] at h
  split at h
  · rename_i z hz
    cases Option.some.inj h
    exact ⟨z, hz, rfl⟩
  · cases h
theorem xd_i64_ok {o : Nat} {x y : Int64} : ∀ r, xd_i64 o x.toInt y.toInt = some r → ∃ z, xv_semL o x y = some z ∧ xd_g r (.long z) := fun r h => by
  unfold xd_i64 at h
  rw [Int64.ofInt_toInt, Int64.ofInt_toInt] at h
  split at h
  · rename_i z hz
    cases Option.some.inj h
    exact ⟨z, hz, rfl⟩
  · cases h
theorem xd_is0_f {b : Int} (h : xd_is0 b = false) : b ≠ 0 := by
  intro e
  rw [e] at h
  cases h
theorem xd_mn32 (x : Int32) : Int32.minValue.toInt ≤ x.toInt ∧ x.toInt ≤ Int32.maxValue.toInt := ⟨x.minValue_le_toInt, x.toInt_le⟩
theorem xd_mn64 (x : Int64) : Int64.minValue.toInt ≤ x.toInt ∧ x.toInt ≤ Int64.maxValue.toInt := ⟨x.minValue_le_toInt, x.toInt_le⟩
theorem xd_div32 (x y : Int32) : Int32.ofInt (x.toInt.tdiv y.toInt) = x / y := by
  rw [Int32.ofInt_tdiv (xd_mn32 x).1 (xd_mn32 x).2 (xd_mn32 y).1 (xd_mn32 y).2, Int32.ofInt_toInt, Int32.ofInt_toInt]
theorem xd_div64 (x y : Int64) : Int64.ofInt (x.toInt.tdiv y.toInt) = x / y := by
  rw [Int64.ofInt_tdiv (xd_mn64 x).1 (xd_mn64 x).2 (xd_mn64 y).1 (xd_mn64 y).2, Int64.ofInt_toInt, Int64.ofInt_toInt]
theorem xd_rem32 (x y : Int32) : Int32.ofInt (x.toInt.tmod y.toInt) = x - x / y * y := by
  rw [Int.tmod_def, Int32.ofInt_sub, Int32.ofInt_mul, Int32.ofInt_toInt, Int32.ofInt_toInt, xd_div32, Int32.mul_comm]
theorem xd_rem64 (x y : Int64) : Int64.ofInt (x.toInt.tmod y.toInt) = x - x / y * y := by
  rw [Int.tmod_def, Int64.ofInt_sub, Int64.ofInt_mul, Int64.ofInt_toInt, Int64.ofInt_toInt, xd_div64, Int64.mul_comm]
theorem xd_eqz32 {y : Int32} (h : y.toInt ≠ 0) : ¬ y = 0 := fun e => h (by rw [e]; rfl)
theorem xd_eqz64 {y : Int64} (h : y.toInt ≠ 0) : ¬ y = 0 := fun e => h (by rw [e]; rfl)
theorem xd_anI {a b r : xd_V} {x y : Int32} (h : xd_an a b = some r) (ha : xd_g a (.int x)) (hb : xd_g b (.int y)) : ∃ z, xv_semI 3 x y = some z ∧ xd_g r (.int z) := by
  unfold xd_an at h
  split at h
  · rw [← show x.toInt = _ from ha, ← show y.toInt = _ from hb] at h
    exact xd_i32_ok (o := 3) _ h
  · rename_i lo hi n
    cases hc : (xd_le n 63 && xd_le 63 n && !xd_le lo hi) <;> simp only [hc, cond_true, cond_false] at h
    · cases Option.some.inj h
      exact ⟨x &&& y, rfl, xd_gtop _⟩
    · cases Option.some.inj h
      obtain ⟨h1, h2⟩ := Bool.and_eq_true_iff.mp hc
      obtain ⟨h3, h4⟩ := Bool.and_eq_true_iff.mp h1
      have e1 := (xd_le_iff _ _).mp h3
      have e2 := (xd_le_iff _ _).mp h4
      have hb : y.toInt = n := hb
      have ey : y = 63 := Int32.toInt_inj.mp (by rw [hb]; show n = 63; omega)
      refine ⟨x &&& y, rfl, ?_⟩
      rw [ey]
      exact ha.2 (by simpa using h2)
  · cases Option.some.inj h
    exact ⟨x &&& y, rfl, xd_gtop _⟩
theorem xd_opI (o : Nat) (a b r : xd_V) (x y : Int32) (_ : o < 20) (h : xd_op o a b = some r) (ha : xd_g a (.int x)) (hb : xd_g b (.int y)) : ∃ z, xv_semI o x y = some z ∧ xd_g r (.int z) := by
  match o, h with
  | 0, h => exact xd_ex_i h ha hb (fun r h => by
      obtain ⟨rfl, e⟩ := xd_r32_ok h
      refine ⟨x + y, rfl, ?_⟩
      rw [show Int.add x.toInt y.toInt = x.toInt + y.toInt from rfl, Int32.ofInt_add, Int32.ofInt_toInt, Int32.ofInt_toInt] at e
      exact e) (xd_top_i ⟨_, rfl⟩)
  | 1, h => exact xd_ex_i h ha hb (fun r h => by
      obtain ⟨rfl, e⟩ := xd_r32_ok h
      refine ⟨x - y, rfl, ?_⟩
      rw [show Int.sub x.toInt y.toInt = x.toInt - y.toInt from rfl, Int32.ofInt_sub, Int32.ofInt_toInt, Int32.ofInt_toInt] at e
      exact e) (xd_top_i ⟨_, rfl⟩)
  | 2, h => exact xd_ex_i h ha hb (fun r h => by
      obtain ⟨rfl, e⟩ := xd_r32_ok h
      refine ⟨x * y, rfl, ?_⟩
      rw [show Int.mul x.toInt y.toInt = x.toInt * y.toInt from rfl, Int32.ofInt_mul, Int32.ofInt_toInt, Int32.ofInt_toInt] at e
      exact e) (xd_top_i ⟨_, rfl⟩)
  | 3, h => exact xd_anI h ha hb
  | 4, h => exact xd_ex_i h ha hb (xd_i32_ok (o := 4)) (xd_top_i ⟨_, rfl⟩)
  | 5, h => exact xd_ex_i h ha hb (xd_i32_ok (o := 5)) (xd_top_i ⟨_, rfl⟩)
  | 6, h => exact xd_ex_i h ha hb (xd_i32_ok (o := 6)) (xd_top_i ⟨_, rfl⟩)
  | 7, h => exact xd_ex_i h ha hb (xd_i32_ok (o := 7)) (xd_top_i ⟨_, rfl⟩)
  | 8, h => exact xd_ex_i h ha hb (fun r h => by
      unfold xd_div at h
      cases h0 : xd_is0 y.toInt <;> simp only [h0, cond_true, cond_false, reduceCtorEq] at h
      obtain ⟨rfl, e⟩ := xd_r32_ok h
      refine ⟨x / y, by simp only [xv_semI, xd_eqz32 (xd_is0_f h0), if_false], ?_⟩
      rw [xd_div32] at e
      exact e) (fun r h => by cases h)
  | 9, h => exact xd_ex_i h ha hb (fun r h => by
      unfold xd_rem at h
      cases h0 : xd_is0 y.toInt <;> simp only [h0, cond_true, cond_false, reduceCtorEq] at h
      obtain ⟨rfl, e⟩ := xd_r32_ok h
      refine ⟨x - x / y * y, by simp only [xv_semI, xd_eqz32 (xd_is0_f h0), if_false], ?_⟩
      rw [xd_rem32] at e
      exact e) (fun r h => by cases h)
  | 10, h => exact xd_ex_i h ha hb (fun r h => by
      obtain ⟨rfl, e⟩ := xd_r32_ok h
      refine ⟨-x, rfl, ?_⟩
      rw [show Int.neg x.toInt = -x.toInt from rfl, Int32.ofInt_neg, Int32.ofInt_toInt] at e
      exact e) (xd_top_i ⟨_, rfl⟩)
  | 11, h => cases h
  | 12, h => cases h
  | 13, h => cases h
  | 14, h => cases h
  | 15, h => cases h
  | 16, h => cases h
  | 17, h => cases h
  | 18, h => cases h
  | 19, h => cases h
  | n + 20, h => omega
theorem xd_opL (o : Nat) (a b r : xd_V) (x y : Int64) (_ : o < 10) (h : xd_op (o + 20) a b = some r) (ha : xd_g a (.long x)) (hb : xd_g b (.long y)) : ∃ z, xv_semL o x y = some z ∧ xd_g r (.long z) := by
  match o, h with
  | 0, h => exact xd_ex_l h ha hb (P := fun r => ∃ z, xv_semL 0 x y = some z ∧ xd_g r (.long z)) (fun r h => by
      obtain ⟨rfl, e⟩ := xd_r64_ok h
      refine ⟨x + y, rfl, ?_⟩
      rw [show Int.add x.toInt y.toInt = x.toInt + y.toInt from rfl, Int64.ofInt_add, Int64.ofInt_toInt, Int64.ofInt_toInt] at e
      exact e)
  | 1, h => exact xd_ex_l h ha hb (P := fun r => ∃ z, xv_semL 1 x y = some z ∧ xd_g r (.long z)) (fun r h => by
      obtain ⟨rfl, e⟩ := xd_r64_ok h
      refine ⟨x - y, rfl, ?_⟩
      rw [show Int.sub x.toInt y.toInt = x.toInt - y.toInt from rfl, Int64.ofInt_sub, Int64.ofInt_toInt, Int64.ofInt_toInt] at e
      exact e)
  | 2, h => exact xd_ex_l h ha hb (P := fun r => ∃ z, xv_semL 2 x y = some z ∧ xd_g r (.long z)) (fun r h => by
      obtain ⟨rfl, e⟩ := xd_r64_ok h
      refine ⟨x * y, rfl, ?_⟩
      rw [show Int.mul x.toInt y.toInt = x.toInt * y.toInt from rfl, Int64.ofInt_mul, Int64.ofInt_toInt, Int64.ofInt_toInt] at e
      exact e)
  | 3, h => exact xd_ex_l h ha hb (P := fun r => ∃ z, xv_semL 3 x y = some z ∧ xd_g r (.long z)) (xd_i64_ok (o := 3))
  | 4, h => exact xd_ex_l h ha hb (P := fun r => ∃ z, xv_semL 4 x y = some z ∧ xd_g r (.long z)) (xd_i64_ok (o := 4))
  | 5, h => exact xd_ex_l h ha hb (P := fun r => ∃ z, xv_semL 5 x y = some z ∧ xd_g r (.long z)) (fun r h => by
      unfold xd_divl at h
      cases h0 : xd_is0 y.toInt <;> simp only [h0, cond_true, cond_false, reduceCtorEq] at h
      obtain ⟨rfl, e⟩ := xd_r64_ok h
      refine ⟨x / y, by simp only [xv_semL, xd_eqz64 (xd_is0_f h0), if_false], ?_⟩
      rw [xd_div64] at e
      exact e)
  | 6, h => exact xd_ex_l h ha hb (P := fun r => ∃ z, xv_semL 6 x y = some z ∧ xd_g r (.long z)) (fun r h => by
      unfold xd_reml at h
      cases h0 : xd_is0 y.toInt <;> simp only [h0, cond_true, cond_false, reduceCtorEq] at h
      obtain ⟨rfl, e⟩ := xd_r64_ok h
      refine ⟨x - x / y * y, by simp only [xv_semL, xd_eqz64 (xd_is0_f h0), if_false], ?_⟩
      rw [xd_rem64] at e
      exact e)
  | 7, h => exact xd_ex_l h ha hb (P := fun r => ∃ z, xv_semL 7 x y = some z ∧ xd_g r (.long z)) (fun r h => by
      obtain ⟨rfl, e⟩ := xd_r64_ok h
      refine ⟨-x, rfl, ?_⟩
      rw [show Int.neg x.toInt = -x.toInt from rfl, Int64.ofInt_neg, Int64.ofInt_toInt] at e
      exact e)
  | 8, h => cases h
  | 9, h => cases h
  | n + 10, h => omega
theorem xd_cq_i {f : Int → Int → Bool} {q : Int → Int → Int → Int → Option Bool} {a b : xd_V} {t : Bool} {x y : Int32} {P : Bool → Prop} (h : xd_c f q a b = some t) (ha : xd_g a (.int x)) (hb : xd_g b (.int y)) (hf : P (f x.toInt y.toInt)) (hq : ∀ al ah bl bh : Int, al ≤ x.toInt → x.toInt ≤ ah → bl ≤ y.toInt → y.toInt ≤ bh → q al ah bl bh = some t → P t) : P t := by
  have hbd : ∀ {v : xd_V} {z : Int32}, xd_g v (.int z) → (xd_b v).1 ≤ z.toInt ∧ z.toInt ≤ (xd_b v).2 := by
    intro v z hz
    cases v with
    | inl n =>
      have hz : z.toInt = n := hz
      exact ⟨by show n ≤ _; omega, by show _ ≤ n; omega⟩
    | inr q =>
      obtain ⟨lo, hi⟩ := q
      simp only [xd_b]
      cases hc : xd_le lo hi
      · have h1 := z.le_toInt
        have h2 := z.toInt_lt
        simp only [cond_false]
        exact ⟨by show (-2147483648 : Int) ≤ _; omega, by show _ ≤ (2147483647 : Int); omega⟩
      · simp only [cond_true]
        exact hz.1 hc
  unfold xd_c at h
  split at h
  · cases Option.some.inj h
    rw [← show x.toInt = _ from ha, ← show y.toInt = _ from hb]
    exact hf
  · exact hq _ _ _ _ (hbd ha).1 (hbd ha).2 (hbd hb).1 (hbd hb).2 h
theorem xd_cmpI (o : Nat) (a b : xd_V) (t : Bool) (x y : Int32) (h : xd_cmp o a b = some t) (ha : xd_g a (.int x)) (hb : xd_g b (.int y)) : xv_cmp o x y = t := by
  have key : ∀ {f : Int → Int → Bool} {q : Int → Int → Int → Int → Option Bool} {P : Prop} [Decidable P], xd_c f q a b = some t → (f x.toInt y.toInt = true ↔ P) → (∀ al ah bl bh : Int, al ≤ x.toInt → x.toInt ≤ ah → bl ≤ y.toInt → y.toInt ≤ bh → q al ah bl bh = some t → (t = true ↔ P)) → decide P = t := by
    intro f q P _ h h1 h2
    have h3 : t = true ↔ P := xd_cq_i (P := fun t => t = true ↔ P) h ha hb h1 h2
    cases t
    · exact decide_eq_false (fun p => by cases h3.mpr p)
    · exact decide_eq_true (h3.mp rfl)
  have two : ∀ {c1 c2 : Bool} {p q : Bool}, (bif c1 then some p else bif c2 then some q else none) = some t → (c1 = true ∧ t = p) ∨ (c2 = true ∧ t = q) := by
    intro c1 c2 p q h
    cases c1 <;> cases c2 <;> simp at h
    · exact Or.inr ⟨rfl, h.symm⟩
    · exact Or.inl ⟨rfl, h.symm⟩
    · exact Or.inl ⟨rfl, h.symm⟩
  have one : ∀ {c1 p : Bool}, (bif c1 then some p else none) = some t → c1 = true ∧ t = p := by
    intro c1 p h
    cases c1 <;> simp at h
    exact ⟨rfl, h.symm⟩
  have nle : ∀ {p q : Int}, (!xd_le p q) = true → q < p := fun h => (xd_le_false _ _).mp (by simpa using h)
  have out : ∀ {al ah bl bh : Int}, (!xd_le bl ah || !xd_le al bh) = true → al ≤ x.toInt → x.toInt ≤ ah → bl ≤ y.toInt → y.toInt ≤ bh → x ≠ y := by
    intro al ah bl bh hc h1 h2 h3 h4 e
    rw [e] at h1 h2
    rcases Bool.or_eq_true_iff.mp hc with q | q
    · have := nle q; omega
    · have := nle q; omega
  have eqx : xd_eqx x.toInt y.toInt = true ↔ x = y := by
    unfold xd_eqx
    rw [Bool.and_eq_true_iff, xd_le_iff, xd_le_iff, ← Int32.toInt_inj]
    omega
  match o, h with
  | 0, h => exact key h eqx (fun al ah bl bh h1 h2 h3 h4 h => by
      obtain ⟨hc, rfl⟩ := one h
      exact ⟨fun q => (by cases q), fun q => absurd q (out hc h1 h2 h3 h4)⟩)
  | 1, h =>
    have h5 := key (P := ¬ x = y) h (by rw [Bool.not_eq_true']; constructor
                                        · intro q e; rw [eqx.mpr e] at q; cases q
                                        · intro q; cases hq : xd_eqx x.toInt y.toInt
                                          · rfl
                                          · exact absurd (eqx.mp hq) q) (fun al ah bl bh h1 h2 h3 h4 h => by
      obtain ⟨hc, rfl⟩ := one h
      exact ⟨fun _ => out hc h1 h2 h3 h4, fun _ => rfl⟩)
    rw [← h5]
    show (!decide (x = y)) = _
    simp
  | 2, h => exact key h (by rw [Int32.lt_iff_toInt_lt, Bool.not_eq_true', xd_le_false]) (fun al ah bl bh h1 h2 h3 h4 h => by
      rcases two h with ⟨hc, rfl⟩ | ⟨hc, rfl⟩
      · have := (xd_le_iff _ _).mp hc
        exact ⟨fun q => (by cases q), fun q => by have := Int32.lt_iff_toInt_lt.mp q; omega⟩
      · have := nle hc
        exact ⟨fun _ => Int32.lt_iff_toInt_lt.mpr (by omega), fun _ => rfl⟩)
  | 3, h => exact key h (by rw [Int32.le_iff_toInt_le, xd_le_iff]) (fun al ah bl bh h1 h2 h3 h4 h => by
      rcases two h with ⟨hc, rfl⟩ | ⟨hc, rfl⟩
      · have := (xd_le_iff _ _).mp hc
        exact ⟨fun _ => Int32.le_iff_toInt_le.mpr (by omega), fun _ => rfl⟩
      · have := nle hc
        exact ⟨fun q => (by cases q), fun q => by have := Int32.le_iff_toInt_le.mp q; omega⟩)
  | 4, h => exact key h (by rw [Int32.lt_iff_toInt_lt, Bool.not_eq_true', xd_le_false]) (fun al ah bl bh h1 h2 h3 h4 h => by
      rcases two h with ⟨hc, rfl⟩ | ⟨hc, rfl⟩
      · have := (xd_le_iff _ _).mp hc
        exact ⟨fun q => (by cases q), fun q => by have := Int32.lt_iff_toInt_lt.mp q; omega⟩
      · have := nle hc
        exact ⟨fun _ => Int32.lt_iff_toInt_lt.mpr (by omega), fun _ => rfl⟩)
  | n + 5, h => exact key (q := xd_leq) (f := xd_le) h (by rw [Int32.le_iff_toInt_le, xd_le_iff]) (fun al ah bl bh h1 h2 h3 h4 h => by
      rcases two h with ⟨hc, rfl⟩ | ⟨hc, rfl⟩
      · have := (xd_le_iff _ _).mp hc
        exact ⟨fun _ => Int32.le_iff_toInt_le.mpr (by omega), fun _ => rfl⟩
      · have := nle hc
        exact ⟨fun q => (by cases q), fun q => by have := Int32.le_iff_toInt_le.mp q; omega⟩)
theorem xd_ok : xv_ok xd_D xd_g := by
  refine ⟨fun _ => rfl, fun _ => rfl, xd_opI, xd_opL, ?_, ?_, ?_, ?_, ?_, xd_cmpI, ?_, ?_⟩
  · intro a b r x y h ha hb
    have h : xd_ex (fun a b => some (.inl (Int64.ofInt a <<< ((Int32.ofInt b).toInt64 &&& 63)).toInt)) none a b = some r := h
    unfold xd_ex at h
    split at h
    · rw [← show x.toInt = _ from ha, ← show y.toInt = _ from hb] at h
      dsimp only at h
      rw [Int64.ofInt_toInt, Int32.ofInt_toInt] at h
      cases Option.some.inj h
      exact rfl
    · cases h
  · intro a b r x y h ha hb
    have h : xd_ex (fun a b => some (.inl (Int64.ofInt a >>> ((Int32.ofInt b).toInt64 &&& 63)).toInt)) none a b = some r := h
    unfold xd_ex at h
    split at h
    · rw [← show x.toInt = _ from ha, ← show y.toInt = _ from hb] at h
      dsimp only at h
      rw [Int64.ofInt_toInt, Int32.ofInt_toInt] at h
      cases Option.some.inj h
      exact rfl
    · cases h
  · intro a b r x h ha
    have h : xd_ex (fun a _ => some (.inl a)) none a b = some r := h
    unfold xd_ex at h
    split at h
    · rw [← show x.toInt = _ from ha] at h
      cases Option.some.inj h
      show x.toInt64.toInt = _
      exact Int32.toInt_toInt64 x
    · cases h
  · intro a b r x h ha
    have h : xd_ex (fun a _ => xd_r32 a) none a b = some r := h
    unfold xd_ex at h
    split at h
    · rw [← show x.toInt = _ from ha] at h
      obtain ⟨rfl, e⟩ := xd_r32_ok h
      show x.toInt32.toInt = _
      rw [Int32.toInt_ofInt] at e
      rw [Int64.toInt_toInt32]
      exact e
    · cases h
  · intro a b r x y h ha hb
    have h : xd_ex xd_lcmp none a b = some r := h
    refine xd_ex_l h ha hb (P := fun r => xd_g r (.int (lg_cmp x y))) (fun r h => ?_)
    unfold xd_lcmp at h
    unfold lg_cmp
    cases h1 : xd_le x.toInt y.toInt <;> simp only [h1, cond_true, cond_false] at h
    · cases Option.some.inj h
      have g1 := (xd_le_false _ _).mp h1
      rw [if_pos (show x > y from Int64.lt_iff_toInt_lt.mpr g1)]
      rfl
    · have g1 := (xd_le_iff _ _).mp h1
      have n1 : ¬ x > y := fun q => by have := Int64.lt_iff_toInt_lt.mp q; omega
      rw [if_neg n1]
      cases h2 : xd_le y.toInt x.toInt <;> simp only [h2, cond_true, cond_false] at h
      · cases Option.some.inj h
        have g2 := (xd_le_false _ _).mp h2
        rw [if_neg (fun q => by rw [q] at g2; omega)]
        rfl
      · cases Option.some.inj h
        have g2 := (xd_le_iff _ _).mp h2
        rw [if_pos (Int64.toInt_inj.mp (by omega))]
        rfl
  · intro a n x h ha
    cases a with
    | inl m =>
      cases Option.some.inj (show some m = some n from h)
      exact ha
    | inr q => cases h
  · intro a x h ha
    cases a with
    | inl m =>
      have h : (xd_le 0 m && xd_le m 1) = true := h
      obtain ⟨h1, h2⟩ := Bool.and_eq_true_iff.mp h
      have g1 := (xd_le_iff _ _).mp h1
      have g2 := (xd_le_iff _ _).mp h2
      have ha : x.toInt = m := ha
      by_cases e : m = 0
      · exact Or.inl (Int32.toInt_inj.mp (by rw [ha, e]; rfl))
      · exact Or.inr (Int32.toInt_inj.mp (by rw [ha, show m = 1 by omega]; rfl))
    | inr q => cases h
