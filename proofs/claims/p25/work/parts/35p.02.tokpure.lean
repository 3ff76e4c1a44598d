/-! TOKENS, pure: ends of runs of signs, words packed, tables -/
theorem zu_up_app (σ : zu_m) (a i v b j : Int) : zu_up σ a i v b j = if b = a ∧ j = i then v else σ b j := rfl
def zEnd (A : Int → Prop) (n p q : Int) : Prop := p ≤ q ∧ (∀ i, p ≤ i → i < q → i < n ∧ A i) ∧ (n ≤ q ∨ ¬ A q)
theorem zEnd_uq {A : Int → Prop} {n p q r : Int} (h1 : zEnd A n p q) (h2 : zEnd A n p r) : q = r := by
  obtain ⟨a1, a2, a3⟩ := h1
  obtain ⟨b1, b2, b3⟩ := h2
  rcases Int.lt_trichotomy q r with h | h | h
  · obtain ⟨c1, c2⟩ := b2 q a1 h
    rcases a3 with a3 | a3
    · exfalso; omega
    · exact absurd c2 a3
  · exact h
  · obtain ⟨c1, c2⟩ := a2 r b1 h
    rcases b3 with b3 | b3
    · exfalso; omega
    · exact absurd c2 b3
def zlet (t : Int → Int) (i : Int) : Prop := 97 ≤ t i ∧ t i ≤ 122
def zdig (t : Int → Int) (i : Int) : Prop := 48 ≤ t i ∧ t i ≤ 57
def zbla (t : Int → Int) (i : Int) : Prop := t i = 32 ∨ t i = 10
def zp32 : Nat → Int
  | 0 => 33554432
  | 1 => 1048576
  | 2 => 32768
  | 3 => 1024
  | 4 => 32
  | _ => 1
/-- the first j letters, packed -/
def zpk (t : Int → Int) (p : Int) : Nat → Int
  | 0 => 0
  | j + 1 => zpk t p j + (t (p + (j : Int)) - 96) * zp32 j
theorem zshl' {a s : Int} (k : Nat) {P : Nat} (hP : 2 ^ k = P) (hk : k < 32) (hs : s = (k : Int)) (h0 : 0 ≤ a) (h1 : a * (P : Int) ≤ 2147483647) (hP1 : 1 ≤ P) : zu_i32 5 a s = a * (P : Int) := by
  rw [hs]; exact zshl32 k hP hk h0 h1 hP1
theorem zpk_step {t : Int → Int} {p x d s : Int} {j : Nat} (hj : j ≤ 5) (hl : ∀ i : Nat, i ≤ j → 97 ≤ t (p + (i : Int)) ∧ t (p + (i : Int)) ≤ 122) (hx : x = zpk t p j) (hd : d = t (p + (j : Int)) - 96) (hs : s = 5 * (5 - (j : Int))) : zu_i32 4 x (zu_i32 5 d s) = zpk t p (j + 1) := by
  subst hx; subst hd
  have hj' : j = 0 ∨ j = 1 ∨ j = 2 ∨ j = 3 ∨ j = 4 ∨ j = 5 := by omega
  rcases hj' with rfl | rfl | rfl | rfl | rfl | rfl
  · have b0 := hl 0 (by omega)
    rw [zshl' 25 (P := 33554432) rfl (by omega) (by omega) (by omega) (by omega) (by omega)]
    rw [zorsum 30 (P := 1073741824) (y := 0) rfl (by omega) (by simp [zpk]) (by omega) (by omega) (by simp only [zpk]; omega)]
    simp only [zpk, zp32]; omega
  · have b0 := hl 0 (by omega)
    have b1 := hl 1 (by omega)
    rw [zshl' 20 (P := 1048576) rfl (by omega) (by omega) (by omega) (by omega) (by omega)]
    rw [zorsum 25 (P := 33554432) (y := t (p + ((0 : Nat) : Int)) - 96) rfl (by omega) (by simp only [zpk, zp32]; omega) (by omega) (by omega) (by simp only [zpk, zp32]; omega)]
    simp only [zpk, zp32]; omega
  · have b0 := hl 0 (by omega)
    have b1 := hl 1 (by omega)
    have b2 := hl 2 (by omega)
    rw [zshl' 15 (P := 32768) rfl (by omega) (by omega) (by omega) (by omega) (by omega)]
    rw [zorsum 20 (P := 1048576) (y := (t (p + ((0 : Nat) : Int)) - 96) * 32 + (t (p + ((1 : Nat) : Int)) - 96)) rfl (by omega) (by simp only [zpk, zp32]; omega) (by omega) (by omega) (by simp only [zpk, zp32]; omega)]
    simp only [zpk, zp32]; omega
  · have b0 := hl 0 (by omega)
    have b1 := hl 1 (by omega)
    have b2 := hl 2 (by omega)
    have b3 := hl 3 (by omega)
    rw [zshl' 10 (P := 1024) rfl (by omega) (by omega) (by omega) (by omega) (by omega)]
    rw [zorsum 15 (P := 32768) (y := ((t (p + ((0 : Nat) : Int)) - 96) * 32 + (t (p + ((1 : Nat) : Int)) - 96)) * 32 + (t (p + ((2 : Nat) : Int)) - 96)) rfl (by omega) (by simp only [zpk, zp32]; omega) (by omega) (by omega) (by simp only [zpk, zp32]; omega)]
    simp only [zpk, zp32]; omega
  · have b0 := hl 0 (by omega)
    have b1 := hl 1 (by omega)
    have b2 := hl 2 (by omega)
    have b3 := hl 3 (by omega)
    have b4 := hl 4 (by omega)
    rw [zshl' 5 (P := 32) rfl (by omega) (by omega) (by omega) (by omega) (by omega)]
    rw [zorsum 10 (P := 1024) (y := (((t (p + ((0 : Nat) : Int)) - 96) * 32 + (t (p + ((1 : Nat) : Int)) - 96)) * 32 + (t (p + ((2 : Nat) : Int)) - 96)) * 32 + (t (p + ((3 : Nat) : Int)) - 96)) rfl (by omega) (by simp only [zpk, zp32]; omega) (by omega) (by omega) (by simp only [zpk, zp32]; omega)]
    simp only [zpk, zp32]; omega
  · have b0 := hl 0 (by omega)
    have b1 := hl 1 (by omega)
    have b2 := hl 2 (by omega)
    have b3 := hl 3 (by omega)
    have b4 := hl 4 (by omega)
    have b5 := hl 5 (by omega)
    rw [zshl' 0 (P := 1) rfl (by omega) (by omega) (by omega) (by omega) (by omega)]
    rw [zorsum 5 (P := 32) (y := ((((t (p + ((0 : Nat) : Int)) - 96) * 32 + (t (p + ((1 : Nat) : Int)) - 96)) * 32 + (t (p + ((2 : Nat) : Int)) - 96)) * 32 + (t (p + ((3 : Nat) : Int)) - 96)) * 32 + (t (p + ((4 : Nat) : Int)) - 96)) rfl (by omega) (by simp only [zpk, zp32]; omega) (by omega) (by omega) (by simp only [zpk, zp32]; omega)]
    simp only [zpk, zp32]; omega
/-- as the reference packs: six signs, 0 behind the word -/
def zpr (t : Int → Int) (a b : Int) : Nat → Int
  | 0 => 0
  | j + 1 => zpr t a b j * 32 + (if a + (j : Int) < b then t (a + (j : Int)) - 96 else 0)
theorem zpr_step {t : Int → Int} {a b x d : Int} {j : Nat} (hj : j ≤ 5) (hl : ∀ i, a ≤ i → i < b → 97 ≤ t i ∧ t i ≤ 122) (hx : x = zpr t a b j) (hd : d = if a + (j : Int) < b then t (a + (j : Int)) - 96 else 0) : zu_i32 4 (zu_i32 5 x 5) d = zpr t a b (j + 1) ∧ 0 ≤ zpr t a b j ∧ zpr t a b j * 32 ≤ 1073741823 := by
  have bnd : ∀ k : Nat, 0 ≤ (if a + (k : Int) < b then t (a + (k : Int)) - 96 else 0) ∧ (if a + (k : Int) < b then t (a + (k : Int)) - 96 else 0) ≤ 26 := fun k => by
    split
    · have := hl (a + (k : Int)) (by omega) (by assumption)
      omega
    · omega
  have hB : 0 ≤ zpr t a b j ∧ zpr t a b j * 32 ≤ 1073741823 := by
    have c0 := bnd 0
    have c1 := bnd 1
    have c2 := bnd 2
    have c3 := bnd 3
    have c4 := bnd 4
    have hj' : j = 0 ∨ j = 1 ∨ j = 2 ∨ j = 3 ∨ j = 4 ∨ j = 5 := by omega
    rcases hj' with rfl | rfl | rfl | rfl | rfl | rfl <;> simp only [zpr] <;> omega
  have hb := bnd j
  rw [← hd] at hb
  refine ⟨?_, hB⟩
  rw [zshl' 5 (P := 32) rfl (by omega) (by omega) (by omega) (by omega) (by omega)]
  rw [zorsum 5 (P := 32) (y := x) rfl (by omega) (by omega) (by omega) (by omega) (by omega)]
  simp only [zpr]
  rw [← hd, hx]
  omega
theorem zpr_pk {t : Int → Int} {a b : Int} (h0 : a ≤ b) (h6 : b - a ≤ 6) : zpr t a b 6 = zpk t a (b - a).toNat := by
  have h : b = a ∨ b = a + 1 ∨ b = a + 2 ∨ b = a + 3 ∨ b = a + 4 ∨ b = a + 5 ∨ b = a + 6 := by omega
  rcases h with h | h | h | h | h | h | h <;> subst h
  · have e : (b - b).toNat = 0 := by omega
    rw [e]; simp only [zpr, zpk]; repeat rw [if_neg (by omega)]
    omega
  all_goals skip
  · have e : (a + 1 - a).toNat = 1 := by omega
    rw [e]; simp only [zpr, zpk, zp32]; rw [if_pos (by omega)]; repeat rw [if_neg (by omega)]
    omega
  · have e : (a + 2 - a).toNat = 2 := by omega
    rw [e]; simp only [zpr, zpk, zp32]; repeat rw [if_pos (by omega)]
    repeat rw [if_neg (by omega)]
    omega
  · have e : (a + 3 - a).toNat = 3 := by omega
    rw [e]; simp only [zpr, zpk, zp32]; repeat rw [if_pos (by omega)]
    repeat rw [if_neg (by omega)]
    omega
  · have e : (a + 4 - a).toNat = 4 := by omega
    rw [e]; simp only [zpr, zpk, zp32]; repeat rw [if_pos (by omega)]
    repeat rw [if_neg (by omega)]
    omega
  · have e : (a + 5 - a).toNat = 5 := by omega
    rw [e]; simp only [zpr, zpk, zp32]; repeat rw [if_pos (by omega)]
    repeat rw [if_neg (by omega)]
    omega
  · have e : (a + 6 - a).toNat = 6 := by omega
    rw [e]; simp only [zpr, zpk, zp32]; repeat rw [if_pos (by omega)]
    omega
/-- padded letters -/
def zdgt (t : Int → Int) (p : Int) (j i : Nat) : Int := if i < j then t (p + (i : Int)) - 96 else 0
theorem zpk_pad {t : Int → Int} {p : Int} {j : Nat} (hj : j ≤ 6) : zpk t p j = zdgt t p j 0 * 33554432 + zdgt t p j 1 * 1048576 + zdgt t p j 2 * 32768 + zdgt t p j 3 * 1024 + zdgt t p j 4 * 32 + zdgt t p j 5 := by
  have hj' : j = 0 ∨ j = 1 ∨ j = 2 ∨ j = 3 ∨ j = 4 ∨ j = 5 ∨ j = 6 := by omega
  rcases hj' with rfl | rfl | rfl | rfl | rfl | rfl | rfl <;> simp [zpk, zp32, zdgt]
theorem zdgt_bd {t : Int → Int} {p : Int} {j : Nat} (hl : ∀ i : Nat, i < j → 97 ≤ t (p + (i : Int)) ∧ t (p + (i : Int)) ≤ 122) (i : Nat) : 0 ≤ zdgt t p j i ∧ zdgt t p j i ≤ 26 ∧ (i < j → 1 ≤ zdgt t p j i ∧ zdgt t p j i = t (p + (i : Int)) - 96) ∧ (j ≤ i → zdgt t p j i = 0) := by
  unfold zdgt
  split
  · have := hl i (by assumption)
    refine ⟨by omega, by omega, fun _ => ⟨by omega, rfl⟩, fun h => by omega⟩
  · refine ⟨by omega, by omega, fun h => by omega, fun _ => rfl⟩
theorem zpk_inj {t u : Int → Int} {p r : Int} {j l : Nat} (hj : j ≤ 6) (hl : l ≤ 6) (h1 : ∀ i : Nat, i < j → 97 ≤ t (p + (i : Int)) ∧ t (p + (i : Int)) ≤ 122) (h2 : ∀ i : Nat, i < l → 97 ≤ u (r + (i : Int)) ∧ u (r + (i : Int)) ≤ 122) (h : zpk t p j = zpk u r l) : j = l ∧ ∀ i : Nat, i < j → t (p + (i : Int)) = u (r + (i : Int)) := by
  rw [zpk_pad hj, zpk_pad hl] at h
  have A : ∀ i : Nat, i < 6 → zdgt t p j i = zdgt u r l i := by
    have a0 := zdgt_bd h1 0
    have a1 := zdgt_bd h1 1
    have a2 := zdgt_bd h1 2
    have a3 := zdgt_bd h1 3
    have a4 := zdgt_bd h1 4
    have a5 := zdgt_bd h1 5
    have b0 := zdgt_bd h2 0
    have b1 := zdgt_bd h2 1
    have b2 := zdgt_bd h2 2
    have b3 := zdgt_bd h2 3
    have b4 := zdgt_bd h2 4
    have b5 := zdgt_bd h2 5
    obtain ⟨a01, a02, -, -⟩ := a0
    obtain ⟨a11, a12, -, -⟩ := a1
    obtain ⟨a21, a22, -, -⟩ := a2
    obtain ⟨a31, a32, -, -⟩ := a3
    obtain ⟨a41, a42, -, -⟩ := a4
    obtain ⟨a51, a52, -, -⟩ := a5
    obtain ⟨b01, b02, -, -⟩ := b0
    obtain ⟨b11, b12, -, -⟩ := b1
    obtain ⟨b21, b22, -, -⟩ := b2
    obtain ⟨b31, b32, -, -⟩ := b3
    obtain ⟨b41, b42, -, -⟩ := b4
    obtain ⟨b51, b52, -, -⟩ := b5
    intro i hi
    have hi' : i = 0 ∨ i = 1 ∨ i = 2 ∨ i = 3 ∨ i = 4 ∨ i = 5 := by omega
    rcases hi' with rfl | rfl | rfl | rfl | rfl | rfl <;> omega
  have hjl : j = l := by
    rcases Nat.lt_trichotomy j l with h3 | h3 | h3
    · have := A j (by omega)
      have q1 := (zdgt_bd h1 j).2.2.2 (Nat.le_refl _)
      have q2 := ((zdgt_bd h2 j).2.2.1 h3).1
      omega
    · exact h3
    · have := A l (by omega)
      have q1 := (zdgt_bd h2 l).2.2.2 (Nat.le_refl _)
      have q2 := ((zdgt_bd h1 l).2.2.1 h3).1
      omega
  refine ⟨hjl, fun i hi => ?_⟩
  have := A i (by omega)
  have q1 := ((zdgt_bd h1 i).2.2.1 hi).2
  have q2 := ((zdgt_bd h2 i).2.2.1 (by omega)).2
  omega
