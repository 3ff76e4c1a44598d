/-! the stack of what waits: depths, comparisons -/
def zdpq (w : Int → Int) : Nat → Int
  | 0 => 0
  | k + 1 => zdpq w k + (if w (k : Int) = 0 then 1 else 0)
def zhq (w : Int → Int) : Nat → Bool
  | 0 => false
  | k + 1 => if w (k : Int) = 0 then false else (decide (zrk (w (k : Int)) = 4) || zhq w k)
def zord (w : Int → Int) (n : Nat) : Prop := ∀ k : Nat, k + 1 < n → w ((k + 1 : Nat) : Int) ≠ 0 → (zrk (w (k : Int)) < zrk (w ((k + 1 : Nat) : Int)) ∨ (zrk (w (k : Int)) = 3 ∧ zrk (w ((k + 1 : Nat) : Int)) = 3))
theorem zdpq_cg {w u : Int → Int} : ∀ n : Nat, (∀ k : Nat, k < n → w (k : Int) = u (k : Int)) → zdpq w n = zdpq u n := by
  intro n
  induction n with
  | zero => intro _; rfl
  | succ n ih => intro h; unfold zdpq; rw [ih (fun k hk => h k (by omega)), h n (by omega)]
theorem zhq_cg {w u : Int → Int} : ∀ n : Nat, (∀ k : Nat, k < n → w (k : Int) = u (k : Int)) → zhq w n = zhq u n := by
  intro n
  induction n with
  | zero => intro _; rfl
  | succ n ih => intro h; unfold zhq; rw [ih (fun k hk => h k (by omega)), h n (by omega)]
theorem zord_cg {w u : Int → Int} {n : Nat} (h : ∀ k : Nat, k < n → w (k : Int) = u (k : Int)) (ho : zord w n) : zord u n := fun k hk h0 => by
  rw [← h k (by omega), ← h (k + 1) hk] at *
  exact ho k hk h0
theorem zord_le {w : Int → Int} {n n' : Nat} (h : n' ≤ n) (ho : zord w n) : zord w n' := fun k hk h0 => ho k (by omega) h0
theorem zrk_0 : zrk 0 = 0 := by decide
theorem zhq_top {w : Int → Int} : ∀ n : Nat, zord w n → zhq w n = true → ∃ k : Nat, n = k + 1 ∧ w (k : Int) ≠ 0 ∧ 4 ≤ zrk (w (k : Int)) := by
  intro n
  induction n with
  | zero => intro _ h; cases h
  | succ n ih =>
    intro ho h
    unfold zhq at h
    by_cases h0 : w (n : Int) = 0
    · rw [if_pos h0] at h; cases h
    · rw [if_neg h0] at h
      refine ⟨n, rfl, h0, ?_⟩
      rcases Bool.or_eq_true_iff.mp h with h | h
      · have := of_decide_eq_true h
        omega
      · obtain ⟨k, rfl, h1, h2⟩ := ih (zord_le (Nat.le_succ _) ho) h
        have := ho k (by omega) h0
        omega
theorem zhq_low {w : Int → Int} {n : Nat} (ho : zord w n) (h : n = 0 ∨ zrk (w ((n : Int) - 1)) < 4) : zhq w n = false := by
  cases hb : zhq w n with
  | false => rfl
  | true =>
    obtain ⟨k, rfl, h1, h2⟩ := zhq_top n ho hb
    rcases h with h | h
    · cases h
    · rw [show ((k + 1 : Nat) : Int) - 1 = (k : Int) by omega] at h
      exfalso; omega
theorem zpop_d {w : Int → Int} {n' : Nat} : ∀ d : Nat, (∀ i : Nat, n' ≤ i → i < n' + d → 1 ≤ zrk (w (i : Int))) → zdpq w (n' + d) = zdpq w n' := by
  intro d
  induction d with
  | zero => intro _; rfl
  | succ d ih =>
    intro h
    show zdpq w (n' + d) + (if w ((n' + d : Nat) : Int) = 0 then 1 else 0) = _
    have h1 := h (n' + d) (by omega) (by omega)
    rw [if_neg (fun q => by rw [q, zrk_0] at h1; omega), ih (fun i i0 i1 => h i i0 (by omega))]
    omega
theorem zpop_h {w : Int → Int} {n' : Nat} : ∀ d : Nat, (∀ i : Nat, n' ≤ i → i < n' + d → 5 ≤ zrk (w (i : Int))) → zhq w (n' + d) = zhq w n' := by
  intro d
  induction d with
  | zero => intro _; rfl
  | succ d ih =>
    intro h
    show (if w ((n' + d : Nat) : Int) = 0 then false else (decide (zrk (w ((n' + d : Nat) : Int)) = 4) || zhq w (n' + d))) = _
    have h1 := h (n' + d) (by omega) (by omega)
    rw [if_neg (fun q => by rw [q, zrk_0] at h1; omega), ih (fun i i0 i1 => h i i0 (by omega)), decide_eq_false (by omega)]
    rfl
theorem zdpq_nn (w : Int → Int) : ∀ n : Nat, 0 ≤ zdpq w n := by
  intro n
  induction n with
  | zero => exact Int.le_refl _
  | succ n ih => unfold zdpq; split <;> omega
