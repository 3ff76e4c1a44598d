/-! TOKENS of the reference -/
theorem zy_87 (n : Nat) {a : Int} {m : zu_m} (h0 : 0 ≤ a) (h7 : m 190 6 ≤ 700) : zw (zu_call (zt_T n) 87 [(40, 190), (0, a)] m) (fun v m' => m' = m ∧ ((v = 1 ∧ a < m 190 6 ∧ zlet (m 191) a) ∨ (v = 0 ∧ (m 190 6 ≤ a ∨ ¬ zlet (m 191) a)))) := by
  refine zw_eq (zu_call_at (zt_T n) (zm_87 n) (zdp_87 n) _ _ _ _ _ rfl (zr_87_0 n _ _ 190 a m)) ?_
  refine zw_ite (fun h => zw_b (Or.inl rfl) (zw_some ⟨rfl, Or.inr ⟨rfl, Or.inl h⟩⟩)) (fun h => ?_)
  refine zw_if ⟨by omega, by omega⟩ ?_
  refine zw_ite (fun ha => zw_b (Or.inl rfl) (zw_some ⟨rfl, Or.inr ⟨rfl, Or.inr (fun q => by unfold zlet at q; omega)⟩⟩)) (fun ha => ?_)
  refine zw_if ⟨by omega, by omega⟩ ?_
  refine zw_ite (fun hb => zw_b (Or.inl rfl) (zw_some ⟨rfl, Or.inr ⟨rfl, Or.inr (fun q => by unfold zlet at q; omega)⟩⟩)) (fun hb => ?_)
  exact zw_b (Or.inr rfl) (zw_some ⟨rfl, Or.inl ⟨rfl, by omega, by omega, by omega⟩⟩)
theorem zy_88 (n : Nat) {a : Int} {m : zu_m} (h0 : 0 ≤ a) (h7 : m 190 6 ≤ 700) : zw (zu_call (zt_T n) 88 [(40, 190), (0, a)] m) (fun v m' => m' = m ∧ ((v = 1 ∧ a < m 190 6 ∧ zdig (m 191) a) ∨ (v = 0 ∧ (m 190 6 ≤ a ∨ ¬ zdig (m 191) a)))) := by
  refine zw_eq (zu_call_at (zt_T n) (zm_88 n) (zdp_88 n) _ _ _ _ _ rfl (zr_88_0 n _ _ 190 a m)) ?_
  refine zw_ite (fun h => zw_b (Or.inl rfl) (zw_some ⟨rfl, Or.inr ⟨rfl, Or.inl h⟩⟩)) (fun h => ?_)
  refine zw_if ⟨by omega, by omega⟩ ?_
  refine zw_ite (fun ha => zw_b (Or.inl rfl) (zw_some ⟨rfl, Or.inr ⟨rfl, Or.inr (fun q => by unfold zdig at q; omega)⟩⟩)) (fun ha => ?_)
  refine zw_if ⟨by omega, by omega⟩ ?_
  refine zw_ite (fun hb => zw_b (Or.inl rfl) (zw_some ⟨rfl, Or.inr ⟨rfl, Or.inr (fun q => by unfold zdig at q; omega)⟩⟩)) (fun hb => ?_)
  exact zw_b (Or.inr rfl) (zw_some ⟨rfl, Or.inl ⟨rfl, by omega, by omega, by omega⟩⟩)
/-- packed -/
theorem zy_91_5 (n : Nat) {a b : Int} {m : zu_m} (ha : 0 ≤ a) (hb : b ≤ 700) (hl : ∀ i, a ≤ i → i < b → 97 ≤ m 191 i ∧ m 191 i ≤ 122) (ha7 : a ≤ 700) : ∀ (k j : Nat) (x : Int), x = zpr (m 191) a b j → j ≤ 6 → 6 - j < k → zw (zu_ex (zt_T n) 91 5 [(40, 190), (0, a), (0, b), (0, x), (0, a + (j : Int))] [] m) (fun v m' => m' = m ∧ v = zpr (m 191) a b 6) := by
  intro k
  induction k with
  | zero => intro j x h1 h2 h3; exfalso; omega
  | succ k ih =>
    intro j x hx hj hk
    refine zw_eq (zu_rega_at (zt_T n) (zm_91 n) (zdp_91 n) _ _ _ _ _ _ (zr_91_5 n _ _ 190 a b x (a + (j : Int)) m)) ?_
    have w1 := zu_w32_id (z := a + 6) (by omega) (by omega)
    have w2 := zu_w32_id (z := a + (j : Int) + 1) (by omega) (by omega)
    rw [w1]
    refine zw_ite (fun h => ?_) (fun h => ?_)
    · exact zw_some ⟨rfl, by rw [hx, show j = 6 by omega]⟩
    have ej : a + (j : Int) + 1 = a + ((j + 1 : Nat) : Int) := by omega
    refine zw_ite (fun h2 => ?_) (fun h2 => ?_)
    · rw [(zpr_step (j := j) (by omega) hl hx (d := 0) (by rw [if_neg (by omega)])).1, w2, ej]
      exact ih (j + 1) _ rfl (by omega) (by omega)
    refine zw_if ⟨by omega, by omega⟩ ?_
    have h3 := hl (a + (j : Int)) (by omega) (by omega)
    have w3 := zu_w32_id (z := m 191 (a + (j : Int)) - 96) (by omega) (by omega)
    rw [w3, (zpr_step (j := j) (by omega) hl hx (d := m 191 (a + (j : Int)) - 96) (by rw [if_pos (by omega)])).1, w2, ej]
    exact ih (j + 1) _ rfl (by omega) (by omega)
theorem zy_91 (n : Nat) {a b : Int} {m : zu_m} (ha : 0 ≤ a) (hb : b ≤ 700) (hl : ∀ i, a ≤ i → i < b → 97 ≤ m 191 i ∧ m 191 i ≤ 122) (ha7 : a ≤ 700) (h0 : a ≤ b) (h6 : b - a ≤ 6) : zw (zu_call (zt_T n) 91 [(40, 190), (0, a), (0, b)] m) (fun v m' => m' = m ∧ v = zpk (m 191) a (b - a).toNat) := by
  refine zw_eq (zu_call_at (zt_T n) (zm_91 n) (zdp_91 n) _ _ _ _ _ rfl (zr_91_0 n _ _ 190 a b m)) ?_
  rw [← zpr_pk h0 h6]
  have := zy_91_5 n (m := m) ha hb hl ha7 8 0 0 rfl (by omega) (by omega)
  rw [show a + ((0 : Nat) : Int) = a by omega] at this
  exact this
/-- wordAt -/
def zWa (t : Int → Int) (a b v : Int) : Prop := (v = -1 ∧ ∀ k : Nat, k < 33 → ¬ zMt t a b k) ∨ (0 ≤ v ∧ v < 33 ∧ zMt t a b v.toNat)
theorem zy_86_57 (n : Nat) {a b : Int} {m : zu_m} {Wt : Int → Int} (ha : 0 ≤ a) (hab : a ≤ b) (hb : b ≤ 700) (hW : ∀ i, 0 ≤ i → i < 157 → m 192 i = Wt i) {j o l : Nat} (hj : j < 33) (t3 : (o : Int) + (l : Int) ≤ 156) {Z : Prop} (hZ : Z ↔ (b - a = (l : Int) ∧ ∀ i : Nat, i < l → Wt ((o + i : Nat) : Int) = m 191 (a + (i : Int)))) {Q : Int → zu_m → Prop} (h5 : ¬ Z → ∀ x5 x6 x7, zw (zu_ex (zt_T n) 86 5 [(40, 190), (0, a), (0, b), (0, ((j + 1 : Nat) : Int)), (0, ((o + l + 1 : Nat) : Int)), (0, x5), (0, x6), (0, x7)] [] m) Q) (hy : Z → Q (j : Int) m) : ∀ (k i : Nat) (x6 : Int), i ≤ l → l - i < k → ((x6 = 1 ∧ b - a = (l : Int) ∧ ∀ q : Nat, q < i → Wt ((o + q : Nat) : Int) = m 191 (a + (q : Int))) ∨ (x6 = 0 ∧ ¬ Z)) → zw (zu_ex (zt_T n) 86 57 [(40, 190), (0, a), (0, b), (0, (j : Int)), (0, (o : Int)), (0, (l : Int)), (0, x6), (0, (i : Int))] [] m) Q := by
  intro k
  induction k with
  | zero => intro i x6 h1 h2; exfalso; omega
  | succ k ih =>
    intro i x6 hi hk hx
    refine zw_eq (zu_rega_at (zt_T n) (zm_86 n) (zdp_86 n) _ _ _ _ _ _ (zr_86_57 n _ _ 190 a b (j : Int) (o : Int) (l : Int) x6 (i : Int) m)) ?_
    rw [zu_w32_id (z := (j : Int) + 1) (by omega) (by omega), zu_w32_id (z := (l : Int) + 1) (by omega) (by omega), zu_w32_id (z := (o : Int) + ((l : Int) + 1)) (by omega) (by omega), show (j : Int) + 1 = ((j + 1 : Nat) : Int) from rfl, show (o : Int) + ((l : Int) + 1) = ((o + l + 1 : Nat) : Int) by omega]
    refine zw_ite (fun h => ?_) (fun h => ?_)
    · refine zw_ite (fun h6 => ?_) (fun h6 => ?_)
      · rcases hx with ⟨q, -, -⟩ | ⟨-, q⟩
        · exfalso; omega
        · exact h5 q _ _ _
      · rcases hx with ⟨-, q1, q2⟩ | ⟨q, -⟩
        · exact zw_some (hy (hZ.mpr ⟨q1, fun q hq => q2 q (by omega)⟩))
        · exact absurd q h6
    refine zw_ite (fun h6 => ?_) (fun h6 => ?_)
    · refine zw_ite (fun _ => ?_) (fun q => absurd h6 q)
      rcases hx with ⟨q, -, -⟩ | ⟨-, q⟩
      · exfalso; omega
      · exact h5 q _ _ _
    obtain ⟨q0, q1, q2⟩ : x6 = 1 ∧ b - a = (l : Int) ∧ ∀ q : Nat, q < i → Wt ((o + q : Nat) : Int) = m 191 (a + (q : Int)) := by
      rcases hx with hx | ⟨q, -⟩
      · exact hx
      · exact absurd q h6
    rw [zu_w32_id (z := (o : Int) + (i : Int)) (by omega) (by omega), zu_w32_id (z := a + (i : Int)) (by omega) (by omega), zu_w32_id (z := (i : Int) + 1) (by omega) (by omega)]
    refine zw_if ⟨by omega, by omega⟩ ?_
    refine zw_if ⟨by omega, by omega⟩ ?_
    have e3 : m 192 ((o : Int) + (i : Int)) = Wt ((o + i : Nat) : Int) := hW _ (by omega) (by omega)
    rw [e3, show (i : Int) + 1 = ((i + 1 : Nat) : Int) by omega]
    refine zw_ite (fun h7 => ?_) (fun h7 => ?_)
    · exact ih (i + 1) 0 (by omega) (by omega) (Or.inr ⟨rfl, fun q => h7 ((hZ.mp q).2 i (by omega))⟩)
    · refine ih (i + 1) 1 (by omega) (by omega) (Or.inl ⟨rfl, q1, fun q hq => ?_⟩)
      by_cases e : q = i
      · rw [e]; exact Decidable.not_not.mp h7
      · exact q2 q (by omega)
theorem zy_86_18 (n : Nat) {a b : Int} {m : zu_m} {Wt : Int → Int} (ha : 0 ≤ a) (hab : a ≤ b) (hb : b ≤ 700) (hW : ∀ i, 0 ≤ i → i < 157 → m 192 i = Wt i) {j o l : Nat} (hj : j < 33) (t1 : Wt ((o + l : Nat) : Int) = 32) (t3 : (o : Int) + (l : Int) ≤ 156) (t5 : ∀ i : Nat, i < l → 97 ≤ Wt ((o + i : Nat) : Int) ∧ Wt ((o + i : Nat) : Int) ≤ 122) {Z : Prop} (hZ : Z ↔ (b - a = (l : Int) ∧ ∀ i : Nat, i < l → Wt ((o + i : Nat) : Int) = m 191 (a + (i : Int)))) {Q : Int → zu_m → Prop} (h5 : ¬ Z → ∀ x5 x6 x7, zw (zu_ex (zt_T n) 86 5 [(40, 190), (0, a), (0, b), (0, ((j + 1 : Nat) : Int)), (0, ((o + l + 1 : Nat) : Int)), (0, x5), (0, x6), (0, x7)] [] m) Q) (hy : Z → Q (j : Int) m) : ∀ (k i : Nat), i ≤ l → l - i < k → zw (zu_ex (zt_T n) 86 18 [(40, 190), (0, a), (0, b), (0, (j : Int)), (0, (o : Int)), (0, (i : Int)), (2, 0), (2, 0)] [] m) Q := by
  intro k
  induction k with
  | zero => intro i h1 h2; exfalso; omega
  | succ k ih =>
    intro i hi hk
    refine zw_eq (zu_rega_at (zt_T n) (zm_86 n) (zdp_86 n) _ _ _ _ _ _ (zr_86_18 n _ _ 190 a b (j : Int) (o : Int) (i : Int) m)) ?_
    rw [zu_w32_id (z := (o : Int) + (i : Int)) (by omega) (by omega), zu_w32_id (z := (i : Int) + 1) (by omega) (by omega), zu_w32_id (z := b - a) (by omega) (by omega)]
    refine zw_if ⟨by omega, by omega⟩ ?_
    have e3 : m 192 ((o : Int) + (i : Int)) = Wt ((o + i : Nat) : Int) := hW _ (by omega) (by omega)
    rw [e3]
    refine zw_ite (fun h => ?_) (fun h => ?_)
    · have hi2 : i = l := by
        rcases Nat.lt_or_eq_of_le hi with q | q
        · have := t5 i q
          exfalso; omega
        · exact q
      subst hi2
      refine zw_ite (fun h7 => ?_) (fun h7 => ?_)
      · exact zy_86_57 n ha hab hb hW hj t3 hZ h5 hy (i + 1) 0 0 (by omega) (by omega) (Or.inr ⟨rfl, fun q => by have := (hZ.mp q).1; omega⟩)
      · exact zy_86_57 n ha hab hb hW hj t3 hZ h5 hy (i + 1) 0 1 (by omega) (by omega) (Or.inl ⟨rfl, by omega, fun q hq => by omega⟩)
    · have hi2 : i < l := by
        rcases Nat.lt_or_eq_of_le hi with q | q
        · exact q
        · exact absurd (by rw [q]; exact t1) h
      rw [show (i : Int) + 1 = ((i + 1 : Nat) : Int) by omega]
      exact ih (i + 1) (by omega) (by omega)
theorem zof_hi {k : Nat} (hk : k < 33) : ¬ (157 : Int) ≤ (zof k : Int) := fun h => by
  obtain ⟨-, -, t3, -⟩ := zw_at hk
  exact absurd (Nat.le_trans (Int.ofNat_le.mp h) (Nat.le_trans (Nat.le_add_right _ _) t3)) (by decide)
theorem zof_lo : (157 : Int) ≤ (zof 33 : Int) := by decide
theorem zy_86_5 (n : Nat) {a b : Int} {m : zu_m} (ha : 0 ≤ a) (hab : a ≤ b) (hb : b ≤ 700) (hW : zR_W2 m) : ∀ (k j : Nat) (L : List zu_v), zu_lr [(40, 190), (0, a), (0, b), (0, (j : Int)), (0, (zof j : Int)), (2, 0), (2, 0), (2, 0)] L → j ≤ 33 → 33 - j < k → (∀ l : Nat, l < j → ¬ zMt (m 191) a b l) → zw (zu_ex (zt_T n) 86 5 L [] m) (fun v m' => m' = m ∧ zWa (m 191) a b v) := by
  intro k
  induction k with
  | zero => intro j L h0 h1 h2; exfalso; omega
  | succ k ih =>
    intro j L hL hj hk hn
    refine zw_le (zu_forget hL) ?_
    refine zw_eq (zu_rega_at (zt_T n) (zm_86 n) (zdp_86 n) _ _ _ _ _ _ (zr_86_5 n _ _ 190 a b (j : Int) (zof j : Int) m)) ?_
    by_cases hj2 : j < 33
    · rw [if_neg (zof_hi hj2)]
      obtain ⟨t1, t2, t3, -, t5, -, -⟩ := zw_at hj2
      have hn2 : ∀ hno : ¬ zMt (m 191) a b j, ∀ l : Nat, l < j + 1 → ¬ zMt (m 191) a b l := fun hno l hl => by
        by_cases e : l = j
        · rw [e]; exact hno
        · exact hn l (Nat.lt_of_le_of_ne (Nat.le_of_lt_succ hl) e)
      have hk2 : 33 - (j + 1) < k := by clear hL t1 t2 t3 t5 hn hn2 ih; omega
      refine zy_86_18 n ha hab hb hW hj2 t1 (by have := Int.ofNat_le.mpr t3; rw [Int.natCast_add] at this; exact this) t5 (Z := zMt (m 191) a b j) Iff.rfl (fun hno x5 x6 x7 => ?_) (fun hm => ⟨rfl, Or.inr ⟨Int.natCast_nonneg j, Int.ofNat_lt.mpr hj2, by rw [Int.toNat_natCast]; exact hm⟩⟩) (zln j + 1) 0 (Nat.zero_le _) (Nat.lt_succ_self _)
      refine ih (j + 1) _ ?_ hj2 hk2 (hn2 hno)
      rw [t2]
      exact zu_lr_same (zu_lr_same (zu_lr_same (zu_lr_same (zu_lr_same (zu_lr_drop (zu_lr_drop (zu_lr_drop zu_lr_nil)))))))
    · have e : j = 33 := by clear hL hn ih; omega
      subst e
      rw [if_pos zof_lo]
      exact zw_some ⟨rfl, Or.inl ⟨rfl, fun l hl => hn l hl⟩⟩
theorem zy_86 (n : Nat) {a b : Int} {m : zu_m} (ha : 0 ≤ a) (hab : a ≤ b) (hb : b ≤ 700) (hW : zR_W2 m) : zw (zu_call (zt_T n) 86 [(40, 190), (0, a), (0, b)] m) (fun v m' => m' = m ∧ zWa (m 191) a b v) := by
  refine zw_eq (zu_call_at (zt_T n) (zm_86 n) (zdp_86 n) _ _ _ _ _ rfl (zr_86_0 n _ _ 190 a b m)) ?_
  exact zy_86_5 n ha hab hb hW 35 0 _ (zu_lr_same (zu_lr_same (zu_lr_same (zu_lr_same (zu_lr_same (zu_lr_same (zu_lr_same (zu_lr_same zu_lr_nil)))))))) (by omega) (by omega) (fun l hl => by omega)
