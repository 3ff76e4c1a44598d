/-! the tables of words -/
def zwR : List Int := [103, 97, 114, 100, 101, 110, 32, 98, 117, 115, 104, 32, 112, 111, 116, 32, 116, 114, 101, 101, 32, 101, 103, 103, 32, 99, 104, 105, 108, 100, 32, 114, 117, 108, 101, 32, 108, 105, 110, 101, 32, 100, 111, 103, 32, 115, 117, 110, 32, 115, 101, 101, 100, 32, 108, 97, 119, 32, 114, 101, 100, 32, 98, 108, 117, 101, 32, 103, 114, 101, 101, 110, 32, 103, 111, 108, 100, 32, 102, 114, 101, 101, 32, 111, 119, 110, 32, 98, 101, 104, 105, 110, 100, 32, 115, 101, 101, 32, 104, 105, 100, 101, 32, 106, 111, 121, 32, 107, 101, 101, 112, 32, 97, 110, 100, 32, 111, 114, 32, 110, 111, 116, 32, 97, 103, 101, 32, 104, 97, 114, 100, 32, 107, 105, 110, 100, 32, 99, 111, 108, 111, 114, 32, 109, 105, 110, 101, 32, 114, 111, 119, 32, 109, 97, 110, 121, 32]
def zwC : List Int := [236523694, 89759744, 553254912, 690131968, 175341568, 109359232, 626398208, 412554240, 150175744, 660013056, 642945024, 404455424, 609353728, 80385024, 253924800, 251006976, 220369920, 527892480, 72623556, 642940928, 278008832, 352092160, 374521856, 522190848, 48365568, 486146048, 41058304, 270077952, 378998784, 116801088, 446108672, 620462080, 437740544]
def zwP : List Int := [236523694, 89759744, 553254912, 690131968, 175341568, 109359232, 626398208, 412554240, 150175744, 660013056, 642945024, 404455424, 609353728, 80385024, 253924800, 251006976, 220369920, 527892480, 72623556, 642940928, 278008832, 352092160, 374521856, 48365568, 522190848, 486146048, 41058304, 270077952, 378998784, 116801088, 446108672, 620462080, 437740544]
def zwo : List Nat := [0, 7, 12, 16, 21, 25, 31, 36, 41, 45, 49, 54, 58, 62, 67, 73, 78, 83, 87, 94, 98, 103, 107, 112, 116, 119, 123, 127, 132, 137, 143, 148, 152, 157]
def zwl : List Nat := [6, 4, 3, 4, 3, 5, 4, 4, 3, 3, 4, 3, 3, 4, 5, 4, 4, 3, 6, 3, 4, 3, 4, 3, 2, 3, 3, 4, 4, 5, 4, 3, 4]
def zof (k : Nat) : Nat := zwo.getD k 0
def zln (k : Nat) : Nat := zwl.getD k 0
def zwt (i : Int) : Int := zwR.getD i.toNat 0
def zsw (k : Nat) : Nat := if k = 23 then 24 else if k = 24 then 23 else k
def zR_W1 (m : zu_m) : Prop := ∀ i, 0 ≤ i → i < 33 → m 46 i = zwC.getD i.toNat 0
def zR_W2 (m : zu_m) : Prop := ∀ i, 0 ≤ i → i < 157 → m 192 i = zwt i
theorem zw_tab : (List.range 33).all (fun k => decide (zwt (zof k + zln k : Nat) = 32) && Nat.beq (zof (k + 1)) (zof k + zln k + 1) && Nat.ble (zof k + zln k) 156 && Nat.ble (zln k) 6 && (List.range (zln k)).all (fun i => decide (97 ≤ zwt (zof k + i : Nat)) && decide (zwt (zof k + i : Nat) ≤ 122)) && decide (zpk zwt (zof k : Int) (zln k) = zwP.getD k 0) && decide (zwC.getD (zsw k) 0 = zwP.getD k 0)) = true := by decide +kernel
theorem zw_of33 : zof 33 = 157 := by decide
theorem zw_of0 : zof 0 = 0 := by decide
theorem zw_at {k : Nat} (hk : k < 33) : zwt ((zof k + zln k : Nat) : Int) = 32 ∧ zof (k + 1) = zof k + zln k + 1 ∧ zof k + zln k ≤ 156 ∧ zln k ≤ 6 ∧ (∀ i : Nat, i < zln k → 97 ≤ zwt ((zof k + i : Nat) : Int) ∧ zwt ((zof k + i : Nat) : Int) ≤ 122) ∧ zpk zwt (zof k : Int) (zln k) = zwP.getD k 0 ∧ zwC.getD (zsw k) 0 = zwP.getD k 0 := by
  have h := List.all_eq_true.mp zw_tab k (List.mem_range.mpr hk)
  simp only [Bool.and_eq_true] at h
  obtain ⟨⟨⟨⟨⟨⟨h1, h2⟩, h3⟩, h4⟩, h5⟩, h6⟩, h7⟩ := h
  refine ⟨of_decide_eq_true h1, Nat.eq_of_beq_eq_true h2, Nat.le_of_ble_eq_true h3, Nat.le_of_ble_eq_true h4, fun i hi => ?_, of_decide_eq_true h6, of_decide_eq_true h7⟩
  have := List.all_eq_true.mp h5 i (List.mem_range.mpr hi)
  obtain ⟨a, b⟩ := Bool.and_eq_true_iff.mp this
  exact ⟨of_decide_eq_true a, of_decide_eq_true b⟩
/-- the word from a up to b is the k-th -/
def zMt (t : Int → Int) (a b : Int) (k : Nat) : Prop := b - a = (zln k : Int) ∧ ∀ i : Nat, i < zln k → zwt ((zof k + i : Nat) : Int) = t (a + (i : Int))
theorem zMt_pk {t : Int → Int} {a b : Int} {k : Nat} (hk : k < 33) (h : zMt t a b k) : zpk t a (b - a).toNat = zwP.getD k 0 := by
  obtain ⟨-, -, -, h4, -, h6, -⟩ := zw_at hk
  rw [← h6, show (b - a).toNat = zln k by have := h.1; omega]
  have : ∀ j : Nat, j ≤ zln k → zpk t a j = zpk zwt (zof k : Int) j := by
    intro j
    induction j with
    | zero => intro _; rfl
    | succ j ih =>
      intro hj
      unfold zpk
      rw [ih (by omega), ← h.2 j (by omega)]
      rfl
  exact this _ (Nat.le_refl _)
theorem zMt_of {t : Int → Int} {a b : Int} {k : Nat} (hk : k < 33) (h0 : a ≤ b) (h6 : b - a ≤ 6) (hl : ∀ i, a ≤ i → i < b → 97 ≤ t i ∧ t i ≤ 122) (h : zpk t a (b - a).toNat = zwP.getD k 0) : zMt t a b k := by
  obtain ⟨-, -, -, h4, h5, h6', -⟩ := zw_at hk
  rw [← h6'] at h
  obtain ⟨e1, e2⟩ := zpk_inj (t := t) (u := zwt) (p := a) (r := (zof k : Int)) (j := (b - a).toNat) (l := zln k) (by omega) h4 (fun i hi => hl _ (by omega) (by omega)) (fun i hi => h5 i hi) h
  exact ⟨by omega, fun i hi => (e2 i (by omega)).symm⟩
