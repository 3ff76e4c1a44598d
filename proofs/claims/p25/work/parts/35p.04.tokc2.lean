/-! signs of the class, a token of it -/
def zSo (a v : Int) : Prop := (a = 40 ∧ v = 1) ∨ (a = 41 ∧ v = 2) ∨ (a = 42 ∧ v = 5) ∨ (a = 43 ∧ v = 3) ∨ (a = 45 ∧ v = 4) ∨ (a = 47 ∧ v = 6) ∨ (a = 59 ∧ v = 0) ∨ (a = 60 ∧ v = 7) ∨ (a = 61 ∧ v = 9) ∨ (a = 62 ∧ v = 12) ∨ (a ≠ 40 ∧ a ≠ 41 ∧ a ≠ 42 ∧ a ≠ 43 ∧ a ≠ 45 ∧ a ≠ 47 ∧ a ≠ 59 ∧ a ≠ 60 ∧ a ≠ 61 ∧ a ≠ 62 ∧ v = -1)
theorem zy_283 (n : Nat) (a : Int) (m : zu_m) : zw (zu_call (zt_T n) 283 [(0, a)] m) (fun v m' => m' = m ∧ zSo a v) := by
  refine zw_eq (zu_call_at (zt_T n) (zm_283 n) (zdp_283 n) _ _ _ _ _ rfl (zr_283_0 n _ _ a m)) ?_
  repeat' refine zw_ite (fun h => ?_) (fun h => ?_)
  all_goals first
    | (subst h; exact zw_some ⟨rfl, by unfold zSo; decide⟩)
    | exact zw_some ⟨rfl, by unfold zSo; omega⟩
def zLn (v d v' l : Int) : Prop := (v = 7 ∧ d = 61 ∧ v' = 8 ∧ l = 1) ∨ (v = 7 ∧ d = 62 ∧ v' = 10 ∧ l = 1) ∨ (v = 12 ∧ d = 61 ∧ v' = 11 ∧ l = 1) ∨ (¬(v = 7 ∧ d = 61) ∧ ¬(v = 7 ∧ d = 62) ∧ ¬(v = 12 ∧ d = 61) ∧ v' = v ∧ l = 0)
theorem zy_282 (n : Nat) {m : zu_m} (h0 : 0 ≤ m 45 3) (hN : m 45 2 ≤ 700) (h7 : m 45 3 ≤ 700) : zw (zu_call (zt_T n) 282 [(22, 45)] m) (fun _ m' => m' 45 4 = m 45 4 ∧ m' 45 6 = m 45 6 ∧ zLn (m 45 5) (if m 45 3 < m 45 2 then m 4 (m 45 3) else 0) (m' 45 5) (m' 45 3 - m 45 3)) := by
  have w2 := zu_w32_id (z := m 45 3 + 1) (by omega) (by omega)
  have upd : ∀ y : Int, ∀ d : Int, zLn (m 45 5) d y 1 → (fun (_ : Int) (m' : zu_m) => m' 45 4 = m 45 4 ∧ m' 45 6 = m 45 6 ∧ zLn (m 45 5) d (m' 45 5) (m' 45 3 - m 45 3)) 0 (zu_up (zu_up m 45 5 y) 45 3 (zu_w32 (((zu_up m 45 5 y) 45 3) + 1))) := fun y d h => by
    have e : (zu_up m 45 5 y) 45 3 = m 45 3 := by simp [zu_up_app]
    rw [e, w2]
    refine ⟨by simp [zu_up_app], by simp [zu_up_app], ?_⟩
    have e1 : zu_up (zu_up m 45 5 y) 45 3 (m 45 3 + 1) 45 5 = y := by simp [zu_up_app]
    have e2 : zu_up (zu_up m 45 5 y) 45 3 (m 45 3 + 1) 45 3 = m 45 3 + 1 := by simp [zu_up_app]
    rw [e1, e2, show m 45 3 + 1 - m 45 3 = 1 by omega]
    exact h
  have sam : ∀ d : Int, ¬(m 45 5 = 7 ∧ d = 61) → ¬(m 45 5 = 7 ∧ d = 62) → ¬(m 45 5 = 12 ∧ d = 61) → (fun (_ : Int) (m' : zu_m) => m' 45 4 = m 45 4 ∧ m' 45 6 = m 45 6 ∧ zLn (m 45 5) d (m' 45 5) (m' 45 3 - m 45 3)) 0 m := fun d h1 h2 h3 => ⟨rfl, rfl, Or.inr (Or.inr (Or.inr ⟨h1, h2, h3, rfl, by omega⟩))⟩
  have g93 : ∀ x : Int, ¬(m 45 5 = 7 ∧ x = 61) → ¬(m 45 5 = 7 ∧ x = 62) → zw (zu_ex (zt_T n) 282 93 [(22, 45), (0, x)] [] m) (fun (_ : Int) (m' : zu_m) => m' 45 4 = m 45 4 ∧ m' 45 6 = m 45 6 ∧ zLn (m 45 5) x (m' 45 5) (m' 45 3 - m 45 3)) := fun x h1 h2 => by
    refine zw_eq (zu_rega_at (zt_T n) (zm_282 n) (zdp_282 n) _ _ _ _ _ _ (zs_282_93 n _ _ x m)) ?_
    refine zw_ite (fun h => zw_some (sam x h1 h2 (by omega))) (fun h => ?_)
    refine zw_ite (fun h' => zw_some (sam x h1 h2 (by omega))) (fun h' => ?_)
    exact zw_some (upd 11 x (Or.inr (Or.inr (Or.inl ⟨by omega, by omega, rfl, rfl⟩))))
  have g59 : ∀ x : Int, ¬(m 45 5 = 7 ∧ x = 61) → zw (zu_ex (zt_T n) 282 59 [(22, 45), (0, x)] [] m) (fun (_ : Int) (m' : zu_m) => m' 45 4 = m 45 4 ∧ m' 45 6 = m 45 6 ∧ zLn (m 45 5) x (m' 45 5) (m' 45 3 - m 45 3)) := fun x h1 => by
    refine zw_eq (zu_rega_at (zt_T n) (zm_282 n) (zdp_282 n) _ _ _ _ _ _ (zs_282_59 n _ _ x m)) ?_
    refine zw_ite (fun h => g93 x h1 (by omega)) (fun h => ?_)
    refine zw_ite (fun h' => g93 x h1 (by omega)) (fun h' => ?_)
    exact zw_some (upd 10 x (Or.inr (Or.inl ⟨by omega, by omega, rfl, rfl⟩)))
  have g25 : ∀ x : Int, zw (zu_ex (zt_T n) 282 25 [(22, 45), (0, x)] [] m) (fun (_ : Int) (m' : zu_m) => m' 45 4 = m 45 4 ∧ m' 45 6 = m 45 6 ∧ zLn (m 45 5) x (m' 45 5) (m' 45 3 - m 45 3)) := fun x => by
    refine zw_eq (zu_rega_at (zt_T n) (zm_282 n) (zdp_282 n) _ _ _ _ _ _ (zs_282_25 n _ _ x m)) ?_
    refine zw_ite (fun h => g59 x (by omega)) (fun h => ?_)
    refine zw_ite (fun h' => g59 x (by omega)) (fun h' => ?_)
    exact zw_some (upd 8 x (Or.inl ⟨by omega, by omega, rfl, rfl⟩))
  refine zw_eq (zu_call_at (zt_T n) (zm_282 n) (zdp_282 n) _ _ _ _ _ rfl (zs_282_0 n _ _ m)) ?_
  refine zw_ite (fun h => ?_) (fun h => ?_)
  · rw [if_neg (show ¬ m 45 3 < m 45 2 by omega)]; exact g25 0
  · rw [if_pos (show m 45 3 < m 45 2 by omega)]
    refine zw_if ⟨by omega, by omega⟩ ?_
    exact g25 _
def zSgC (c d k v l : Int) : Prop := ∃ v0, zSo c v0 ∧ ((v0 = -1 ∧ k = 5) ∨ (v0 ≠ -1 ∧ k = 4)) ∧ zLn v0 d v (l - 1)
def zTC (t w : Int → Int) (n p k v pl q : Int) : Prop := zEnd (zbla t) n p pl ∧ ((n ≤ pl ∧ k = 0 ∧ q = pl) ∨ (pl < n ∧ zlet t pl ∧ zEnd (zlet t) n pl q ∧ zWdC t w pl q k v) ∨ (pl < n ∧ zdig t pl ∧ zEnd (zdig t) n pl q ∧ k = 3 ∧ v = zdC t pl (q - pl).toNat) ∨ (pl < n ∧ ¬ zlet t pl ∧ ¬ zdig t pl ∧ zSgC (t pl) (if pl + 1 < n then t (pl + 1) else 0) k v (q - pl)))
theorem zy_18_52 (n : Nat) {T W : Int → Int} {N p : Int} {m : zu_m} (hp : 0 ≤ p) (hN : N ≤ 700) (hT : m 4 = T) (hW : m 46 = W) (h2 : m 45 2 = N) (h7 : m 45 3 ≤ 700) (hE : zEnd (zbla T) N p (m 45 3)) : zw (zu_ex (zt_T n) 18 52 [(22, 45)] [] m) (fun _ m' => zTC T W N p (m' 45 4) (m' 45 5) (m' 45 6) (m' 45 3)) := by
  have hpq := hE.1
  refine zw_eq (zu_rega_at (zt_T n) (zm_18 n) (zdp_18 n) _ _ _ _ _ _ (zs_18_52 n _ _ m)) ?_
  generalize hm1 : zu_up m 45 6 (m 45 3) = m1
  have e4 : m1 4 = T := by rw [← hT, ← hm1]; funext i; simp [zu_up_app]
  have e46 : m1 46 = W := by rw [← hW, ← hm1]; funext i; simp [zu_up_app]
  have e2 : m1 45 2 = N := by rw [← h2, ← hm1]; simp [zu_up_app]
  have e3 : m1 45 3 = m 45 3 := by rw [← hm1]; simp [zu_up_app]
  have e6 : m1 45 6 = m 45 3 := by rw [← hm1]; simp [zu_up_app]
  generalize hpl : m 45 3 = pl at *
  refine zw_ite (fun h => ?_) (fun h => ?_)
  · have g149 : ¬ zlet T pl → ¬ zdig T pl → zw (zu_ex (zt_T n) 18 149 [(22, 45)] [] m1) (fun _ m' => zTC T W N p (m' 45 4) (m' 45 5) (m' 45 6) (m' 45 3)) := fun q1 q2 => by
      refine zw_eq (zu_rega_at (zt_T n) (zm_18 n) (zdp_18 n) _ _ _ _ _ _ (zs_18_149 n _ _ m1)) ?_
      refine zw_if ⟨by omega, by omega⟩ ?_
      refine zw_bd (zw_mono (zy_283 n _ m1) (fun v0 s hs => ?_))
      obtain ⟨rfl, hs⟩ := hs
      rw [e3, e4] at hs
      have d5 : (zu_up s 45 5 v0) 45 5 = v0 := by simp [zu_up_app]
      rw [d5]
      have key : ∀ kk : Int, ((v0 = -1 ∧ kk = 5) ∨ (v0 ≠ -1 ∧ kk = 4)) → zw (zu_bd (zu_call (zt_T n) 282 [(22, 45)] (zu_up (zu_up (zu_up s 45 5 v0) 45 4 kk) 45 3 (zu_w32 (((zu_up (zu_up s 45 5 v0) 45 4 kk) 45 3) + 1)))) (fun _ s193 => some (0, s193))) (fun _ m' => zTC T W N p (m' 45 4) (m' 45 5) (m' 45 6) (m' 45 3)) := fun kk hkk => by
        have d3 : (zu_up (zu_up s 45 5 v0) 45 4 kk) 45 3 = pl := by rw [← e3]; simp [zu_up_app]
        have w2 := zu_w32_id (z := pl + 1) (by omega) (by omega)
        rw [d3, w2]
        generalize hm2 : zu_up (zu_up (zu_up s 45 5 v0) 45 4 kk) 45 3 (pl + 1) = m2
        have f4 : m2 4 = T := by rw [← e4, ← hm2]; funext i; simp [zu_up_app]
        have f2 : m2 45 2 = N := by rw [← e2, ← hm2]; simp [zu_up_app]
        have f3 : m2 45 3 = pl + 1 := by rw [← hm2]; simp [zu_up_app]
        have f6 : m2 45 6 = pl := by rw [← e6, ← hm2]; simp [zu_up_app]
        have f44 : m2 45 4 = kk := by rw [← hm2]; simp [zu_up_app]
        have f5 : m2 45 5 = v0 := by rw [← hm2]; simp [zu_up_app]
        refine zw_bd (zw_mono (zy_282 n (m := m2) (by omega) (by omega) (by omega)) (fun _ m3 hs3 => ?_))
        obtain ⟨g1, g2, g3⟩ := hs3
        refine zw_some ⟨by rw [g2, f6]; exact hE, Or.inr (Or.inr (Or.inr ⟨by omega, by rw [g2, f6]; exact q1, by rw [g2, f6]; exact q2, v0, by rw [g2, f6]; exact hs, by rw [g1, f44]; exact hkk, ?_⟩))⟩
        rw [f5, f4, f3, f2] at g3
        rw [g2, f6, show m3 45 3 - pl - 1 = m3 45 3 - (pl + 1) by omega]
        exact g3
      refine zw_ite (fun hk => ?_) (fun hk => ?_)
      · exact key 4 (Or.inr ⟨hk, rfl⟩)
      · exact key 5 (Or.inl ⟨by omega, rfl⟩)
    have g114 : ¬ zlet T pl → zw (zu_ex (zt_T n) 18 114 [(22, 45)] [] m1) (fun _ m' => zTC T W N p (m' 45 4) (m' 45 5) (m' 45 6) (m' 45 3)) := fun q1 => by
      refine zw_eq (zu_rega_at (zt_T n) (zm_18 n) (zdp_18 n) _ _ _ _ _ _ (zs_18_114 n _ _ m1)) ?_
      refine zw_if ⟨by omega, by omega⟩ ?_
      rw [e3, e4]
      refine zw_ite (fun ha => g149 q1 (fun q => by unfold zdig at q; omega)) (fun ha => ?_)
      refine zw_if ⟨by omega, by omega⟩ ?_
      refine zw_ite (fun hb => g149 q1 (fun q => by unfold zdig at q; omega)) (fun hb => ?_)
      refine zw_bd (zw_mono (zy_281 n (T := T) (N := N) (p := pl) (m := m1) (by omega) hN e4 e2 e6 e3 h7) (fun _ m3 hs3 => ?_))
      obtain ⟨g1, g2, g3, g4⟩ := hs3
      exact zw_some ⟨by rw [g2]; exact hE, Or.inr (Or.inr (Or.inl ⟨by omega, by rw [g2]; exact ⟨by omega, by omega⟩, by rw [g2]; exact g1, g3, by rw [g2]; exact g4⟩))⟩
    refine zw_eq (zu_rega_at (zt_T n) (zm_18 n) (zdp_18 n) _ _ _ _ _ _ (zs_18_79 n _ _ m1)) ?_
    refine zw_if ⟨by omega, by omega⟩ ?_
    rw [e3, e4]
    refine zw_ite (fun ha => g114 (fun q => by unfold zlet at q; omega)) (fun ha => ?_)
    refine zw_if ⟨by omega, by omega⟩ ?_
    refine zw_ite (fun hb => g114 (fun q => by unfold zlet at q; omega)) (fun hb => ?_)
    refine zw_bd (zw_mono (zy_280 n (T := T) (W := W) (N := N) (p := pl) (m := m1) (by omega) hN e4 e46 e2 e6 e3 h7) (fun _ m3 hs3 => ?_))
    obtain ⟨g1, g2, g3⟩ := hs3
    exact zw_some ⟨by rw [g2]; exact hE, Or.inr (Or.inl ⟨by omega, by rw [g2]; exact ⟨by omega, by omega⟩, by rw [g2]; exact g1, by rw [g2]; exact g3⟩)⟩
  · generalize hm2 : zu_up m1 45 4 0 = m2
    have f3 : m2 45 3 = pl := by rw [← e3, ← hm2]; simp [zu_up_app]
    have f6 : m2 45 6 = pl := by rw [← e6, ← hm2]; simp [zu_up_app]
    have f4 : m2 45 4 = 0 := by rw [← hm2]; simp [zu_up_app]
    exact zw_some ⟨by rw [f6]; exact hE, Or.inl ⟨by omega, f4, by omega⟩⟩
theorem zy_18_0 (n : Nat) {T W : Int → Int} {N p : Int} (hp : 0 ≤ p) (hN : N ≤ 700) : ∀ (k : Nat) (m : zu_m), m 4 = T → m 46 = W → m 45 2 = N → p ≤ m 45 3 → m 45 3 ≤ 700 → (∀ i, p ≤ i → i < m 45 3 → i < N ∧ zbla T i) → 700 - m 45 3 < (k : Int) → zw (zu_ex (zt_T n) 18 0 [(22, 45)] [] m) (fun _ m' => zTC T W N p (m' 45 4) (m' 45 5) (m' 45 6) (m' 45 3)) := by
  intro k
  induction k with
  | zero => intro m h1 h2 h3 h4 h5 h6 h7; exfalso; omega
  | succ k ih =>
    intro m hT hW h2 hpq h7 hl hk
    have go : m 45 3 < N → zbla T (m 45 3) → zw (zu_ex (zt_T n) 18 39 [(22, 45)] [] m) (fun _ m' => zTC T W N p (m' 45 4) (m' 45 5) (m' 45 6) (m' 45 3)) := fun hlt hb => by
      refine zw_eq (zu_rega_at (zt_T n) (zm_18 n) (zdp_18 n) _ _ _ _ _ _ (zs_18_39 n _ _ m)) ?_
      have w2 := zu_w32_id (z := m 45 3 + 1) (by omega) (by omega)
      rw [w2]
      generalize hm1 : zu_up m 45 3 (m 45 3 + 1) = m1
      have e4 : m1 4 = m 4 := by rw [← hm1]; funext i; simp [zu_up_app]
      have e46 : m1 46 = m 46 := by rw [← hm1]; funext i; simp [zu_up_app]
      have e2 : m1 45 2 = m 45 2 := by rw [← hm1]; simp [zu_up_app]
      have e3 : m1 45 3 = m 45 3 + 1 := by rw [← hm1]; simp [zu_up_app]
      refine ih m1 (e4.trans hT) (e46.trans hW) (e2.trans h2) (by omega) (by omega) (fun i i0 i1 => ?_) (by omega)
      by_cases e : i = m 45 3
      · rw [e]; exact ⟨hlt, hb⟩
      · exact hl i i0 (by omega)
    refine zw_eq (zu_rega_at (zt_T n) (zm_18 n) (zdp_18 n) _ _ _ _ _ _ (zs_18_0 n _ _ m)) ?_
    refine zw_ite (fun h => ?_) (fun h => ?_)
    · exact zy_18_52 n hp hN hT hW h2 h7 ⟨hpq, hl, Or.inl (by omega)⟩
    refine zw_if ⟨by omega, by omega⟩ ?_
    refine zw_ite (fun ha => go (by omega) (Or.inl (by rw [← hT]; exact ha))) (fun ha => ?_)
    refine zw_if ⟨by omega, by omega⟩ ?_
    refine zw_ite (fun hb => ?_) (fun hb => go (by omega) (Or.inr (by rw [← hT]; omega)))
    exact zy_18_52 n hp hN hT hW h2 h7 ⟨hpq, hl, Or.inr (fun q => by unfold zbla at q; rw [← hT] at q; omega)⟩
theorem zy_18 (n : Nat) {m : zu_m} (h3 : 0 ≤ m 45 3 ∧ m 45 3 ≤ 700) (hN : m 45 2 ≤ 700) : zw (zu_call (zt_T n) 18 [(22, 45)] m) (fun _ m' => zTC (m 4) (m 46) (m 45 2) (m 45 3) (m' 45 4) (m' 45 5) (m' 45 6) (m' 45 3)) := by
  show zw (zu_ex (zt_T n) 18 0 [(22, 45)] [] m) _
  exact zy_18_0 n h3.1 hN 702 m rfl rfl rfl (by omega) h3.2 (fun i i0 i1 => by exfalso; omega) (by omega)
