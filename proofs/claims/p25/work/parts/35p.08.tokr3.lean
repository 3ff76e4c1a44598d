def zWdR (t : Int → Int) (p q k w : Int) : Prop := (k = 1 ∧ 0 ≤ w ∧ w < 33 ∧ zMt t p q w.toNat) ∨ ((∀ i : Nat, i < 33 → ¬ zMt t p q i) ∧ ((6 < q - p ∧ k = 6) ∨ (q - p ≤ 6 ∧ k = 2 ∧ w = zpk t p (q - p).toNat)))
def zTR (t : Int → Int) (n p k w pl q : Int) : Prop := zEnd (zbla t) n p pl ∧ ((n = pl ∧ k = 0 ∧ q = pl) ∨ (pl < n ∧ zlet t pl ∧ zEnd (zlet t) n pl q ∧ zWdR t pl q k w) ∨ (pl < n ∧ zdig t pl ∧ zEnd (zdig t) n pl q ∧ k = 3 ∧ w = zdR t pl (q - pl).toNat) ∨ (pl < n ∧ ¬ zlet t pl ∧ ¬ zdig t pl ∧ zSgR (t pl) (if pl + 1 < n then t (pl + 1) else 0) k w (q - pl)))
theorem zy_89_213 (n : Nat) {T : Int → Int} {N p : Int} (hp : 0 ≤ p) (hN : N ≤ 700) : ∀ (k : Nat) (m : zu_m), m 191 = T → m 190 6 = N → m 190 10 = p → m 190 8 = 3 → p ≤ m 190 7 → m 190 7 ≤ 700 → (∀ i, p ≤ i → i < m 190 7 → i < N ∧ zdig T i) → m 190 9 = zdR T p (m 190 7 - p).toNat → 700 - m 190 7 < (k : Int) → zw (zu_ex (zt_T n) 89 213 [(40, 190)] [] m) (fun _ m' => zfr [(28, 8), (28, 9), (28, 10), (28, 11)] m m' ∧ zEnd (zdig T) N p (m' 190 7) ∧ m' 190 10 = p ∧ m' 190 8 = 3 ∧ m' 190 9 = zdR T p (m' 190 7 - p).toNat) := by
  intro k
  induction k with
  | zero => intro m h1 h2 h3 h4 h5 h6 h7 h8 h9; exfalso; omega
  | succ k ih =>
    intro m hT h2 h6 h4 hpq hq hl hv hk
    refine zw_eq (zu_rega_at (zt_T n) (zm_89 n) (zdp_89 n) _ _ _ _ _ _ (zs_89_213 n _ _ m)) ?_
    refine zw_bd (zw_mono (zy_88 n (a := m 190 7) (m := m) (by omega) (by omega)) (fun v s hs => ?_))
    obtain ⟨rfl, hs⟩ := hs
    refine zw_ite (fun h => ?_) (fun h => ?_)
    · rcases hs with ⟨q, -⟩ | ⟨-, hs⟩
      · exfalso; omega
      · refine zw_some ⟨zfr_rf _ _, ⟨hpq, hl, ?_⟩, h6, h4, hv⟩
        rcases hs with hs | hs
        · exact Or.inl (by omega)
        · exact Or.inr (by rw [← hT]; exact hs)
    obtain ⟨-, hlt, hdig⟩ : v = 1 ∧ s 190 7 < s 190 6 ∧ zdig (s 191) (s 190 7) := by
      rcases hs with hs | ⟨q, -⟩
      · exact hs
      · exact absurd q h
    have hb2 := (zdCR (t := T) (p := p) (s 190 7 - p).toNat (fun i hi => (hl (p + (i : Int)) (by omega) (by omega)).2)).2
    rw [← hv] at hb2
    have ej : s 190 7 = p + (((s 190 7 - p).toNat : Nat) : Int) := by omega
    have w2 := zu_w32_id (z := s 190 7 + 1) (by omega) (by omega)
    have en : (s 190 7 + 1 - p).toNat = (s 190 7 - p).toNat + 1 := by omega
    have hdd : 48 ≤ s 191 (s 190 7) ∧ s 191 (s 190 7) ≤ 57 := hdig
    rw [hT] at hdig
    have go : ∀ (y : Int) (m0 : zu_m), zu_up s 190 9 y = m0 → y = zdR T p ((s 190 7 - p).toNat + 1) → zw (zu_ex (zt_T n) 89 213 [(40, 190)] [] (zu_up m0 190 7 (zu_w32 ((m0 190 7) + 1)))) (fun _ m' => zfr [(28, 8), (28, 9), (28, 10), (28, 11)] s m' ∧ zEnd (zdig T) N p (m' 190 7) ∧ m' 190 10 = p ∧ m' 190 8 = 3 ∧ m' 190 9 = zdR T p (m' 190 7 - p).toNat) := fun y m0 hm0 hy => by
      have d3 : m0 190 7 = s 190 7 := by rw [← hm0]; simp [zu_up_app]
      rw [d3, w2]
      generalize hm1 : zu_up m0 190 7 (s 190 7 + 1) = m1
      have e4 : m1 191 = s 191 := by rw [← hm1, ← hm0]; funext i; simp [zu_up_app]
      have e2 : m1 190 6 = s 190 6 := by rw [← hm1, ← hm0]; simp [zu_up_app]
      have e6 : m1 190 10 = s 190 10 := by rw [← hm1, ← hm0]; simp [zu_up_app]
      have e44 : m1 190 8 = s 190 8 := by rw [← hm1, ← hm0]; simp [zu_up_app]
      have e5 : m1 190 9 = y := by rw [← hm1, ← hm0]; simp [zu_up_app]
      have e3 : m1 190 7 = s 190 7 + 1 := by rw [← hm1]; simp [zu_up_app]
      have hf1 : zfr [(28, 8), (28, 10)] s m1 := zfr_up hm1 (zfr_up hm0 (zfr_rf _ _) zq_190 rfl) zq_190 rfl
      refine zw_mono (ih m1 (e4.trans hT) (e2.trans h2) (e6.trans h6) (e44.trans h4) (by omega) (by omega) (fun i i0 i1 => ?_) (by rw [e3, en, e5]; exact hy) (by omega)) (fun _ m' hs => ⟨zfr_tr (zfr_tr (zfr_rf _ s) hf1 rfl) hs.1 rfl, hs.2⟩)
      by_cases e : i = s 190 7
      · rw [e]; exact ⟨by omega, hdig⟩
      · exact hl i i0 (by omega)
    refine zw_ite (fun hc => ?_) (fun hc => ?_)
    · refine zw_if ⟨by omega, by omega⟩ ?_
      refine go _ _ rfl ?_
      have w3 := zu_w32_id (z := 10 * s 190 9) (by omega) (by omega)
      have w4 := zu_w32_id (z := zu_w32 (10 * s 190 9) + s 191 (s 190 7)) (by omega) (by omega)
      have w5 := zu_w32_id (z := zu_w32 (zu_w32 (10 * s 190 9) + s 191 (s 190 7)) - 48) (by omega) (by omega)
      unfold zdR
      rw [← hv, if_pos hc, ← ej, ← hT]
      omega
    · refine go _ _ rfl ?_
      unfold zdR
      rw [← hv, if_neg hc]
theorem zy_89_114 (n : Nat) {T : Int → Int} {N p : Int} {m : zu_m} (hp : 0 ≤ p) (hN : N ≤ 700) (hT : m 191 = T) (hW : zR_W2 m) (h2 : m 190 6 = N) (h6 : m 190 10 = p) (h7 : m 190 7 ≤ 700) (hE : zEnd (zlet T) N p (m 190 7)) : zw (zu_ex (zt_T n) 89 114 [(40, 190)] [] m) (fun _ m' => zfr [(28, 8), (28, 9), (28, 10), (28, 11)] m m' ∧ zEnd (zlet T) N p (m' 190 7) ∧ m' 190 10 = p ∧ zWdR T p (m' 190 7) (m' 190 8) (m' 190 9)) := by
  have hpq := hE.1
  refine zw_eq (zu_rega_at (zt_T n) (zm_89 n) (zdp_89 n) _ _ _ _ _ _ (zs_89_114 n _ _ m)) ?_
  refine zw_bd (zw_mono (zy_86 n (a := m 190 10) (b := m 190 7) (m := m) (by omega) (by omega) (by omega) hW) (fun v s hs => ?_))
  obtain ⟨rfl, hs⟩ := hs
  rw [h6, hT] at hs
  generalize hq : s 190 7 = q at *
  have d9 : (zu_up s 190 9 v) 190 9 = v := by simp [zu_up_app]
  have d7 : (zu_up s 190 9 v) 190 7 = q := by rw [← hq]; simp [zu_up_app]
  have d10 : (zu_up s 190 9 v) 190 10 = p := by rw [← h6]; simp [zu_up_app]
  have d191 : (zu_up s 190 9 v) 191 = T := by rw [← hT]; funext i; simp [zu_up_app]
  have d6 : (zu_up s 190 9 v) 190 6 = N := by rw [← h2]; simp [zu_up_app]
  generalize hm1 : zu_up s 190 9 v = m1 at *
  rw [d9, d7, d10]
  have w1 := zu_w32_id (z := q - p) (by omega) (by omega)
  have hf1 : zfr [(28, 10)] s m1 := zfr_up hm1 (zfr_rf _ _) zq_190 rfl
  have fin : ∀ kk : Int, ((kk = 1 ∧ 0 ≤ v ∧ v < 33 ∧ zMt T p q v.toNat) ∨ ((∀ i : Nat, i < 33 → ¬ zMt T p q i) ∧ 6 < q - p ∧ kk = 6)) → (fun (_ : Int) (m' : zu_m) => zfr [(28, 8), (28, 9), (28, 10), (28, 11)] s m' ∧ zEnd (zlet T) N p (m' 190 7) ∧ m' 190 10 = p ∧ zWdR T p (m' 190 7) (m' 190 8) (m' 190 9)) 0 (zu_up m1 190 8 kk) := fun kk h => by
    have f7 : zu_up m1 190 8 kk 190 7 = q := by rw [← d7]; simp [zu_up_app]
    have f8 : zu_up m1 190 8 kk 190 8 = kk := by simp [zu_up_app]
    have f9 : zu_up m1 190 8 kk 190 9 = v := by rw [← d9]; simp [zu_up_app]
    have f10 : zu_up m1 190 8 kk 190 10 = p := by rw [← d10]; simp [zu_up_app]
    show zfr [(28, 8), (28, 9), (28, 10), (28, 11)] s (zu_up m1 190 8 kk) ∧ zEnd (zlet T) N p (zu_up m1 190 8 kk 190 7) ∧ zu_up m1 190 8 kk 190 10 = p ∧ zWdR T p (zu_up m1 190 8 kk 190 7) (zu_up m1 190 8 kk 190 8) (zu_up m1 190 8 kk 190 9)
    rw [f7, f8, f9, f10]
    refine ⟨zfr_up rfl (zfr_tr (zfr_rf _ s) hf1 rfl) zq_190 rfl, hE, rfl, ?_⟩
    rcases h with h | ⟨h1, h2⟩
    · exact Or.inl h
    · exact Or.inr ⟨h1, Or.inl h2⟩
  refine zw_ite (fun hv => ?_) (fun hv => ?_)
  · obtain ⟨hv1, hno⟩ : v = -1 ∧ ∀ k : Nat, k < 33 → ¬ zMt T p q k := by
      rcases hs with hs | hs
      · exact hs
      · exfalso; omega
    refine zw_ite (fun h => ?_) (fun h => ?_)
    · have f8 : zu_up m1 190 8 2 190 8 = 2 := by simp [zu_up_app]
      have f7 : zu_up m1 190 8 2 190 7 = q := by rw [← d7]; simp [zu_up_app]
      have f10 : zu_up m1 190 8 2 190 10 = p := by rw [← d10]; simp [zu_up_app]
      have f191 : zu_up m1 190 8 2 191 = T := by rw [← d191]; funext i; simp [zu_up_app]
      rw [f8, f7, f10]
      refine zw_ite (fun q => absurd rfl q) (fun _ => ?_)
      generalize hm2 : zu_up m1 190 8 2 = m2 at *
      refine zw_bd (zw_mono (zy_91 n (a := p) (b := q) (m := m2) hp (by omega) (fun i i0 i1 => by rw [f191]; exact (hE.2.1 i i0 i1).2) (by omega) hpq (by omega)) (fun u s2 hs2 => ?_))
      obtain ⟨rfl, hu⟩ := hs2
      rw [f191] at hu
      have g7 : zu_up s2 190 9 u 190 7 = q := by rw [← f7]; simp [zu_up_app]
      have g8 : zu_up s2 190 9 u 190 8 = 2 := by rw [← f8]; simp [zu_up_app]
      have g9 : zu_up s2 190 9 u 190 9 = u := by simp [zu_up_app]
      have g10 : zu_up s2 190 9 u 190 10 = p := by rw [← f10]; simp [zu_up_app]
      refine zw_some ?_
      rw [g7, g8, g9, g10]
      exact ⟨zfr_up rfl (zfr_up hm2 (zfr_tr (zfr_rf _ s) hf1 rfl) zq_190 rfl) zq_190 rfl, hE, rfl, Or.inr ⟨hno, Or.inr ⟨by omega, rfl, hu⟩⟩⟩
    · have f8 : zu_up m1 190 8 6 190 8 = 6 := by simp [zu_up_app]
      rw [f8]
      refine zw_ite (fun _ => zw_some (fin 6 (Or.inr ⟨hno, by omega, rfl⟩))) (fun q => ?_)
      exfalso; omega
  · have f8 : zu_up m1 190 8 1 190 8 = 1 := by simp [zu_up_app]
    rw [f8]
    refine zw_ite (fun _ => zw_some (fin 1 (Or.inl ⟨rfl, ?_⟩))) (fun q => ?_)
    · rcases hs with ⟨q, -⟩ | hs
      · exfalso; omega
      · exact hs
    · exfalso; omega
theorem zy_89_90 (n : Nat) {T : Int → Int} {N p : Int} (hp : 0 ≤ p) (hN : N ≤ 700) : ∀ (k : Nat) (m : zu_m), m 191 = T → zR_W2 m → m 190 6 = N → m 190 10 = p → p ≤ m 190 7 → m 190 7 ≤ 700 → (∀ i, p ≤ i → i < m 190 7 → i < N ∧ zlet T i) → 700 - m 190 7 < (k : Int) → zw (zu_ex (zt_T n) 89 90 [(40, 190)] [] m) (fun _ m' => zfr [(28, 8), (28, 9), (28, 10), (28, 11)] m m' ∧ zEnd (zlet T) N p (m' 190 7) ∧ m' 190 10 = p ∧ zWdR T p (m' 190 7) (m' 190 8) (m' 190 9)) := by
  intro k
  induction k with
  | zero => intro m h1 h2 h3 h4 h5 h6 h7 h8; exfalso; omega
  | succ k ih =>
    intro m hT hW h2 h6 hpq hq hl hk
    refine zw_eq (zu_rega_at (zt_T n) (zm_89 n) (zdp_89 n) _ _ _ _ _ _ (zs_89_90 n _ _ m)) ?_
    refine zw_bd (zw_mono (zy_87 n (a := m 190 7) (m := m) (by omega) (by omega)) (fun v s hs => ?_))
    obtain ⟨rfl, hs⟩ := hs
    refine zw_ite (fun h => ?_) (fun h => ?_)
    · rcases hs with ⟨q, -⟩ | ⟨-, hs⟩
      · exfalso; omega
      · refine zy_89_114 n hp hN hT hW h2 h6 hq ⟨hpq, hl, ?_⟩
        rcases hs with hs | hs
        · exact Or.inl (by omega)
        · exact Or.inr (by rw [← hT]; exact hs)
    obtain ⟨-, hlt, hlet⟩ : v = 1 ∧ s 190 7 < s 190 6 ∧ zlet (s 191) (s 190 7) := by
      rcases hs with hs | ⟨q, -⟩
      · exact hs
      · exact absurd q h
    rw [hT] at hlet
    have w2 := zu_w32_id (z := s 190 7 + 1) (by omega) (by omega)
    rw [w2]
    generalize hm1 : zu_up s 190 7 (s 190 7 + 1) = m1
    have e4 : m1 191 = s 191 := by rw [← hm1]; funext i; simp [zu_up_app]
    have e192 : m1 192 = s 192 := by rw [← hm1]; funext i; simp [zu_up_app]
    have e2 : m1 190 6 = s 190 6 := by rw [← hm1]; simp [zu_up_app]
    have e6 : m1 190 10 = s 190 10 := by rw [← hm1]; simp [zu_up_app]
    have e3 : m1 190 7 = s 190 7 + 1 := by rw [← hm1]; simp [zu_up_app]
    have hf1 : zfr [(28, 8)] s m1 := zfr_up hm1 (zfr_rf _ _) zq_190 rfl
    refine zw_mono (ih m1 (e4.trans hT) (fun i i0 i1 => by rw [e192]; exact hW i i0 i1) (e2.trans h2) (e6.trans h6) (by omega) (by omega) (fun i i0 i1 => ?_) (by omega)) (fun _ m' hs => ⟨zfr_tr (zfr_tr (zfr_rf _ s) hf1 rfl) hs.1 rfl, hs.2⟩)
    by_cases e : i = s 190 7
    · rw [e]; exact ⟨by omega, hlet⟩
    · exact hl i i0 (by omega)
theorem zy_89_52 (n : Nat) {T : Int → Int} {N p : Int} {m : zu_m} (hp : 0 ≤ p) (hN : N ≤ 700) (hT : m 191 = T) (hW : zR_W2 m) (h2 : m 190 6 = N) (h7 : m 190 7 ≤ N) (hE : zEnd (zbla T) N p (m 190 7)) : zw (zu_ex (zt_T n) 89 52 [(40, 190)] [] m) (fun _ m' => zfr [(28, 8), (28, 9), (28, 10), (28, 11)] m m' ∧ zTR T N p (m' 190 8) (m' 190 9) (m' 190 10) (m' 190 7)) := by
  have hpq := hE.1
  refine zw_eq (zu_rega_at (zt_T n) (zm_89 n) (zdp_89 n) _ _ _ _ _ _ (zs_89_52 n _ _ m)) ?_
  generalize hm1 : zu_up m 190 10 (m 190 7) = m1
  have hf1 : zfr [(28, 11)] m m1 := zfr_up hm1 (zfr_rf _ _) zq_190 rfl
  have e4 : m1 191 = T := by rw [← hT, ← hm1]; funext i; simp [zu_up_app]
  have e192 : m1 192 = m 192 := by rw [← hm1]; funext i; simp [zu_up_app]
  have hW1 : zR_W2 m1 := fun i i0 i1 => by rw [e192]; exact hW i i0 i1
  have e2 : m1 190 6 = N := by rw [← h2, ← hm1]; simp [zu_up_app]
  have e3 : m1 190 7 = m 190 7 := by rw [← hm1]; simp [zu_up_app]
  have e6 : m1 190 10 = m 190 7 := by rw [← hm1]; simp [zu_up_app]
  generalize hpl : m 190 7 = pl at *
  rw [e3, e2]
  refine zw_ite (fun h => ?_) (fun h => ?_)
  · refine zw_eq (zu_rega_at (zt_T n) (zm_89 n) (zdp_89 n) _ _ _ _ _ _ (zs_89_79 n _ _ m1)) ?_
    refine zw_bd (zw_mono (zy_87 n (a := m1 190 7) (m := m1) (by omega) (by omega)) (fun v s hs => ?_))
    obtain ⟨rfl, hs⟩ := hs
    rw [e3, e2, e4] at hs
    refine zw_ite (fun hv => ?_) (fun hv => ?_)
    · have hnl : ¬ zlet T pl := by
        rcases hs with ⟨q, -⟩ | ⟨-, hs⟩
        · exfalso; omega
        · rcases hs with hs | hs
          · exfalso; omega
          · exact hs
      refine zw_eq (zu_rega_at (zt_T n) (zm_89 n) (zdp_89 n) _ _ _ _ _ _ (zs_89_192 n _ _ s)) ?_
      refine zw_bd (zw_mono (zy_88 n (a := s 190 7) (m := s) (by omega) (by omega)) (fun v2 s2 hs2 => ?_))
      obtain ⟨rfl, hs2⟩ := hs2
      rw [e3, e2, e4] at hs2
      refine zw_ite (fun hv2 => ?_) (fun hv2 => ?_)
      · have hnd : ¬ zdig T pl := by
          rcases hs2 with ⟨q, -⟩ | ⟨-, hs2⟩
          · exfalso; omega
          · rcases hs2 with hs2 | hs2
            · exfalso; omega
            · exact hs2
        refine zw_bd (zw_mono (zy_90 n (m := s2) (by omega) (by omega) (by omega)) (fun _ s3 hs3 => ?_))
        obtain ⟨gf, g1, g2⟩ := hs3
        rw [e3, e4, e2] at g2
        rw [e6] at g1
        exact zw_some ⟨zfr_tr (zfr_tr (zfr_rf _ m) hf1 rfl) gf rfl, by rw [g1]; exact hE, Or.inr (Or.inr (Or.inr ⟨by omega, by rw [g1]; exact hnl, by rw [g1]; exact hnd, by rw [g1]; exact g2⟩))⟩
      · have hdg : zdig T pl := by
          rcases hs2 with hs2 | ⟨q, -⟩
          · exact hs2.2.2
          · exact absurd q hv2
        generalize hm3 : zu_up (zu_up s2 190 8 3) 190 9 0 = m3
        have f4 : m3 191 = T := by rw [← e4, ← hm3]; funext i; simp [zu_up_app]
        have f2 : m3 190 6 = N := by rw [← e2, ← hm3]; simp [zu_up_app]
        have f3 : m3 190 7 = pl := by rw [← e3, ← hm3]; simp [zu_up_app]
        have f6 : m3 190 10 = pl := by rw [← e6, ← hm3]; simp [zu_up_app]
        have f8 : m3 190 8 = 3 := by rw [← hm3]; simp [zu_up_app]
        have f9 : m3 190 9 = 0 := by rw [← hm3]; simp [zu_up_app]
        refine zw_mono (zy_89_213 n (T := T) (N := N) (p := pl) (by omega) hN 702 m3 f4 f2 f6 f8 (by omega) (by omega) (fun i i0 i1 => by exfalso; omega) (by rw [f9, show (m3 190 7 - pl).toNat = 0 by omega]; rfl) (by omega)) (fun _ m4 hs4 => ?_)
        obtain ⟨gf, g1, g2, g3, g4⟩ := hs4
        have hf3 : zfr [(28, 9), (28, 10)] s2 m3 := zfr_up hm3 (zfr_up rfl (zfr_rf _ _) zq_190 rfl) zq_190 rfl
        exact ⟨zfr_tr (zfr_tr (zfr_tr (zfr_rf _ m) hf1 rfl) hf3 rfl) gf rfl, by rw [g2]; exact hE, Or.inr (Or.inr (Or.inl ⟨by omega, by rw [g2]; exact hdg, by rw [g2]; exact g1, g3, by rw [g2]; exact g4⟩))⟩
    · have hlt : zlet T pl := by
        rcases hs with hs | ⟨q, -⟩
        · exact hs.2.2
        · exact absurd q hv
      refine zw_mono (zy_89_90 n (T := T) (N := N) (p := pl) (by omega) hN 702 s e4 hW1 e2 e6 (by omega) (by omega) (fun i i0 i1 => by exfalso; omega) (by omega)) (fun _ m4 hs4 => ?_)
      obtain ⟨gf, g1, g2, g3⟩ := hs4
      exact ⟨zfr_tr (zfr_tr (zfr_rf _ m) hf1 rfl) gf rfl, by rw [g2]; exact hE, Or.inr (Or.inl ⟨by omega, by rw [g2]; exact hlt, by rw [g2]; exact g1, by rw [g2]; exact g3⟩)⟩
  · generalize hm2 : zu_up m1 190 8 0 = m2
    have f3 : m2 190 7 = pl := by rw [← e3, ← hm2]; simp [zu_up_app]
    have f6 : m2 190 10 = pl := by rw [← e6, ← hm2]; simp [zu_up_app]
    have f4 : m2 190 8 = 0 := by rw [← hm2]; simp [zu_up_app]
    exact zw_some ⟨zfr_up hm2 (zfr_tr (zfr_rf _ m) hf1 rfl) zq_190 rfl, by rw [f6]; exact hE, Or.inl ⟨by omega, f4, by omega⟩⟩
theorem zy_89_0 (n : Nat) {T : Int → Int} {N p : Int} (hp : 0 ≤ p) (hN : N ≤ 700) : ∀ (k : Nat) (m : zu_m), m 191 = T → zR_W2 m → m 190 6 = N → p ≤ m 190 7 → m 190 7 ≤ N → (∀ i, p ≤ i → i < m 190 7 → i < N ∧ zbla T i) → 700 - m 190 7 < (k : Int) → zw (zu_ex (zt_T n) 89 0 [(40, 190)] [] m) (fun _ m' => zfr [(28, 8), (28, 9), (28, 10), (28, 11)] m m' ∧ zTR T N p (m' 190 8) (m' 190 9) (m' 190 10) (m' 190 7)) := by
  intro k
  induction k with
  | zero => intro m h1 h2 h3 h4 h5 h6 h7; exfalso; omega
  | succ k ih =>
    intro m hT hW h2 hpq h7 hl hk
    have go : m 190 7 < N → zbla T (m 190 7) → zw (zu_ex (zt_T n) 89 39 [(40, 190)] [] m) (fun _ m' => zfr [(28, 8), (28, 9), (28, 10), (28, 11)] m m' ∧ zTR T N p (m' 190 8) (m' 190 9) (m' 190 10) (m' 190 7)) := fun hlt hb => by
      refine zw_eq (zu_rega_at (zt_T n) (zm_89 n) (zdp_89 n) _ _ _ _ _ _ (zs_89_39 n _ _ m)) ?_
      have w2 := zu_w32_id (z := m 190 7 + 1) (by omega) (by omega)
      rw [w2]
      generalize hm1 : zu_up m 190 7 (m 190 7 + 1) = m1
      have e4 : m1 191 = m 191 := by rw [← hm1]; funext i; simp [zu_up_app]
      have e192 : m1 192 = m 192 := by rw [← hm1]; funext i; simp [zu_up_app]
      have e2 : m1 190 6 = m 190 6 := by rw [← hm1]; simp [zu_up_app]
      have e3 : m1 190 7 = m 190 7 + 1 := by rw [← hm1]; simp [zu_up_app]
      have hf1 : zfr [(28, 8)] m m1 := zfr_up hm1 (zfr_rf _ _) zq_190 rfl
      refine zw_mono (ih m1 (e4.trans hT) (fun i i0 i1 => by rw [e192]; exact hW i i0 i1) (e2.trans h2) (by omega) (by omega) (fun i i0 i1 => ?_) (by omega)) (fun _ m' hs => ⟨zfr_tr (zfr_tr (zfr_rf _ m) hf1 rfl) hs.1 rfl, hs.2⟩)
      by_cases e : i = m 190 7
      · rw [e]; exact ⟨hlt, hb⟩
      · exact hl i i0 (by omega)
    refine zw_eq (zu_rega_at (zt_T n) (zm_89 n) (zdp_89 n) _ _ _ _ _ _ (zs_89_0 n _ _ m)) ?_
    refine zw_ite (fun h => ?_) (fun h => ?_)
    · exact zy_89_52 n hp hN hT hW h2 h7 ⟨hpq, hl, Or.inl (by omega)⟩
    refine zw_if ⟨by omega, by omega⟩ ?_
    refine zw_ite (fun ha => go (by omega) (Or.inr (by rw [← hT]; exact ha))) (fun ha => ?_)
    refine zw_if ⟨by omega, by omega⟩ ?_
    refine zw_ite (fun hb => ?_) (fun hb => go (by omega) (Or.inl (by rw [← hT]; omega)))
    exact zy_89_52 n hp hN hT hW h2 h7 ⟨hpq, hl, Or.inr (fun q => by unfold zbla at q; rw [← hT] at q; omega)⟩
theorem zy_89 (n : Nat) {m : zu_m} (h3 : 0 ≤ m 190 7 ∧ m 190 7 ≤ m 190 6) (hN : m 190 6 ≤ 700) (hW : zR_W2 m) : zw (zu_call (zt_T n) 89 [(40, 190)] m) (fun _ m' => zfr [(28, 8), (28, 9), (28, 10), (28, 11)] m m' ∧ zTR (m 191) (m 190 6) (m 190 7) (m' 190 8) (m' 190 9) (m' 190 10) (m' 190 7)) := by
  show zw (zu_ex (zt_T n) 89 0 [(40, 190)] [] m) _
  exact zy_89_0 n h3.1 hN 702 m rfl hW rfl (by omega) h3.2 (fun i i0 i1 => by exfalso; omega) (by omega)
