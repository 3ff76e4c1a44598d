/-! TOKENS side by side -/
def zKV (k v k' w : Int) : Prop :=
  (k = 0 ∧ k' = 0) ∨ (k = 1 ∧ k' = 1 ∧ 0 ≤ w ∧ w < 33 ∧ ((w = 23 ∧ v = 24) ∨ (w = 24 ∧ v = 23) ∨ (w ≠ 23 ∧ w ≠ 24 ∧ v = w))) ∨ (k = 2 ∧ k' = 2 ∧ v = w) ∨ (k = 3 ∧ k' = 3 ∧ 0 ≤ v ∧ ((v = w ∧ v ≤ 99999) ∨ (99999 < v ∧ 99999 < w))) ∨ (k = 4 ∧ k' = 4 ∧ ((v = 0 ∧ w = 59) ∨ (v = 1 ∧ w = 40) ∨ (v = 2 ∧ w = 41) ∨ (v = 3 ∧ w = 43) ∨ (v = 4 ∧ w = 45) ∨ (v = 5 ∧ w = 42) ∨ (v = 6 ∧ w = 47))) ∨ (k = 4 ∧ k' = 5 ∧ 7 ≤ v ∧ v ≤ 12 ∧ v = w + 7) ∨ (k = 5 ∧ (k' = 6 ∨ (k' = 4 ∧ w = 37)))
theorem zKV_end {k v k' w : Int} (h : k = 0) (h' : k' = 0) : zKV k v k' w := Or.inl ⟨h, h'⟩
theorem zKV_oth {k v k' w : Int} (h : k = 2) (h' : k' = 2) (hv : v = w) : zKV k v k' w := Or.inr (Or.inr (Or.inl ⟨h, h', hv⟩))
theorem zKV_dig {k v k' w : Int} (h : k = 3) (h' : k' = 3) (h0 : 0 ≤ v) (hv : (v = w ∧ v ≤ 99999) ∨ (99999 < v ∧ 99999 < w)) : zKV k v k' w := Or.inr (Or.inr (Or.inr (Or.inl ⟨h, h', h0, hv⟩)))
theorem zKV_sgn {k v k' w : Int} (h : k = 4) (h' : k' = 4) (hv : (v = 0 ∧ w = 59) ∨ (v = 1 ∧ w = 40) ∨ (v = 2 ∧ w = 41) ∨ (v = 3 ∧ w = 43) ∨ (v = 4 ∧ w = 45) ∨ (v = 5 ∧ w = 42) ∨ (v = 6 ∧ w = 47)) : zKV k v k' w := Or.inr (Or.inr (Or.inr (Or.inr (Or.inl ⟨h, h', hv⟩))))
theorem zKV_cmp {k v k' w : Int} (h : k = 4) (h' : k' = 5) (hv : 7 ≤ v ∧ v ≤ 12 ∧ v = w + 7) : zKV k v k' w := Or.inr (Or.inr (Or.inr (Or.inr (Or.inr (Or.inl ⟨h, h', hv.1, hv.2.1, hv.2.2⟩)))))
theorem zKV_bad {k v k' w : Int} (h : k = 5) (h' : k' = 6 ∨ (k' = 4 ∧ w = 37)) : zKV k v k' w := Or.inr (Or.inr (Or.inr (Or.inr (Or.inr (Or.inr ⟨h, h'⟩)))))
theorem zwC_inj_tab : (List.range 33).all (fun i => (List.range 33).all (fun j => !(decide (zwC.getD i 0 = zwC.getD j 0)) || Nat.beq i j)) = true := by decide +kernel
theorem zwC_inj {i j : Nat} (hi : i < 33) (hj : j < 33) (h : zwC.getD i 0 = zwC.getD j 0) : i = j := by
  have h1 := List.all_eq_true.mp (List.all_eq_true.mp zwC_inj_tab i (List.mem_range.mpr hi)) j (List.mem_range.mpr hj)
  rw [decide_eq_true h] at h1
  exact Nat.eq_of_beq_eq_true h1
theorem zsw_lt {k : Nat} (hk : k < 33) : zsw k < 33 := by unfold zsw; split <;> (try split) <;> omega
theorem zsw_sw (k : Nat) : zsw (zsw k) = k := by
  unfold zsw
  by_cases h1 : k = 23
  · simp [h1]
  · by_cases h2 : k = 24
    · simp [h2]
    · simp [h1, h2]
theorem zWd_rel {t W : Int → Int} {n p q k v k' w : Int} (hW : ∀ i, 0 ≤ i → i < 33 → W i = zwC.getD i.toNat 0) (hE : zEnd (zlet t) n p q) (h1 : zWdC t W p q k v) (h2 : zWdR t p q k' w) : zKV k v k' w ∧ (k = 1 ∨ k = 2 ∨ k = 5) := by
  have hpq := hE.1
  have hl : ∀ i, p ≤ i → i < q → 97 ≤ t i ∧ t i ≤ 122 := fun i i0 i1 => (hE.2.1 i i0 i1).2
  have wat : ∀ j : Nat, j < 33 → zMt t p q j → W (zsw j : Nat) = zpk t p (q - p).toNat := fun j hj hm => by
    rw [hW _ (by omega) (by have := zsw_lt hj; omega), Int.toNat_natCast, (zw_at hj).2.2.2.2.2.2]
    exact (zMt_pk hj hm).symm
  rcases h1 with ⟨a1, a2⟩ | ⟨a1, ⟨a2, a3, a4⟩ | ⟨a2, a3, a4, a5⟩⟩
  · rcases h2 with ⟨b1, b2, b3, b4⟩ | ⟨b1, ⟨b2, b3⟩ | ⟨b2, -⟩⟩
    · have c1 := (zw_at (k := w.toNat) (by omega)).2.2.2.1
      have c2 := b4.1
      exfalso; omega
    · exact ⟨zKV_bad a2 (Or.inl b3), Or.inr (Or.inr a2)⟩
    · exfalso; omega
  · rcases h2 with ⟨b1, b2, b3, b4⟩ | ⟨b1, ⟨b2, b3⟩ | ⟨b2, b3, b4⟩⟩
    · exact absurd (wat _ (by omega) b4) (a4 _ (by omega) (by have := zsw_lt (k := w.toNat) (by omega); omega))
    · exfalso; omega
    · exact ⟨zKV_oth a2 b3 (a3.trans b4.symm), Or.inr (Or.inl a2)⟩
  · rcases h2 with ⟨b1, b2, b3, b4⟩ | ⟨b1, h2⟩
    · have c1 := wat _ (by omega) b4
      have hs := zsw_lt (k := w.toNat) (by omega)
      rw [← a5, hW _ (by omega) (by omega), hW _ a3 a4, Int.toNat_natCast] at c1
      have c2 := zwC_inj hs (by omega) c1
      refine ⟨?_, Or.inl a2⟩
      have c3 : v = ((zsw w.toNat : Nat) : Int) := by omega
      have c4 : (w = 23 ∧ v = 24) ∨ (w = 24 ∧ v = 23) ∨ (w ≠ 23 ∧ w ≠ 24 ∧ v = w) := by
        rw [c3]
        unfold zsw
        by_cases e1 : w = 23
        · left; subst e1; exact ⟨rfl, by decide⟩
        · by_cases e2 : w = 24
          · right; left; subst e2; exact ⟨rfl, by decide⟩
          · right; right
            rw [if_neg (by omega), if_neg (by omega)]
            exact ⟨e1, e2, by omega⟩
      unfold zKV
      right; left
      exact ⟨a2, b1, b2, b3, c4⟩
    · have hk : zsw v.toNat < 33 := zsw_lt (by omega)
      refine absurd (zMt_of hk hpq a1 hl ?_) (b1 _ hk)
      rw [← a5, hW _ a3 a4, ← (zw_at hk).2.2.2.2.2.2, zsw_sw]
theorem zSo_60 {v : Int} (h : zSo 60 v) : v = 7 := by simpa [zSo] using h
theorem zSo_61 {v : Int} (h : zSo 61 v) : v = 9 := by simpa [zSo] using h
theorem zSo_62 {v : Int} (h : zSo 62 v) : v = 12 := by simpa [zSo] using h
theorem zSo_59 {v : Int} (h : zSo 59 v) : v = 0 := by simpa [zSo] using h
theorem zSo_40 {v : Int} (h : zSo 40 v) : v = 1 := by simpa [zSo] using h
theorem zSo_41 {v : Int} (h : zSo 41 v) : v = 2 := by simpa [zSo] using h
theorem zSo_43 {v : Int} (h : zSo 43 v) : v = 3 := by simpa [zSo] using h
theorem zSo_45 {v : Int} (h : zSo 45 v) : v = 4 := by simpa [zSo] using h
theorem zSo_42 {v : Int} (h : zSo 42 v) : v = 5 := by simpa [zSo] using h
theorem zSo_47 {v : Int} (h : zSo 47 v) : v = 6 := by simpa [zSo] using h
theorem zSo_37 {v : Int} (h : zSo 37 v) : v = -1 := by simpa [zSo] using h
theorem zSo_no {c v : Int} (h : zSo c v) (h1 : c ≠ 59 ∧ c ≠ 40 ∧ c ≠ 41 ∧ c ≠ 43 ∧ c ≠ 45 ∧ c ≠ 42 ∧ c ≠ 47) (h2 : c ≠ 60 ∧ c ≠ 61 ∧ c ≠ 62) : v = -1 := by
  unfold zSo at h
  rcases h with h | h | h | h | h | h | h | h | h | h | h
  all_goals omega
theorem zLn_s {v d v' l : Int} (h : zLn v d v' l) (h1 : v ≠ 7) (h2 : v ≠ 12) : v' = v ∧ l = 0 := by
  unfold zLn at h
  omega
theorem zSg_rel {c d k v l k' w l' : Int} (h1 : zSgC c d k v l) (h2 : zSgR c d k' w l') : l = l' ∧ zKV k v k' w ∧ 1 ≤ l ∧ (k = 4 ∨ k = 5) := by
  obtain ⟨v0, g1, g2, g3⟩ := h1
  unfold zSgR at h2
  rcases h2 with ⟨rfl, rfl, rfl, rfl, rfl⟩ | ⟨rfl, rfl, rfl, rfl, rfl⟩ | ⟨rfl, e1, e2, rfl, rfl, rfl⟩ | ⟨rfl, rfl, rfl, rfl, rfl⟩ | ⟨rfl, e1, rfl, rfl, rfl⟩ | ⟨rfl, rfl, rfl, rfl⟩ | ⟨n1, n2, n3, rfl, rfl, h2⟩
  · have e := zSo_60 g1
    subst e
    have hk : k = 4 := by omega
    have hv : v = 8 ∧ l - 1 = 1 := by unfold zLn at g3; omega
    exact ⟨by omega, zKV_cmp hk rfl (by omega), by omega, Or.inl hk⟩
  · have e := zSo_60 g1
    subst e
    have hk : k = 4 := by omega
    have hv : v = 10 ∧ l - 1 = 1 := by unfold zLn at g3; omega
    exact ⟨by omega, zKV_cmp hk rfl (by omega), by omega, Or.inl hk⟩
  · have e := zSo_60 g1
    subst e
    have hk : k = 4 := by omega
    have hv : v = 7 ∧ l - 1 = 0 := by unfold zLn at g3; omega
    exact ⟨by omega, zKV_cmp hk rfl (by omega), by omega, Or.inl hk⟩
  · have e := zSo_62 g1
    subst e
    have hk : k = 4 := by omega
    have hv : v = 11 ∧ l - 1 = 1 := by unfold zLn at g3; omega
    exact ⟨by omega, zKV_cmp hk rfl (by omega), by omega, Or.inl hk⟩
  · have e := zSo_62 g1
    subst e
    have hk : k = 4 := by omega
    have hv : v = 12 ∧ l - 1 = 0 := by unfold zLn at g3; omega
    exact ⟨by omega, zKV_cmp hk rfl (by omega), by omega, Or.inl hk⟩
  · have e := zSo_61 g1
    subst e
    have hk : k = 4 := by omega
    obtain ⟨hv, hl⟩ := zLn_s g3 (by decide) (by decide)
    exact ⟨by omega, zKV_cmp hk rfl (by omega), by omega, Or.inl hk⟩
  · have sg : ∀ x : Int, v0 = x → x ≠ -1 → x ≠ 7 → x ≠ 12 → k' = 4 → ((x = 0 ∧ w = 59) ∨ (x = 1 ∧ w = 40) ∨ (x = 2 ∧ w = 41) ∨ (x = 3 ∧ w = 43) ∨ (x = 4 ∧ w = 45) ∨ (x = 5 ∧ w = 42) ∨ (x = 6 ∧ w = 47)) → l = 1 ∧ zKV k v k' w ∧ 1 ≤ l ∧ (k = 4 ∨ k = 5) := fun x hx x1 x2 x3 hk' hw => by
      subst hx
      obtain ⟨hv, hl⟩ := zLn_s g3 x2 x3
      have hk : k = 4 := by
        rcases g2 with ⟨q, -⟩ | ⟨-, q⟩
        · exact absurd q x1
        · exact q
      subst hv
      exact ⟨by omega, zKV_sgn hk hk' hw, by omega, Or.inl hk⟩
    have bd : v0 = -1 → (k' = 6 ∨ (k' = 4 ∧ w = 37)) → l = 1 ∧ zKV k v k' w ∧ 1 ≤ l ∧ (k = 4 ∨ k = 5) := fun hx hb => by
      subst hx
      obtain ⟨hv, hl⟩ := zLn_s g3 (by decide) (by decide)
      have hk : k = 5 := by
        rcases g2 with ⟨-, q⟩ | ⟨q, -⟩
        · exact q
        · exact absurd rfl q
      exact ⟨by omega, zKV_bad hk hb, by omega, Or.inr hk⟩
    rcases h2 with ⟨hk', h2⟩ | ⟨hk', m1, m2, m3, m4, m5, m6, m7, m8⟩
    · rcases h2 with rfl | rfl | rfl | rfl | rfl | rfl | rfl | rfl
      · exact sg 0 (zSo_59 g1) (by decide) (by decide) (by decide) hk' (by decide)
      · exact sg 1 (zSo_40 g1) (by decide) (by decide) (by decide) hk' (by decide)
      · exact sg 2 (zSo_41 g1) (by decide) (by decide) (by decide) hk' (by decide)
      · exact sg 3 (zSo_43 g1) (by decide) (by decide) (by decide) hk' (by decide)
      · exact sg 4 (zSo_45 g1) (by decide) (by decide) (by decide) hk' (by decide)
      · exact sg 5 (zSo_42 g1) (by decide) (by decide) (by decide) hk' (by decide)
      · exact sg 6 (zSo_47 g1) (by decide) (by decide) (by decide) hk' (by decide)
      · exact bd (zSo_37 g1) (Or.inr ⟨hk', rfl⟩)
    · exact bd (zSo_no g1 ⟨m1, m2, m3, m4, m5, m6, m7⟩ ⟨n1, n2, n3⟩) (Or.inl hk')
theorem zTok_rel {t W : Int → Int} {n p k v pl q k' w pl' q' : Int} (hW : ∀ i, 0 ≤ i → i < 33 → W i = zwC.getD i.toNat 0) (h1 : zTC t W n p k v pl q) (h2 : zTR t n p k' w pl' q') : pl = pl' ∧ q = q' ∧ zKV k v k' w ∧ p ≤ pl ∧ pl ≤ q ∧ ((k = 0 ∧ n ≤ pl) ∨ (k ≠ 0 ∧ pl < n ∧ pl < q)) := by
  obtain ⟨e1, h1⟩ := h1
  obtain ⟨e2, h2⟩ := h2
  have ep := zEnd_uq e1 e2
  subst ep
  have hp := e1.1
  refine ⟨rfl, ?_⟩
  rcases h1 with ⟨a1, a2, a3⟩ | ⟨a1, a2, a3, a4⟩ | ⟨a1, a2, a3, a4, a5⟩ | ⟨a1, a2, a3, a4⟩
  · rcases h2 with ⟨b1, b2, b3⟩ | ⟨b1, -⟩ | ⟨b1, -⟩ | ⟨b1, -⟩
    · exact ⟨a3.trans b3.symm, zKV_end a2 b2, hp, by omega, Or.inl ⟨a2, a1⟩⟩
    · exfalso; omega
    · exfalso; omega
    · exfalso; omega
  · rcases h2 with ⟨b1, b2, b3⟩ | ⟨b1, b2, b3, b4⟩ | ⟨b1, b2, -⟩ | ⟨b1, b2, -⟩
    · exfalso; omega
    · have eq := zEnd_uq a3 b3
      subst eq
      obtain ⟨r1, r2⟩ := zWd_rel hW a3 a4 b4
      have hlt : pl < q := by
        rcases Int.lt_or_le pl q with g | g
        · exact g
        · have eq2 : q = pl := Int.le_antisymm g a3.1
          rcases a3.2.2 with g2 | g2
          · exfalso; omega
          · rw [eq2] at g2; exact absurd a2 g2
      exact ⟨rfl, r1, hp, by omega, Or.inr ⟨by omega, a1, hlt⟩⟩
    · exfalso; unfold zlet at a2; unfold zdig at b2; omega
    · exact absurd a2 b2
  · rcases h2 with ⟨b1, b2, b3⟩ | ⟨b1, b2, -⟩ | ⟨b1, b2, b3, b4, b5⟩ | ⟨b1, -, b2, -⟩
    · exfalso; omega
    · exfalso; unfold zdig at a2; unfold zlet at b2; omega
    · have eq := zEnd_uq a3 b3
      subst eq
      have hpq := a3.1
      have hlt : pl < q := by
        rcases Int.lt_or_le pl q with g | g
        · exact g
        · have eq2 : q = pl := Int.le_antisymm g a3.1
          rcases a3.2.2 with g2 | g2
          · exfalso; omega
          · rw [eq2] at g2; exact absurd a2 g2
      obtain ⟨r1, r2, -⟩ := zdCR (t := t) (p := pl) (q - pl).toNat (fun i hi => (a3.2.1 (pl + (i : Int)) (by omega) (by omega)).2)
      rw [← a5, ← b5] at r1
      rw [← a5] at r2
      exact ⟨rfl, zKV_dig a4 b4 r2 r1, hp, by omega, Or.inr ⟨by omega, a1, hlt⟩⟩
    · exact absurd a2 b2
  · rcases h2 with ⟨b1, b2, b3⟩ | ⟨b1, b2, -⟩ | ⟨b1, b2, -⟩ | ⟨b1, b2, b3, b4⟩
    · exfalso; omega
    · exact absurd b2 a2
    · exact absurd b2 a3
    · obtain ⟨r1, r2, r3, r4⟩ := zSg_rel a4 b4
      exact ⟨by omega, r2, hp, by omega, Or.inr ⟨by omega, a1, by omega⟩⟩
theorem zp_tok (n : Nat) {m t : zu_m} (hIm : zi_I m) (hIt : zi_I t) (hNS : zR_NS t) (hWD : zR_WD t) (hW1 : zR_W1 m) (hW2 : zR_W2 t) (hT : m 4 = t 191) (hL : m 45 2 = t 190 6) (hA : m 45 3 = t 190 7) : zw (zu_call (zt_T n) 18 [(22, 45)] m) (fun _ m' => zw (zu_call (zt_T n) 89 [(40, 190)] t) (fun _ t' => m' 45 3 = t' 190 7 ∧ m' 45 6 = t' 190 10 ∧ zKV (m' 45 4) (m' 45 5) (t' 190 8) (t' 190 9) ∧ m 45 3 ≤ m' 45 6 ∧ m' 45 6 ≤ m' 45 3 ∧ ((m' 45 4 = 0 ∧ m 45 2 ≤ m' 45 6) ∨ (m' 45 4 ≠ 0 ∧ m' 45 6 < m 45 2 ∧ m' 45 6 < m' 45 3)))) := by
  have b2 := zi_rd hIm zq_45 zb_9_2
  have b3 := zi_rd hIm zq_45 zb_9_3
  have c6 := zi_rd hIt zq_190 zb_28_6
  have c7 := zi_rd hIt zq_190 zb_28_7
  have hns := hNS 190 zq_190
  refine zw_mono2 (zw_two (zy_18 n (m := m) b3 b2.2) (zy_89 n (m := t) ⟨c7.1, hns⟩ c6.2 hW2)) (fun v m' w t' h => ?_)
  obtain ⟨h1, -, h2⟩ := h
  rw [← hT, ← hL, ← hA] at h2
  obtain ⟨r1, r2, r3, r4, r5, r6⟩ := zTok_rel hW1 h1 h2
  exact ⟨r2, r1, r3, r4, r5, r6⟩
