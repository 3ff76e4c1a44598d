/-! relations between places -/
def zdis (W S : List (Nat × Nat)) : Bool := W.all (fun q => S.all (fun r => !(Nat.beq q.1 r.1 && (Nat.beq q.2 0 || Nat.beq r.2 0 || Nat.beq q.2 r.2))))
theorem zin_ex {W : List (Nat × Nat)} {c : Nat} {p : Int} (h : zin W c p = true) : ∃ q ∈ W, q.1 = c ∧ (q.2 = 0 ∨ (q.2 : Int) = p + 1) := by
  obtain ⟨q, hq, h1⟩ := List.any_eq_true.mp h
  obtain ⟨h2, h3⟩ := Bool.and_eq_true_iff.mp h1
  refine ⟨q, hq, Nat.eq_of_beq_eq_true h2, ?_⟩
  rcases Bool.or_eq_true_iff.mp h3 with h4 | h4
  · exact Or.inl (Nat.eq_of_beq_eq_true h4)
  · exact Or.inr (of_decide_eq_true h4)
theorem zdis_fr {W S : List (Nat × Nat)} {m m' : zu_m} (hf : zfr W m m') (hd : zdis W S = true) : ∀ (a p : Int), zin S (zcls a) p = true → m' a p = m a p := by
  intro a p hs
  refine hf a p ?_
  cases hw : zin W (zcls a) p with
  | false => rfl
  | true =>
    obtain ⟨q, hq, h1, h2⟩ := zin_ex hw
    obtain ⟨r, hr, h3, h4⟩ := zin_ex hs
    have h5 := List.all_eq_true.mp (List.all_eq_true.mp hd q hq) r hr
    have h6 : Nat.beq q.1 r.1 = true := by rw [h1, h3]; exact Nat.beq_refl _
    have h7 : (Nat.beq q.2 0 || Nat.beq r.2 0 || Nat.beq q.2 r.2) = true := by
      rcases h2 with h2 | h2
      · rw [h2]; rfl
      · rcases h4 with h4 | h4
        · rw [h4]; cases Nat.beq q.2 0 <;> rfl
        · have : q.2 = r.2 := by omega
          rw [this, Nat.beq_refl]
          cases (Nat.beq r.2 0 || Nat.beq r.2 0) <;> rfl
    rw [h6, h7] at h5
    cases h5
def zR_K54 (m : zu_m) : Prop := ∀ (a i : Int), zcls a = 12 → 0 ≤ i → i < 64 → m (a + 1) i = 17 → 0 ≤ m (a + 2) i ∧ m (a + 2) i ≤ 6
theorem zR_K54_fr {m m' : zu_m} (h : ∀ (a p : Int), zin [(52, 0), (53, 0)] (zcls a) p = true → m' a p = m a p) (hr : zR_K54 m) : zR_K54 m' := fun a i ha h0 h1 hk => by
  rw [h (a + 1) i (by rw [zc_12_0 ha]; rfl)] at hk
  rw [h (a + 2) i (by rw [zc_12_1 ha]; rfl)]
  exact hr a i ha h0 h1 hk
def zR_K10 (m : zu_m) : Prop := ∀ (a i : Int), zcls a = 5 → 0 ≤ i → i < 64 → m (a + 1) i = 17 → 0 ≤ m (a + 2) i ∧ m (a + 2) i ≤ 6
theorem zR_K10_fr {m m' : zu_m} (h : ∀ (a p : Int), zin [(33, 0), (34, 0)] (zcls a) p = true → m' a p = m a p) (hr : zR_K10 m) : zR_K10 m' := fun a i ha h0 h1 hk => by
  rw [h (a + 1) i (by rw [zc_5_0 ha]; rfl)] at hk
  rw [h (a + 2) i (by rw [zc_5_1 ha]; rfl)]
  exact hr a i ha h0 h1 hk
theorem zone_54 {a : Int} (h : zcls a = 12) : a = 54 := by
  obtain ⟨n, rfl, hn, h1⟩ := zcls_inv h (by decide)
  have h2 : (List.range 234).all (fun n => !(Nat.beq (zt_clz.getD n 0) 12) || Nat.beq n 54) = true := by decide +kernel
  have h3 := List.all_eq_true.mp h2 n (List.mem_range.mpr hn)
  rw [h1] at h3
  exact congrArg Int.ofNat (Nat.eq_of_beq_eq_true h3)
theorem zone_10 {a : Int} (h : zcls a = 5) : a = 10 := by
  obtain ⟨n, rfl, hn, h1⟩ := zcls_inv h (by decide)
  have h2 : (List.range 234).all (fun n => !(Nat.beq (zt_clz.getD n 0) 5) || Nat.beq n 10) = true := by decide +kernel
  have h3 := List.all_eq_true.mp h2 n (List.mem_range.mpr hn)
  rw [h1] at h3
  exact congrArg Int.ofNat (Nat.eq_of_beq_eq_true h3)
theorem zone_190 {a : Int} (h : zcls a = 28) : a = 190 := by
  obtain ⟨n, rfl, hn, h1⟩ := zcls_inv h (by decide)
  have h2 : (List.range 234).all (fun n => !(Nat.beq (zt_clz.getD n 0) 28) || Nat.beq n 190) = true := by decide +kernel
  have h3 := List.all_eq_true.mp h2 n (List.mem_range.mpr hn)
  rw [h1] at h3
  exact congrArg Int.ofNat (Nat.eq_of_beq_eq_true h3)
theorem zK_lay {m0 m1 m2 : zu_m} {a p q k v : Int} (hm1 : zu_up m0 (a + 1) p k = m1) (hm2 : zu_up m1 (a + 2) q v = m2) (hpq : q = p) (hk : k = 17 → (0 ≤ v ∧ v ≤ 6)) (hr : zR_K10 m0) (hc : zcls a = 5) : zR_K10 m2 := fun b i hb h0 h1 h17 => by
  have e : b = a := (zone_10 hb).trans (zone_10 hc).symm
  subst e
  subst hpq
  by_cases hi : i = q
  · subst hi
    rw [zs_ne hm2 (Or.inl (by omega)), zs_eq hm1] at h17
    rw [zs_eq hm2]
    exact hk h17
  · rw [zs_ne hm2 (Or.inl (by omega)), zs_ne hm1 (Or.inr hi)] at h17
    rw [zs_ne hm2 (Or.inr hi), zs_ne hm1 (Or.inl (by omega))]
    exact hr b i hb h0 h1 h17
theorem zK_copy {m0 m1 m2 : zu_m} {a b : Int} (hm1 : zu_cp m0 (b + 1) 0 (a + 1) 0 64 = m1) (hm2 : zu_cp m1 (b + 2) 0 (a + 2) 0 64 = m2) (hr : zR_K10 m0) (ha : zcls a = 12) (hb : zcls b = 5) : zR_K54 m2 := fun c i hc h0 h1 h17 => by
  have e : c = a := (zone_54 hc).trans (zone_54 ha).symm
  subst e
  have ea := zone_54 ha
  have eb := zone_10 hb
  have e1 : m2 (c + 1) i = m0 (b + 1) i := by
    rw [← hm2]
    unfold zu_cp
    rw [if_neg (by omega), ← hm1]
    unfold zu_cp
    rw [if_pos (by omega)]
    congr 1
    omega
  have e2 : m2 (c + 2) i = m0 (b + 2) i := by
    rw [← hm2]
    unfold zu_cp
    rw [if_pos (by omega), ← hm1]
    unfold zu_cp
    rw [if_neg (by omega)]
    congr 1
    omega
  rw [e1] at h17
  rw [e2]
  exact hr b i hb h0 h1 h17
def zR_NS (m : zu_m) : Prop := ∀ (a : Int), zcls a = 28 → m a 7 ≤ m a 6
theorem zR_NS_fr {m m' : zu_m} (h : ∀ (a p : Int), zin [(28, 7), (28, 8)] (zcls a) p = true → m' a p = m a p) (hr : zR_NS m) : zR_NS m' := fun a ha => by
  rw [h a 7 (by rw [ha]; rfl), h a 6 (by rw [ha]; rfl)]
  exact hr a ha
theorem zR_NS_of {m : zu_m} {a : Int} (hc : zcls a = 28) (h : m a 7 ≤ m a 6) : zR_NS m := fun b hb => by
  have e : b = a := (zone_190 hb).trans (zone_190 hc).symm
  rw [e]
  exact h
def znb (m : zu_m) : Nat → Int
  | 0 => 0
  | k + 1 => znb m k + (if m 192 k = 32 then 1 else 0)
theorem znb_0 (m : zu_m) : 0 = znb m (Int.toNat 0) := rfl
theorem znb_fr {m m' : zu_m} (h : ∀ p, m' 192 p = m 192 p) : ∀ k, znb m' k = znb m k
  | 0 => rfl
  | k + 1 => by unfold znb; rw [znb_fr h k, h]
theorem znb_c {m : zu_m} {x p q : Int} (h : x = znb m p.toNat) (e : q = p) : x = znb m q.toNat := by rw [e]; exact h
theorem znb_n {m : zu_m} {x p q z : Int} (h : x = znb m p.toNat) (h0 : 0 ≤ p) (hq : q = p) (hb : m 192 q ≠ 32) (hz : z = p + 1) : x = znb m z.toNat := by
  subst hz; subst hq
  obtain ⟨k, rfl⟩ := Int.eq_ofNat_of_zero_le h0
  have e : ((k : Int) + 1).toNat = k + 1 := by omega
  rw [e]; unfold znb; rw [if_neg hb]
  have e2 : ((k : Int)).toNat = k := by omega
  rw [e2] at h; omega
theorem znb_s {m : zu_m} {x y p z : Int} (h : x = znb m p.toNat) (h0 : 0 ≤ p) (hb : m 192 p = 32) (hy : y = x + 1) (hz : z = p + 1) : y = znb m z.toNat := by
  subst hz
  obtain ⟨k, rfl⟩ := Int.eq_ofNat_of_zero_le h0
  have e : ((k : Int) + 1).toNat = k + 1 := by omega
  rw [e]; unfold znb; rw [if_pos hb]
  have e2 : ((k : Int)).toNat = k := by omega
  rw [e2] at h; omega
theorem znb_e {m : zu_m} {p q : Int} (hb : m 192 q = 32) (hq : q = p) : m 192 p = 32 := by rw [← hq]; exact hb
theorem znb_up (m : zu_m) : ∀ k, znb m k ≤ znb m (k + 1) := fun k => by
  show znb m k ≤ znb m k + (if m 192 k = 32 then 1 else 0)
  split <;> omega
theorem znb_mn (m : zu_m) (k : Nat) : ∀ d, znb m k ≤ znb m (k + d)
  | 0 => Int.le_refl _
  | d + 1 => Int.le_trans (znb_mn m k d) (znb_up m (k + d))
theorem znb_le {m : zu_m} {x p : Int} (h : x = znb m p.toNat) (hb : m 192 p = 32) (h0 : 0 ≤ p) (h1 : p ≤ 156) (hT : znb m 157 = 33) : x ≤ 32 := by
  have h2 := znb_s (y := x + 1) (z := p + 1) h h0 hb rfl rfl
  have h3 := znb_mn m (p + 1).toNat (157 - (p + 1).toNat)
  rw [show (p + 1).toNat + (157 - (p + 1).toNat) = 157 by omega, hT] at h3
  omega
def zR_WD (m : zu_m) : Prop := m 192 156 = 32 ∧ znb m 157 = 33
theorem ztap {mB mA : zu_m} {a : Int} (h1 : ∀ p, mB 191 p = mA 191 p) (h2 : mB a 7 = mA a 7) : mB 191 (mB a 7) = mA 191 (mA a 7) := by rw [h1, h2]
theorem zR_WD_fr {m m' : zu_m} (h : ∀ (a p : Int), zin [(101, 0)] (zcls a) p = true → m' a p = m a p) (hr : zR_WD m) : zR_WD m' := ⟨(h 192 156 (by rw [zq_192]; rfl)).trans hr.1, (znb_fr (fun p => h 192 p (by rw [zq_192]; rfl)) 157).trans hr.2⟩
def zR_TV (m : zu_m) : Prop := ∀ (a : Int), zcls a = 9 → m a 4 = 4 → (0 ≤ m a 5 ∧ m a 5 ≤ 12)
theorem zR_TV_fr {m m' : zu_m} (h : ∀ (a p : Int), zin [(9, 5), (9, 6)] (zcls a) p = true → m' a p = m a p) (hr : zR_TV m) : zR_TV m' := fun a ha => by
  rw [h a 4 (by rw [ha]; rfl), h a 5 (by rw [ha]; rfl)]
  exact hr a ha
theorem zone_45 {a : Int} (h : zcls a = 9) : a = 45 := by
  obtain ⟨n, rfl, hn, h1⟩ := zcls_inv h (by decide)
  have h2 : (List.range 234).all (fun n => !(Nat.beq (zt_clz.getD n 0) 9) || Nat.beq n 45) = true := by decide +kernel
  have h3 := List.all_eq_true.mp h2 n (List.mem_range.mpr hn)
  rw [h1] at h3
  exact congrArg Int.ofNat (Nat.eq_of_beq_eq_true h3)
theorem zR_TV_of {m : zu_m} {a : Int} (hc : zcls a = 9) (h : m a 4 = 4 → (0 ≤ m a 5 ∧ m a 5 ≤ 12)) : zR_TV m := fun b hb => by
  have e : b = a := (zone_45 hb).trans (zone_45 hc).symm
  rw [e]
  exact h
def zR_TR (m : zu_m) : Prop := ∀ (a : Int), zcls a = 28 → (m a 8 = 5 → (0 ≤ m a 9 ∧ m a 9 ≤ 5)) ∧ (m a 8 = 1 → (0 ≤ m a 9 ∧ m a 9 ≤ 32)) ∧ (m a 8 = 3 → 0 ≤ m a 9)
theorem zR_TR_fr {m m' : zu_m} (h : ∀ (a p : Int), zin [(28, 9), (28, 10)] (zcls a) p = true → m' a p = m a p) (hr : zR_TR m) : zR_TR m' := fun a ha => by
  rw [h a 8 (by rw [ha]; rfl), h a 9 (by rw [ha]; rfl)]
  exact hr a ha
theorem zR_TR_of {m : zu_m} {a : Int} (hc : zcls a = 28) (h : (m a 8 = 5 → (0 ≤ m a 9 ∧ m a 9 ≤ 5)) ∧ (m a 8 = 1 → (0 ≤ m a 9 ∧ m a 9 ≤ 32)) ∧ (m a 8 = 3 → 0 ≤ m a 9)) : zR_TR m := fun b hb => by
  have e : b = a := (zone_190 hb).trans (zone_190 hc).symm
  rw [e]
  exact h
def zct (f : Int → Bool) (g : Int → Int) : Nat → Int
  | 0 => 0
  | n + 1 => zct f g n + (if f (g (n : Int)) = true then 1 else 0)
theorem zct_bd (f : Int → Bool) (g : Int → Int) : ∀ n : Nat, 0 ≤ zct f g n ∧ zct f g n ≤ (n : Int)
  | 0 => ⟨by simp [zct], by simp [zct]⟩
  | n + 1 => by
    have h := zct_bd f g n
    simp only [zct]
    split <;> omega
theorem zct_le {f f' : Int → Bool} (h : ∀ v, f v = true → f' v = true) (g : Int → Int) : ∀ n : Nat, zct f g n ≤ zct f' g n
  | 0 => by simp [zct]
  | n + 1 => by
    have h1 := zct_le h g n
    have h2 := h (g (n : Int))
    simp only [zct]
    split
    · rename_i e; rw [if_pos (h2 e)]; omega
    · split <;> omega
theorem zct_cg {f : Int → Bool} {g g' : Int → Int} : ∀ {n : Nat}, (∀ i : Nat, i < n → g' (i : Int) = g (i : Int)) → zct f g' n = zct f g n
  | 0, _ => rfl
  | n + 1, h => by
    simp only [zct]
    rw [zct_cg (fun i hi => h i (by omega)), h n (by omega)]
def znz (m : zu_m) : Int := zct (fun v => decide (2 ≤ v)) (m 211) (m 190 45).toNat
def zbi (m : zu_m) : Int := zct (fun v => decide (3 ≤ v)) (m 211) (m 190 45).toNat
theorem zwt_bd {m : zu_m} {a : Int} (hI : zi_I m) (hc : zcls a = 28) : 0 ≤ zbi m ∧ zbi m ≤ znz m ∧ znz m ≤ m a 45 := by
  have e := zone_190 hc
  subst e
  have h1 := (zi_rd hI zq_190 zb_28_45).1
  have h2 := zct_bd (fun v => decide (3 ≤ v)) (m 211) (m 190 45).toNat
  have h3 := zct_bd (fun v => decide (2 ≤ v)) (m 211) (m 190 45).toNat
  have h4 := zct_le (f := fun v => decide (3 ≤ v)) (f' := fun v => decide (2 ≤ v)) (fun v h => decide_eq_true (by have := of_decide_eq_true h; omega)) (m 211) (m 190 45).toNat
  unfold zbi znz
  omega
theorem zwt_fr {m m' : zu_m} (h : ∀ (a p : Int), zin [(28, 46), (120, 0)] (zcls a) p = true → m' a p = m a p) : znz m' = znz m ∧ zbi m' = zbi m := by
  have e1 : m' 190 45 = m 190 45 := h 190 45 (by rw [zq_190]; rfl)
  have e2 : m' 211 = m 211 := by
    funext i
    exact h 211 i (by rw [zq_211]; rfl)
  unfold znz zbi
  rw [e1, e2]
  exact ⟨rfl, rfl⟩
theorem zct_push (f : Int → Bool) {m0 m1 m2 : zu_m} {p k v : Int} (hm1 : zu_up m0 211 p k = m1) (hm2 : zu_up m1 190 45 v = m2) (hp : p = m0 190 45) (h0 : 0 ≤ p) (hv : v = p + 1) : zct f (m2 211) (m2 190 45).toNat = zct f (m0 211) (m0 190 45).toNat + (if f k = true then 1 else 0) := by
  have e1 : m2 190 45 = v := zs_eq hm2
  have e2 : m2 211 = m1 211 := by
    funext i
    exact zs_ne hm2 (Or.inl (by decide))
  rw [e1, e2, hv, show (p + 1).toNat = p.toNat + 1 by omega]
  simp only [zct]
  rw [show ((p.toNat : Nat) : Int) = p by omega, zs_eq hm1, ← hp]
  rw [zct_cg (g := m0 211) (fun i hi => zs_ne hm1 (Or.inr (by omega)))]
theorem zwt_push {m0 m1 m2 : zu_m} {a p k v : Int} (hm1 : zu_up m0 211 p k = m1) (hm2 : zu_up m1 a 45 v = m2) (hc : zcls a = 28) (hp : p = m0 a 45) (h0 : 0 ≤ p) (hv : v = p + 1) : (k < 2 → znz m2 = znz m0) ∧ (2 ≤ k → znz m2 = znz m0 + 1) ∧ (k < 3 → zbi m2 = zbi m0) ∧ (3 ≤ k → zbi m2 = zbi m0 + 1) := by
  have e := zone_190 hc
  subst e
  have h1 := zct_push (fun v => decide (2 ≤ v)) hm1 hm2 hp h0 hv
  have h2 := zct_push (fun v => decide (3 ≤ v)) hm1 hm2 hp h0 hv
  unfold znz zbi
  rw [h1, h2]
  refine ⟨fun h => ?_, fun h => ?_, fun h => ?_, fun h => ?_⟩
  · rw [if_neg (by simp; omega)]; omega
  · rw [if_pos (by simp; omega)]
  · rw [if_neg (by simp; omega)]; omega
  · rw [if_pos (by simp; omega)]
theorem zct_pop (f : Int → Bool) {m0 m1 : zu_m} {v : Int} (hm : zu_up m0 190 45 v = m1) (hv : v = m0 190 45 - 1) (h0 : 0 ≤ v) : zct f (m0 211) (m0 190 45).toNat = zct f (m1 211) (m1 190 45).toNat + (if f (m0 211 v) = true then 1 else 0) := by
  have e1 : m1 190 45 = v := zs_eq hm
  have e2 : m1 211 = m0 211 := by
    funext i
    exact zs_ne hm (Or.inl (by decide))
  rw [e1, e2, show (m0 190 45).toNat = v.toNat + 1 by omega]
  simp only [zct]
  rw [show ((v.toNat : Nat) : Int) = v by omega]
theorem zwt_pop {m0 m1 : zu_m} {a v : Int} (hm : zu_up m0 a 45 v = m1) (hc : zcls a = 28) (hv : v = m0 a 45 - 1) (h0 : 0 ≤ v) : (m0 211 v < 2 → znz m1 = znz m0) ∧ (2 ≤ m0 211 v → znz m1 = znz m0 - 1) ∧ (m0 211 v < 3 → zbi m1 = zbi m0) ∧ (3 ≤ m0 211 v → zbi m1 = zbi m0 - 1) := by
  have e := zone_190 hc
  subst e
  have h1 := zct_pop (fun v => decide (2 ≤ v)) hm hv h0
  have h2 := zct_pop (fun v => decide (3 ≤ v)) hm hv h0
  unfold znz zbi
  rw [h1, h2]
  refine ⟨fun h => ?_, fun h => ?_, fun h => ?_, fun h => ?_⟩
  · rw [if_neg (by simp; omega)]; omega
  · rw [if_pos (by simp; omega)]; omega
  · rw [if_neg (by simp; omega)]; omega
  · rw [if_pos (by simp; omega)]; omega
theorem zwt_zero {m0 m1 : zu_m} {a : Int} (hm : zu_up m0 a 45 0 = m1) (hc : zcls a = 28) : znz m1 = 0 ∧ zbi m1 = 0 := by
  have e := zone_190 hc
  subst e
  have e1 : m1 190 45 = 0 := zs_eq hm
  unfold znz zbi
  rw [e1]
  exact ⟨rfl, rfl⟩
theorem zwt_top {m : zu_m} {a : Int} (hI : zi_I m) (hc : zcls a = 28) : 1 ≤ m a 45 → m 211 (zu_w32 (m a 45 - 1)) < 2 → znz m ≤ m a 45 - 1 := by
  have e := zone_190 hc
  subst e
  intro h1 h2
  have h3 := (zi_rd hI zq_190 zb_28_45).2
  have h4 := zct_bd (fun v => decide (2 ≤ v)) (m 211) (m 190 45 - 1).toNat
  rw [zu_w32_id (by omega) (by omega)] at h2
  unfold znz
  rw [show (m 190 45).toNat = (m 190 45 - 1).toNat + 1 by omega]
  simp only [zct]
  rw [show (((m 190 45 - 1).toNat : Nat) : Int) = m 190 45 - 1 by omega, if_neg (by simp; omega)]
  omega
def zR_KN (m : zu_m) : Prop := ∀ (i : Int), 0 ≤ i → i < 128 → (m 208 i = 1 → m 209 i ≤ 6) ∧ (2 ≤ m 208 i → m 209 i ≤ 63) ∧ (3 ≤ m 208 i → 0 ≤ m 210 i)
theorem zR_KN_fr {m m' : zu_m} (h : ∀ (a p : Int), zin [(117, 0), (118, 0), (119, 0)] (zcls a) p = true → m' a p = m a p) (hr : zR_KN m) : zR_KN m' := fun i h0 h1 => by
  rw [h 208 i (by rw [zq_208]; rfl), h 209 i (by rw [zq_209]; rfl), h 210 i (by rw [zq_210]; rfl)]
  exact hr i h0 h1
theorem zKN_grown {m0 m1 m2 m3 : zu_m} {p p2 p3 k x y : Int} (hm1 : zu_up m0 208 p k = m1) (hm2 : zu_up m1 209 p2 x = m2) (hm3 : zu_up m2 210 p3 y = m3) (h2 : p2 = p) (h3 : p3 = p) (hk : (k = 1 → x ≤ 6) ∧ (2 ≤ k → x ≤ 63) ∧ (3 ≤ k → 0 ≤ y)) (hr : zR_KN m0) : zR_KN m3 := fun i h0 h1 => by
  subst h2
  subst h3
  by_cases hi : i = p3
  · subst hi
    rw [zs_ne hm3 (Or.inl (by decide)), zs_ne hm2 (Or.inl (by decide)), zs_eq hm1, zs_ne hm3 (Or.inl (by decide)), zs_eq hm2, zs_eq hm3]
    exact hk
  · rw [zs_ne hm3 (Or.inl (by decide)), zs_ne hm2 (Or.inl (by decide)), zs_ne hm1 (Or.inr hi), zs_ne hm3 (Or.inl (by decide)), zs_ne hm2 (Or.inr hi), zs_ne hm1 (Or.inl (by decide)), zs_ne hm3 (Or.inr hi), zs_ne hm2 (Or.inl (by decide)), zs_ne hm1 (Or.inl (by decide))]
    exact hr i h0 h1
def zcpl (m0 m : zu_m) (a n x : Int) : Prop := (∀ k, 0 ≤ k → k < x → m a k = m0 a (n + k)) ∧ (∀ k, x ≤ k → m a k = m0 a k)
theorem zcpl_0 (m : zu_m) (a n : Int) : zcpl m m a n 0 := ⟨fun k h1 h2 => by omega, fun _ _ => rfl⟩
theorem zcpl_s {m0 m m' : zu_m} {a n x y q v : Int} (hm : zu_up m a x v = m') (hv : v = m a q) (hq : q = n + x) (hy : y = x + 1) (h : zcpl m0 m a n x) (h0 : 0 ≤ x) (hn : x < n) : zcpl m0 m' a n y := by
  subst hy
  refine ⟨fun k h1 h2 => ?_, fun k h1 => ?_⟩
  · by_cases hk : k = x
    · subst hk
      rw [zs_eq hm, hv, hq]
      exact h.2 (n + k) (by omega)
    · rw [zs_ne hm (Or.inr hk)]
      exact h.1 k h1 (by omega)
  · rw [zs_ne hm (Or.inr (by omega))]
    exact h.2 k (by omega)
theorem zcpl_e {m0 m : zu_m} {a n x y : Int} (h : zcpl m0 m a n x) (hy : y = x) : zcpl m0 m a n y := hy ▸ h
theorem zKN_cp {m0 m1 m2 m3 : zu_m} (c1 : zcpl m0 m1 208 64 64) (f1 : zfr [(117, 0)] m0 m1) (c2 : zcpl m1 m2 209 64 64) (f2 : zfr [(118, 0)] m1 m2) (c3 : zcpl m2 m3 210 64 64) (f3 : zfr [(119, 0)] m2 m3) (hr : zR_KN m0) : zR_KN m3 := fun i h0 h1 => by
  rw [zfr_ap f3 zq_208 rfl, zfr_ap f2 zq_208 rfl, zfr_ap f3 zq_209 rfl]
  have e2 : ∀ k, m1 209 k = m0 209 k := fun k => zfr_ap f1 zq_209 rfl
  have e3 : ∀ k, m2 210 k = m0 210 k := fun k => (zfr_ap f2 zq_210 rfl).trans (zfr_ap f1 zq_210 rfl)
  by_cases hi : i < 64
  · rw [c1.1 i h0 hi, c2.1 i h0 hi, c3.1 i h0 hi, e2, e3]
    exact hr (64 + i) (by omega) (by omega)
  · rw [c1.2 i (by omega), c2.2 i (by omega), c3.2 i (by omega), e2, e3]
    exact hr i h0 h1
def zR_BN (m : zu_m) : Prop := m 2 1 = 0 ∧ ∀ i, 3 ≤ i → i ≤ 15 → 1 ≤ m 2 i
theorem zR_BN_fr {m m' : zu_m} (h : ∀ (a p : Int), zin [(1, 0)] (zcls a) p = true → m' a p = m a p) (hr : zR_BN m) : zR_BN m' := ⟨(h 2 1 (by rw [zq_2]; rfl)).trans hr.1, fun i h1 h2 => by
  rw [h 2 i (by rw [zq_2]; rfl)]
  exact hr.2 i h1 h2⟩
theorem zone_47 {a : Int} (h : zcls a = 10) : a = 47 := by
  obtain ⟨n, rfl, hn, h1⟩ := zcls_inv h (by decide)
  have h2 : (List.range 234).all (fun n => !(Nat.beq (zt_clz.getD n 0) 10) || Nat.beq n 47) = true := by decide +kernel
  have h3 := List.all_eq_true.mp h2 n (List.mem_range.mpr hn)
  rw [h1] at h3
  exact congrArg Int.ofNat (Nat.eq_of_beq_eq_true h3)
def zop (m : zu_m) : Int := zct (fun v => decide (v = 1)) (m 48) (m 47 3).toNat
theorem zop_bd {m : zu_m} {a : Int} (hI : zi_I m) (hc : zcls a = 10) : 0 ≤ zop m ∧ zop m ≤ m a 3 := by
  have e := zone_47 hc
  subst e
  have h1 := (zi_rd hI zq_47 zb_10_3).1
  have h2 := zct_bd (fun v => decide (v = 1)) (m 48) (m 47 3).toNat
  unfold zop
  omega
theorem zop_fr {m m' : zu_m} (h : ∀ (a p : Int), zin [(10, 4), (47, 0)] (zcls a) p = true → m' a p = m a p) : zop m' = zop m := by
  have e1 : m' 47 3 = m 47 3 := h 47 3 (by rw [zq_47]; rfl)
  have e2 : m' 48 = m 48 := by
    funext i
    exact h 48 i (by rw [zq_48]; rfl)
  unfold zop
  rw [e1, e2]
theorem zop_push {m0 m1 m2 : zu_m} {a p k v : Int} (hm1 : zu_up m0 48 p k = m1) (hm2 : zu_up m1 a 3 v = m2) (hc : zcls a = 10) (hp : p = m0 a 3) (h0 : 0 ≤ p) (hv : v = p + 1) : (k ≠ 1 → zop m2 = zop m0) ∧ (k = 1 → zop m2 = zop m0 + 1) := by
  have e := zone_47 hc
  subst e
  have e1 : m2 47 3 = v := zs_eq hm2
  have e2 : m2 48 = m1 48 := by
    funext i
    exact zs_ne hm2 (Or.inl (by decide))
  have h : zop m2 = zop m0 + (if decide (k = 1) = true then 1 else 0) := by
    unfold zop
    rw [e1, e2, hv, show (p + 1).toNat = p.toNat + 1 by omega]
    simp only [zct]
    rw [show ((p.toNat : Nat) : Int) = p by omega, zs_eq hm1, ← hp]
    rw [zct_cg (g := m0 48) (fun i hi => zs_ne hm1 (Or.inr (by omega)))]
  rw [h]
  refine ⟨fun h => ?_, fun h => ?_⟩
  · rw [if_neg (by simp; omega)]; omega
  · rw [if_pos (by simp; omega)]
theorem zop_pop {m0 m1 : zu_m} {a v : Int} (hm : zu_up m0 a 3 v = m1) (hc : zcls a = 10) (hv : v = m0 a 3 - 1) (h0 : 0 ≤ v) : (m0 48 v ≠ 1 → zop m1 = zop m0) ∧ zop m0 - 1 ≤ zop m1 := by
  have e := zone_47 hc
  subst e
  have e1 : m1 47 3 = v := zs_eq hm
  have e2 : m1 48 = m0 48 := by
    funext i
    exact zs_ne hm (Or.inl (by decide))
  have h : zop m0 = zop m1 + (if decide (m0 48 v = 1) = true then 1 else 0) := by
    unfold zop
    rw [e1, e2, show (m0 47 3).toNat = v.toNat + 1 by omega]
    simp only [zct]
    rw [show ((v.toNat : Nat) : Int) = v by omega]
  rw [h]
  refine ⟨fun h => ?_, ?_⟩
  · rw [if_neg (by simp; omega)]; omega
  · split <;> omega
theorem zop_zero {m0 m1 : zu_m} {a : Int} (hm : zu_up m0 a 3 0 = m1) (hc : zcls a = 10) : zop m1 = 0 := by
  have e := zone_47 hc
  subst e
  have e1 : m1 47 3 = 0 := zs_eq hm
  unfold zop
  rw [e1]
  rfl
