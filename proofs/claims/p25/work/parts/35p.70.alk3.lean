/-! the reference's alike -/
def zH (t : zu_m) (g : Int → Int) : Prop := ∀ c, 0 ≤ c → c < t 190 12 * t 190 13 → ∀ V0, zvO t (znH t c) V0 1 (1 + t 195 c) 999 = g c
theorem zH_fr {W : List (Nat × Nat)} {t t' : zu_m} {g : Int → Int} (h : zH t g) (hf : zfr W t t') (hd : zdis W [(114, 0), (115, 0), (116, 0), (117, 0), (118, 0), (119, 0), (104, 0), (28, 13), (28, 14)] = true) : zH t' g := by
  have e := zdis_fr hf hd
  have e12 : t' 190 12 = t 190 12 := e 190 12 (by rw [zq_190]; rfl)
  have e13 : t' 190 13 = t 190 13 := e 190 13 (by rw [zq_190]; rfl)
  intro c c0 c1 V0
  have e195 : t' 195 c = t 195 c := e 195 c (by rw [zq_195]; rfl)
  rw [e12, e13] at c1
  rw [e195, ← h c c0 c1 V0]
  have hn : znH t' c = znH t c := by
    unfold znH
    rw [e195, e12]
  rw [hn]
  unfold zvO
  rw [e 205 1 (by rw [zq_205]; rfl), e 206 1 (by rw [zq_206]; rfl), e 207 1 (by rw [zq_207]; rfl), funext (fun q => e 208 q (by rw [zq_208]; rfl) : ∀ q, t' 208 q = t 208 q), funext (fun q => e 209 q (by rw [zq_209]; rfl) : ∀ q, t' 209 q = t 209 q), funext (fun q => e 210 q (by rw [zq_210]; rfl) : ∀ q, t' 210 q = t 210 q)]
def zKd (t : zu_m) : Prop := 1 ≤ t 190 12 ∧ t 190 12 * t 190 13 ≤ 48 ∧ 0 ≤ t 190 12 * t 190 13
theorem zv_172L (n : Nat) {a1 : Int} {g : Int → Int} (N : Nat) (hN48 : N ≤ 48) (hg : ∀ i : Nat, i < N → 0 ≤ g (i : Int) ∧ g (i : Int) ≤ 999) : ∀ (d k : Nat) (t : zu_m), k + d = N → zi_I t → zR_KN t → zR_LT t → zLT2 t → 1 ≤ t 190 12 → t 190 12 * t 190 13 = (N : Int) → zH t g → zw (zu_ex (zt_T n) 172 13 [(40, 190), (0, a1), (1, zS g k), (2, 0), (1, zQ g k), (2, 0), (0, (k : Int)), (2, 0), (2, 0), (2, 0), (2, 0), (2, 0)] [] t) (fun v _ => v = if a1 < 0 then -1 else if 1 < a1 then -1 else if a1 ≠ 0 then zan 0 (zS g N) (zQ g N) else zan 1 (zS g N) (zQ g N)) := by
  intro d
  induction d with
  | zero =>
    intro k t hk hI hKN hLT hT h12 hN hH
    have hk : k = N := hk
    subst hk
    refine zw_eq (zu_rega_at (zt_T n) (zm_172 n) (zdp_172 n) _ _ _ _ _ _ (zr_172_13 n _ _ 190 a1 _ _ _ t)) ?_
    rw [zu_call_at (zt_T n) (zm_36 n) (zdp_36 n) _ _ _ _ _ rfl (zr_36_0 n _ _ 190 t), zu_bds, hN, zu_w32_id (z := (k : Int)) (by omega) (by omega), if_pos (Int.le_refl _)]
    rw [zu_call_at (zt_T n) (zm_83 n) (zdp_83 n) _ _ _ _ _ rfl (zr_83_0 n _ _ a1 0 1 t)]
    obtain ⟨b1, b2, b3, b4, b5⟩ := zS_b k hg
    generalize zS g k = S at *
    generalize zQ g k = Q at *
    obtain ⟨c1, c2⟩ := zSS_b b1 (by omega)
    by_cases h0 : a1 < 0
    · rw [if_pos h0, if_pos h0, zu_b0, zu_bds, if_pos rfl]
      exact zw_some rfl
    rw [if_neg h0, if_neg h0]
    by_cases h1 : 1 < a1
    · rw [if_pos h1, if_pos h1, zu_b0, zu_bds, if_pos rfl]
      exact zw_some rfl
    rw [if_neg h1, if_neg h1, zu_b1, zu_bds, if_neg (show ¬ (1 : Int) = 0 by decide), zu_w64_id (z := S * S) (by omega) (by omega)]
    unfold zan
    refine zw_ite (fun hs => ?_) (fun hs => ?_)
    · have e : S ≠ 0 := zlc_ne.mp hs
      rw [if_neg e, if_neg e]
      refine zw_mono (zv_172G n c1 c2 b3 (by omega) (S * S).toNat.succ Q (S * S) b3 c1 (by omega) (zgcd_0 (zSS_0 e))) (fun v t' hv => ?_)
      rw [hv.2]
      by_cases ha : a1 ≠ 0
      · rw [if_pos ha, if_pos ha, if_pos rfl]
      · rw [if_neg ha, if_neg ha, if_neg (show ¬ (1 : Int) = 0 by decide)]
    · have e : S = 0 := Decidable.not_not.mp (fun q => hs (zlc_ne.mpr q))
      rw [if_pos e, if_pos e]
      refine zw_some ?_
      split <;> rfl
  | succ d ih =>
    intro k t hk hI hKN hLT hT h12 hN hH
    refine zw_eq (zu_rega_at (zt_T n) (zm_172 n) (zdp_172 n) _ _ _ _ _ _ (zr_172_13 n _ _ 190 a1 _ _ _ t)) ?_
    rw [zu_call_at (zt_T n) (zm_36 n) (zdp_36 n) _ _ _ _ _ rfl (zr_36_0 n _ _ 190 t), zu_bds, hN, zu_w32_id (z := (N : Int)) (by omega) (by omega), if_neg (show ¬ (N : Int) ≤ (k : Int) by omega)]
    have b195 := zi_rd hI zq_195 (zb_104 (k : Int))
    refine zw_bd (zw_mono (zw_zl (zk_37 n hI zq_190 ⟨by omega, by omega⟩ hKN hLT) (zv_37 n (c := (k : Int)) ⟨by omega, by omega⟩ h12 ⟨by omega, by omega⟩ hT)) (fun v t1 hs => ?_))
    obtain ⟨⟨hI1, F, hKN1, hLT1, -⟩, -, hv⟩ := hs
    have hv : v = g (k : Int) := hv.trans (hH (k : Int) (by omega) (by rw [hN]; omega) _)
    rw [hv]
    obtain ⟨b1, b2, b3, b4, b5⟩ := zS_b (g := g) k (fun i hi => hg i (by omega))
    have gk := hg k (by omega)
    obtain ⟨c1, c2⟩ := zsq_b gk
    have e12 : t1 190 12 = t 190 12 := zfr_ap F zq_190 rfl
    have e13 : t1 190 13 = t 190 13 := zfr_ap F zq_190 rfl
    have hT1 : zLT2 t1 := fun L l0 l1 => by
      rw [show t1 205 L = t 205 L from zfr_ap F zq_205 rfl, show t1 206 L = t 206 L from zfr_ap F zq_206 rfl, show t1 207 L = t 207 L from zfr_ap F zq_207 rfl]
      exact hT L l0 l1
    have hz := ih (k + 1) t1 (by omega) hI1 hKN1 hLT1 hT1 (by rw [e12]; exact h12) (by rw [e12, e13]; exact hN) (zH_fr hH F rfl)
    rw [show zS g (k + 1) = zS g k + g (k : Int) from rfl, show zQ g (k + 1) = zQ g k + g (k : Int) * g (k : Int) from rfl] at hz
    generalize g (k : Int) * g (k : Int) = y at *
    rw [zu_w64_id (z := zS g k + g (k : Int)) (by omega) (by omega), zu_w64_id (z := y) (by omega) (by omega), zu_w64_id (z := zQ g k + y) (by omega) (by omega), zu_w32_id (z := (k : Int) + 1) (by omega) (by omega), show (k : Int) + 1 = ((k + 1 : Nat) : Int) by omega]
    exact zw_le (zu_forget (zu_lr_same (zu_lr_same (zu_lr_same (zu_lr_same (zu_lr_same (zu_lr_same (zu_lr_same (zu_lr_drop (v := 0) (zu_lr_same (zu_lr_same (zu_lr_same (zu_lr_same zu_lr_nil))))))))))))) hz
theorem zv_172 (n : Nat) {a1 : Int} {g : Int → Int} {t : zu_m} (N : Nat) (hN48 : N ≤ 48) (hg : ∀ i : Nat, i < N → 0 ≤ g (i : Int) ∧ g (i : Int) ≤ 999) (hI : zi_I t) (hKN : zR_KN t) (hLT : zR_LT t) (hT : zLT2 t) (h12 : 1 ≤ t 190 12) (hN : t 190 12 * t 190 13 = (N : Int)) (hH : zH t g) : zw (zu_call (zt_T n) 172 [(40, 190), (0, a1)] t) (fun v _ => v = if a1 < 0 then -1 else if 1 < a1 then -1 else if a1 ≠ 0 then zan 0 (zS g N) (zQ g N) else zan 1 (zS g N) (zQ g N)) := by
  refine zw_eq (zu_call_at (zt_T n) (zm_172 n) (zdp_172 n) _ _ _ _ _ rfl (zr_172_0 n _ _ 190 a1 t)) ?_
  generalize ht1 : zu_up t 190 2 0 = t1
  have I1 := zi_up ht1 hI zq_190 zb_28_2 (by decide) (by decide)
  have F : zfr [(28, 3)] t t1 := zfr_up ht1 (zfr_rf _ _) zq_190 rfl
  refine zv_172L n N hN48 hg N 0 t1 (Nat.zero_add _) I1 (zR_KN_fr (zdis_fr F rfl) hKN) (zR_LT_fr (zdis_fr F rfl) hLT) (fun L l0 l1 => ?_) ?_ ?_ (zH_fr hH F rfl)
  · rw [show t1 205 L = t 205 L from zfr_ap F zq_205 rfl, show t1 206 L = t 206 L from zfr_ap F zq_206 rfl, show t1 207 L = t 207 L from zfr_ap F zq_207 rfl]
    exact hT L l0 l1
  · rw [show t1 190 12 = t 190 12 from zfr_ap F zq_190 rfl]; exact h12
  · rw [show t1 190 12 = t 190 12 from zfr_ap F zq_190 rfl, show t1 190 13 = t 190 13 from zfr_ap F zq_190 rfl]; exact hN
