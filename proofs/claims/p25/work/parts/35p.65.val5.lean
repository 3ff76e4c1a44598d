/-! hideOf is the pure value -/
def znH (t : zu_m) (c : Int) : Int → Int := fun p => if p = 2 then t 195 c else if p = 5 then Int.tdiv c (t 190 12) else 0
def zvcl (most v : Int) : Int := if 0 ≤ v then (if v ≤ most then v else most) else 0
/-- E of a law for NAMES, in bounds; d if there is none -/
def zvO (t : zu_m) (nm V0 : Int → Int) (L d most : Int) : Int := if t 205 L = 0 then d else match zvl (fun q => t 208 q) (fun q => t 209 q) (fun q => t 210 q) nm V0 (t 206 L) (t 207 L - t 206 L).toNat with
  | none => d
  | some V => zvcl most (V (t 207 L - 1))
theorem zvO_some {t : zu_m} {nm V0 V : Int → Int} {L d most : Int} (h5 : t 205 L ≠ 0) (h : zvl (fun q => t 208 q) (fun q => t 209 q) (fun q => t 210 q) nm V0 (t 206 L) (t 207 L - t 206 L).toNat = some V) : zvO t nm V0 L d most = zvcl most (V (t 207 L - 1)) := by
  unfold zvO
  rw [if_neg h5, h]
theorem zvO_none {t : zu_m} {nm V0 : Int → Int} {L d most : Int} (h : t 205 L ≠ 0 → zvl (fun q => t 208 q) (fun q => t 209 q) (fun q => t 210 q) nm V0 (t 206 L) (t 207 L - t 206 L).toNat = none) : zvO t nm V0 L d most = d := by
  unfold zvO
  by_cases h5 : t 205 L = 0
  · rw [if_pos h5]
  · rw [if_neg h5, h h5]
theorem zvO_cg {t : zu_m} {nm nm' V0 : Int → Int} {L d most : Int} (h : ∀ p, 0 ≤ p → p < 7 → nm p = nm' p) : zvO t nm V0 L d most = zvO t nm' V0 L d most := by
  unfold zvO
  rw [zvl_cg h]
def zLT2 (t : zu_m) : Prop := ∀ L, 0 ≤ L → L < 4 → t 205 L ≠ 0 → 0 ≤ t 206 L ∧ t 206 L ≤ t 207 L ∧ t 207 L ≤ 64
theorem zv_39 (n : Nat) {L d most : Int} {t : zu_m} (l0 : 0 ≤ L ∧ L < 4) (hm : 0 ≤ most ∧ most ≤ 999) (hT : zLT2 t) : zl (zu_call (zt_T n) 39 [(40, 190), (0, L), (0, d), (0, most)] t) (fun v t' => zfr [(28, 54), (123, 0)] t t' ∧ v = zvO t (fun q => t 213 q) (fun q => t 214 q) L d most) := by
  refine zl_eq (zu_call_at (zt_T n) (zm_39 n) (zdp_39 n) _ _ _ _ _ rfl (zr_39_0 n _ _ 190 L d most t)) ?_
  simp only [zlc_ge, zlc_le]
  refine zl_if (fun _ => zl_ite (fun h5 => ?_) (fun h5 => ?_))
  · obtain ⟨b1, b2, b3⟩ := hT L l0.1 l0.2 h5
    refine zl_bd (zl_mono (zv_127 n b1 b2 b3) (fun v t1 hs => ?_))
    obtain ⟨F, hs⟩ := hs
    rcases hs with ⟨h1, h2⟩ | ⟨h1, V, h2, h3⟩
    · rw [if_neg h1]
      exact zl_some ⟨F, (zvO_none (fun _ => h2)).symm⟩
    · rw [if_pos h1]
      have e : zvO t (fun q => t 213 q) (fun q => t 214 q) L d most = zvcl most v := by rw [zvO_some h5 h2, h3]
      rw [e]
      unfold zvcl
      refine zl_ite (fun g0 => zl_ite (fun g1 => zl_some ⟨F, ?_⟩) (fun g1 => zl_some ⟨F, ?_⟩)) (fun g0 => zl_some ⟨F, ?_⟩)
      · rw [if_pos g0, if_pos g1, zu_w32_id (by omega) (by omega)]
      · rw [if_pos g0, if_neg g1]
      · rw [if_neg g0]
  · exact zl_some ⟨zfr_rf _ _, (zvO_none (fun q => absurd q h5)).symm⟩
theorem zv_37 (n : Nat) {c : Int} {t : zu_m} (h0 : 0 ≤ c ∧ c < 48) (h12 : 1 ≤ t 190 12) (h195 : 0 ≤ t 195 c ∧ t 195 c ≤ 3) (hT : zLT2 t) : zl (zu_call (zt_T n) 37 [(40, 190), (0, c)] t) (fun v t' => zfr [(28, 54), (122, 0), (123, 0)] t t' ∧ v = zvO t (znH t c) (fun q => t 214 q) 1 (1 + t 195 c) 999) := by
  refine zl_eq (zu_call_at (zt_T n) (zm_37 n) (zdp_37 n) _ _ _ _ _ rfl (zr_37_0 n _ _ 190 c t)) ?_
  rw [zu_call_at (zt_T n) (zm_38 n) (zdp_38 n) _ _ _ _ _ rfl (zr_38_0 n _ _ 190 0 0 c 0 0 0 t)]
  have w5 : 0 ≤ Int.tdiv c (t 190 12) ∧ Int.tdiv c (t 190 12) ≤ 48 := by
    rw [Int.tdiv_eq_ediv_of_nonneg h0.1]
    exact ⟨Int.ediv_nonneg h0.1 (by omega), Int.le_trans (Int.ediv_le_self _ h0.1) (by omega)⟩
  generalize ht1 : zu_up t 213 0 0 = t1
  generalize ht2 : zu_up t1 213 1 0 = t2
  have e195 : t2 195 c = t 195 c := (zs_ne ht2 (Or.inl (by decide))).trans (zs_ne ht1 (Or.inl (by decide)))
  rw [e195]
  generalize ht3 : zu_up t2 213 2 (t 195 c) = t3
  generalize ht4 : zu_up t3 213 3 0 = t4
  generalize ht5 : zu_up t4 213 4 0 = t5
  have e12 : t5 190 12 = t 190 12 := (zs_ne ht5 (Or.inl (by decide))).trans ((zs_ne ht4 (Or.inl (by decide))).trans ((zs_ne ht3 (Or.inl (by decide))).trans ((zs_ne ht2 (Or.inl (by decide))).trans (zs_ne ht1 (Or.inl (by decide))))))
  rw [e12, zu_w32_id (z := Int.tdiv c (t 190 12)) (by omega) (by omega)]
  generalize ht6 : zu_up t5 213 5 (Int.tdiv c (t 190 12)) = t6
  generalize ht7 : zu_up t6 213 6 0 = t7
  have F : zfr [(122, 0)] t t7 := zfr_up ht7 (zfr_up ht6 (zfr_up ht5 (zfr_up ht4 (zfr_up ht3 (zfr_up ht2 (zfr_up ht1 (zfr_rf _ _) zq_213 rfl) zq_213 rfl) zq_213 rfl) zq_213 rfl) zq_213 rfl) zq_213 rfl) zq_213 rfl
  have nm : ∀ p, 0 ≤ p → p < 7 → t7 213 p = znH t c p := fun p p0 p1 => by
    have hp : p = 0 ∨ p = 1 ∨ p = 2 ∨ p = 3 ∨ p = 4 ∨ p = 5 ∨ p = 6 := by omega
    rw [← ht7, ← ht6, ← ht5, ← ht4, ← ht3, ← ht2, ← ht1]
    rcases hp with rfl | rfl | rfl | rfl | rfl | rfl | rfl <;> simp [zu_up_app, znH]
  have q195 : t7 195 c = t 195 c := zfr_ap F zq_195 rfl
  refine zl_bd (zl_if (fun _ => zl_if (fun _ => zl_if (fun _ => zl_if (fun _ => zl_if (fun _ => zl_if (fun _ => zl_ite (fun _ => zl_none) (fun _ => zl_if (fun _ => zl_if (fun _ => zl_some ?_))))))))))
  refine zl_if (fun _ => ?_)
  rw [q195, zu_w32_id (z := 1 + t 195 c) (by omega) (by omega)]
  have hT7 : zLT2 t7 := fun L l0 l1 => by
    rw [show t7 205 L = t 205 L from zfr_ap F zq_205 rfl, show t7 206 L = t 206 L from zfr_ap F zq_206 rfl, show t7 207 L = t 207 L from zfr_ap F zq_207 rfl]
    exact hT L l0 l1
  refine zl_bd (zl_mono (zv_39 n (L := 1) (d := 1 + t 195 c) (most := 999) (by decide) (by decide) hT7) (fun v t8 hs => zl_some ⟨zfr_tr (zfr_tr (zfr_rf _ t) F rfl) hs.1 rfl, ?_⟩))
  rw [hs.2, zvO_cg nm]
  unfold zvO
  rw [show t7 205 1 = t 205 1 from zfr_ap F zq_205 rfl, show t7 206 1 = t 206 1 from zfr_ap F zq_206 rfl, show t7 207 1 = t 207 1 from zfr_ap F zq_207 rfl, funext (fun q => zfr_ap F zq_208 rfl : ∀ q, t7 208 q = t 208 q), funext (fun q => zfr_ap F zq_209 rfl : ∀ q, t7 209 q = t 209 q), funext (fun q => zfr_ap F zq_210 rfl : ∀ q, t7 210 q = t 210 q), funext (fun q => zfr_ap F zq_214 rfl : ∀ q, t7 214 q = t 214 q)]
