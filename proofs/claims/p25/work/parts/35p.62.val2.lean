/-! the reference's valueOf and lawOf work out the pure value -/
theorem zvcp_01 {r a b : Int} : zvcp r a b = 0 ∨ zvcp r a b = 1 := by
  unfold zvcp
  repeat' split
  all_goals first | exact Or.inl rfl | exact Or.inr rfl
theorem zv_122 (n : Nat) {j : Int} {t : zu_m} : zl (zu_call (zt_T n) 122 [(40, 190), (0, j)] t) (fun v t' => zvQ t (zvkn (fun q => t 213 q) (fun q => t 214 q) (t 208 j) (t 209 j) (t 210 j)) v t') := by
  refine zl_eq (zu_call_at (zt_T n) (zm_122 n) (zdp_122 n) _ _ _ _ _ rfl (zr_122_0 n _ _ 190 j t)) ?_
  rw [show (zu_up t 190 53 1) 190 53 = 1 from zu_up_eq, show (zu_up t 190 53 0) 190 53 = 0 from zu_up_eq]
  simp only [zlc_ge, zlc_gt, zlc_ne, zlc_eq, zlc_lt, zlc_le, if_true, if_false, show ((1 : Int) = 0) = False from eq_false (by decide)]
  generalize t 208 j = r
  generalize t 209 j = a
  generalize t 210 j = b
  unfold zvkn
  refine zl_if (fun _ => zl_ite (fun r0 => zl_if (fun _ => zl_ite (fun r1 => zl_if (fun _ => zl_if (fun _ => zl_if (fun _ => zl_ite (fun r2 => zl_if (fun _ => zl_if (fun _ => zl_if (fun _ => ?_)))) (fun r2 => ?_))))) (fun r1 => ?_))) (fun r0 => ?_))
  · rw [if_neg r0, if_neg r1, if_neg r2]
    show zl _ (fun v t' => zvQ t (zvop r (t 214 a) (t 214 b)) v t')
    generalize t 214 a = x
    generalize t 214 b = y
    have cmp : zvop r x y = some (zvcp r x y) → zl (if 0 ≤ j ∧ j < 128 then zu_bd (zu_call (zt_T n) 120 [(0, r), (1, x), (1, y)] t) (fun v268 s268 => (if v268 = 0 then (some (0, s268)) else (some (1, s268)))) else none) (fun v t' => zvQ t (zvop r x y) v t') := fun e => by
      rw [zv_120, zu_bds, e]
      refine zl_if (fun _ => zl_ite (fun h => zl_some ?_) (fun h => zl_some ?_))
      · rw [h]; exact zvQ_s
      · rw [zvcp_01.resolve_left h]; exact zvQ_s
    refine zl_ite (fun h => ?_) (fun r3 => ?_)
    · have e : zvop r x y = some (if x = 0 then 0 else if y = 0 then 0 else 1) := if_pos h
      rw [e]
      refine zl_ite (fun q => zl_some ?_) (fun q => zl_ite (fun p => zl_some ?_) (fun p => zl_some ?_))
      · rw [if_pos q]; exact zvQ_s
      · rw [if_neg q, if_pos p]; exact zvQ_s
      · rw [if_neg q, if_neg p]; exact zvQ_s
    refine zl_ite (fun h => ?_) (fun r4 => ?_)
    · have e : zvop r x y = some (if x ≠ 0 then 1 else if y = 0 then 0 else 1) := by rw [h]; rfl
      rw [e]
      refine zl_ite (fun q => zl_some ?_) (fun q => zl_ite (fun p => zl_some ?_) (fun p => zl_some ?_))
      · rw [if_pos q]; exact zvQ_s
      · rw [if_neg q, if_pos p]; exact zvQ_s
      · rw [if_neg q, if_neg p]; exact zvQ_s
    refine zl_ite (fun h => cmp (by rw [h]; rfl)) (fun r5 => ?_)
    refine zl_ite (fun h => cmp (by rw [h]; rfl)) (fun r6 => ?_)
    refine zl_ite (fun h => cmp (by rw [h]; rfl)) (fun r7 => ?_)
    refine zl_ite (fun h => cmp (by rw [h]; rfl)) (fun r8 => ?_)
    refine zl_ite (fun h => cmp (by rw [h]; rfl)) (fun r9 => ?_)
    refine zl_ite (fun h => cmp (by rw [h]; rfl)) (fun r10 => ?_)
    refine zl_ite (fun h => ?_) (fun r11 => ?_)
    · rw [show zvop r x y = zvlim (zu_w64 (x + y)) by rw [h]; rfl]
      exact zl_bd (zl_mono (zv_119 n) (fun v t' hs => zl_some hs))
    refine zl_ite (fun h => ?_) (fun r12 => ?_)
    · rw [show zvop r x y = zvlim (zu_w64 (x - y)) by rw [h]; rfl]
      exact zl_bd (zl_mono (zv_119 n) (fun v t' hs => zl_some hs))
    refine zl_ite (fun h => ?_) (fun r13 => ?_)
    · rw [show zvop r x y = zvmul x y by rw [h]; rfl]
      exact zl_bd (zl_mono (zv_121 n) (fun v t' hs => zl_some hs))
    refine zl_ite (fun h => ?_) (fun r14 => cmp ?_)
    · rw [show zvop r x y = zvdiv x y by rw [h]; rfl]
      refine zl_ite (fun q => zl_b (zl_some (zvQ_e q))) (fun q => zl_ite (fun p => ?_) (fun p => ?_))
      · rw [show zvdiv x y = some (zu_w64 (Int.tdiv x y)) from if_neg p]
        exact zl_b (zl_ite (fun p0 => zl_none) (fun _ => zl_some (zvQ_0 q)))
      · rw [show zvdiv x y = none from if_pos (Decidable.not_not.mp p)]
        exact zl_b (zl_some zvQ_1)
    · unfold zvop
      rw [if_neg r3, if_neg r4, if_neg r11, if_neg r12, if_neg r13, if_neg r14]
  · rw [if_neg r0, if_neg r1, if_pos (Decidable.not_not.mp r2)]
    refine zl_ite (fun q => zl_some ?_) (fun q => zl_some ?_)
    · rw [if_pos q]; exact zvQ_s
    · rw [if_neg q]; exact zvQ_s
  · rw [if_neg r0, if_pos (Decidable.not_not.mp r1)]
    exact zl_if (fun _ => zl_if (fun hb => zl_some (by rw [if_pos hb]; exact zvQ_s)))
  · rw [if_pos (Decidable.not_not.mp r0)]
    exact zl_if (fun _ => zl_some zvQ_s)
/-- lawOf's loop: t0 the memory at its start -/
theorem zv_127L (n : Nat) {L f e : Int} {t0 : zu_m} (he : t0 207 L = e) : ∀ (g k : Nat) (t : zu_m), f + (k : Int) + (g : Int) = e → 0 ≤ f → e ≤ 64 → zfr [(28, 54), (123, 0)] t0 t → ((t 190 53 ≠ 0 ∧ zvl (fun q => t0 208 q) (fun q => t0 209 q) (fun q => t0 210 q) (fun q => t0 213 q) (fun q => t0 214 q) f k = none) ∨ (t 190 53 = 0 ∧ zvl (fun q => t0 208 q) (fun q => t0 209 q) (fun q => t0 210 q) (fun q => t0 213 q) (fun q => t0 214 q) f k = some (fun q => t 214 q))) → zl (zu_ex (zt_T n) 127 12 [(40, 190), (0, L), (0, f + (k : Int))] [] t) (fun v t' => zfr [(28, 54), (123, 0)] t0 t' ∧ ((t' 190 53 ≠ 0 ∧ zvl (fun q => t0 208 q) (fun q => t0 209 q) (fun q => t0 210 q) (fun q => t0 213 q) (fun q => t0 214 q) f (k + g) = none) ∨ (t' 190 53 = 0 ∧ ∃ V, zvl (fun q => t0 208 q) (fun q => t0 209 q) (fun q => t0 210 q) (fun q => t0 213 q) (fun q => t0 214 q) f (k + g) = some V ∧ v = V (e - 1)))) := by
  intro g
  induction g with
  | zero =>
    intro k t hk f0 e1 F hs
    refine zl_eq (zu_rega_at (zt_T n) (zm_127 n) (zdp_127 n) _ _ _ _ _ _ (zr_127_12 n _ _ 190 L _ t)) ?_
    have e7 : t 207 L = e := (zfr_ap F zq_207 rfl).trans he
    refine zl_if (fun _ => ?_)
    rw [e7, if_pos (show e ≤ f + (k : Int) by omega)]
    rcases hs with ⟨h1, h2⟩ | ⟨h1, h2⟩
    · rw [if_neg h1]
      exact zl_some ⟨F, Or.inl ⟨h1, h2⟩⟩
    · rw [if_pos h1]
      refine zl_if (fun _ => zl_if (fun hb => zl_some ⟨F, Or.inr ⟨h1, _, h2, ?_⟩⟩))
      by_cases h0 : e = 0
      · exfalso
        rw [h0] at hb
        exact absurd hb (by decide)
      · rw [zu_w32_id (z := e - 1) (by omega) (by omega)]
  | succ g ih =>
    intro k t hk f0 e1 F hs
    refine zl_eq (zu_rega_at (zt_T n) (zm_127 n) (zdp_127 n) _ _ _ _ _ _ (zr_127_12 n _ _ 190 L _ t)) ?_
    have e7 : t 207 L = e := (zfr_ap F zq_207 rfl).trans he
    have hk' : f + ((k + 1 : Nat) : Int) + (g : Int) = e := by omega
    refine zl_if (fun _ => ?_)
    rw [e7, if_neg (show ¬ e ≤ f + (k : Int) by omega), zu_w32_id (z := f + (k : Int) + 1) (by omega) (by omega), show f + (k : Int) + 1 = f + ((k + 1 : Nat) : Int) by omega, show k + (g + 1) = k + 1 + g by omega]
    refine zl_bd (zl_mono (zv_122 n) (fun v t1 hq => zl_if (fun _ => ?_)))
    obtain ⟨G, q1, q2⟩ := hq
    generalize ht2 : zu_up t1 214 (f + (k : Int)) v = t2
    have G2 : zfr [(28, 54), (123, 0)] t0 t2 := zfr_up ht2 (zfr_tr F G rfl) zq_214 rfl
    have e53 : t2 190 53 = t1 190 53 := zs_ne ht2 (Or.inl (by decide))
    refine ih (k + 1) t2 hk' f0 e1 G2 ?_
    rw [e53]
    have K : ∀ p, t 208 p = t0 208 p := fun p => zfr_ap F zq_208 rfl
    have A : ∀ p, t 209 p = t0 209 p := fun p => zfr_ap F zq_209 rfl
    have B : ∀ p, t 210 p = t0 210 p := fun p => zfr_ap F zq_210 rfl
    have N : (fun q => t 213 q) = (fun q => t0 213 q) := funext (fun p => zfr_ap F zq_213 rfl)
    rw [K, A, B, N] at q2
    rcases hs with ⟨h1, h2⟩ | ⟨h1, h2⟩
    · refine Or.inl ⟨q1 h1, ?_⟩
      unfold zvl
      rw [h2]
      rfl
    · rcases q2 h1 with ⟨q3, q4⟩ | ⟨q3, q4⟩
      · refine Or.inl ⟨q4, ?_⟩
        unfold zvl
        rw [h2]
        show Option.map _ (zvkn _ _ _ _ _) = none
        rw [q3]
        rfl
      · refine Or.inr ⟨q4, ?_⟩
        unfold zvl
        rw [h2]
        show Option.map _ (zvkn _ _ _ _ _) = _
        rw [q3]
        show some _ = some _
        congr 1
        refine funext (fun p => ?_)
        show (if p = f + (k : Int) then v else t 214 p) = t2 214 p
        rw [← ht2]
        by_cases hp : p = f + (k : Int)
        · rw [if_pos hp, hp, zu_up_eq]
        · rw [if_neg hp, zu_up_ne (Or.inr hp)]
          exact (zfr_ap (p := p) G zq_214 rfl).symm
theorem zv_127 (n : Nat) {L : Int} {t : zu_m} (h0 : 0 ≤ t 206 L) (h1 : t 206 L ≤ t 207 L) (h2 : t 207 L ≤ 64) : zl (zu_call (zt_T n) 127 [(40, 190), (0, L)] t) (fun v t' => zfr [(28, 54), (123, 0)] t t' ∧ ((t' 190 53 ≠ 0 ∧ zvl (fun q => t 208 q) (fun q => t 209 q) (fun q => t 210 q) (fun q => t 213 q) (fun q => t 214 q) (t 206 L) (t 207 L - t 206 L).toNat = none) ∨ (t' 190 53 = 0 ∧ ∃ V, zvl (fun q => t 208 q) (fun q => t 209 q) (fun q => t 210 q) (fun q => t 213 q) (fun q => t 214 q) (t 206 L) (t 207 L - t 206 L).toNat = some V ∧ v = V (t 207 L - 1)))) := by
  refine zl_eq (zu_call_at (zt_T n) (zm_127 n) (zdp_127 n) _ _ _ _ _ rfl (zr_127_0 n _ _ 190 L t)) ?_
  generalize ht1 : zu_up t 190 53 0 = t1
  have F : zfr [(28, 54), (123, 0)] t t1 := zfr_up ht1 (zfr_rf _ _) zq_190 rfl
  have e6 : t1 206 L = t 206 L := zs_ne ht1 (Or.inl (by decide))
  obtain ⟨g, hg⟩ : ∃ g : Nat, (t 207 L - t 206 L).toNat = g := ⟨_, rfl⟩
  rw [zu_b0, e6, hg]
  refine zl_if (fun _ => ?_)
  have h := zv_127L n (L := L) (f := t 206 L) (e := t 207 L) (t0 := t) rfl g 0 t1 (by omega) h0 h2 F (Or.inr ⟨zs_eq ht1, congrArg some (funext (fun p => (zs_ne ht1 (Or.inl (by decide))).symm))⟩)
  rw [show t 206 L + ((0 : Nat) : Int) = t 206 L by omega, Nat.zero_add] at h
  exact h
