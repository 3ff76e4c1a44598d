/-! law lines: the same knots; all laws told -/
theorem zhl_1 {h : Int → Int} : zhl h 1 = [h 0] := rfl
theorem zstk_hd {kn : Int → Int} {f : Int} : ∀ N : Nat, zstk kn f (N + 1) = (f + (N : Int)) :: (zstk kn f (N + 1)).tail := by
  intro N
  show (if kn (f + (N : Int)) = 0 ∨ kn (f + (N : Int)) = 1 then (f + (N : Int)) :: zstk kn f N else if kn (f + (N : Int)) = 2 then (f + (N : Int)) :: (zstk kn f N).tail else (f + (N : Int)) :: (zstk kn f N).tail.tail) = (f + (N : Int)) :: (if kn (f + (N : Int)) = 0 ∨ kn (f + (N : Int)) = 1 then (f + (N : Int)) :: zstk kn f N else if kn (f + (N : Int)) = 2 then (f + (N : Int)) :: (zstk kn f N).tail else (f + (N : Int)) :: (zstk kn f N).tail.tail).tail
  split
  · rfl
  · split <;> rfl
/-- one law's knots on both sides -/
def zLW (m t : zu_m) (L : Int) : Prop := t 206 (4 + L) = m 13 L ∧ t 207 (4 + L) = m 14 L ∧ m 13 L < m 14 L ∧ m 14 L ≤ m 10 6 ∧ (∀ i : Nat, m 13 L + (i : Int) < m 14 L → zkn1 (zstk (fun q => t 208 (64 + q)) (m 13 L) i) (m 11 (m 13 L + (i : Int))) (m 12 (m 13 L + (i : Int))) (t 208 (64 + (m 13 L + (i : Int)))) (t 209 (64 + (m 13 L + (i : Int)))) (t 210 (64 + (m 13 L + (i : Int))))) ∧ zstk (fun q => t 208 (64 + q)) (m 13 L) (m 14 L - m 13 L).toNat = [m 14 L - 1]
def zDN (m t : zu_m) : Prop := m 10 6 = t 190 21 ∧ 0 ≤ m 10 6 ∧ m 10 6 ≤ 64 ∧ ∀ L, 0 ≤ L → L < 4 → 0 ≤ m 13 L → zLW m t L
theorem zLW_mv {m t m' t' : zu_m} {L : Int} (h : zLW m t L) (h0 : 0 ≤ m 13 L) (e6 : m 10 6 = t 190 21) (e13 : m' 13 L = m 13 L) (e14 : m' 14 L = m 14 L) (e206 : t' 206 (4 + L) = t 206 (4 + L)) (e207 : t' 207 (4 + L) = t 207 (4 + L)) (hl : zlow m m') (ht : zlot t t') : zLW m' t' L := by
  obtain ⟨a1, a2, a3, a4, a5, a6⟩ := h
  have cg : ∀ k : Nat, m 13 L + (k : Int) ≤ m 14 L → zstk (fun q => t' 208 (64 + q)) (m 13 L) k = zstk (fun q => t 208 (64 + q)) (m 13 L) k := fun k hk => zstk_cg k (fun j hj => (ht.2 _ (by omega) (by omega)).1)
  unfold zLW
  rw [e13, e14, e206, e207]
  refine ⟨a1, a2, a3, Int.le_trans a4 hl.1, fun i hi => ?_, ?_⟩
  · obtain ⟨p1, p2⟩ := hl.2 (m 13 L + (i : Int)) (by omega)
    obtain ⟨q1, q2, q3⟩ := ht.2 (64 + (m 13 L + (i : Int))) (by omega) (by omega)
    rw [p1, p2, q1, q2, q3, cg i (by omega)]
    exact a5 i hi
  · rw [cg _ (by omega)]
    exact a6
/-- behind a formula: its law stands -/
theorem zLW_new {m t : zu_m} {f a : Int} (h : zKE f a m t) (e13 : m 13 a = f) (e206 : t 206 (4 + a) = f) (e207 : t 207 (4 + a) = t 190 21) : zLW m t a := by
  obtain ⟨⟨a1, a2, a3, a4, a5, a6, a7⟩, h46, h14⟩ := h
  rw [h46] at a7
  have a7 : zstk (fun q => t 208 (64 + q)) f (t 190 21 - f).toNat = [t 212 0] := a7
  have hN : 0 < (t 190 21 - f).toNat := by
    rcases Nat.eq_zero_or_pos (t 190 21 - f).toNat with q | q
    · rw [q] at a7; cases a7
    · exact q
  obtain ⟨N, hN'⟩ : ∃ N, (t 190 21 - f).toNat = N + 1 := ⟨(t 190 21 - f).toNat - 1, by omega⟩
  have e : m 14 a = t 190 21 := h14.trans a1
  unfold zLW
  rw [e13, e, e206, e207]
  refine ⟨rfl, rfl, by omega, by omega, a6, ?_⟩
  rw [hN'] at a7 ⊢
  have hd := zstk_hd (kn := fun q => t 208 (64 + q)) (f := f) N
  rw [a7] at hd
  have h1 := (List.cons.inj hd).1
  rw [a7, h1]
  congr 1
  omega
theorem zz_sumK (n : Nat) {a : Int} (ha : 0 ≤ a ∧ a ≤ 3) {m t : zu_m} (hST : zST m t) (hLG : zLAG m t) (hX : zR_BX m) (hBN : zR_BN m) (hK10 : zR_K10 m) (hKN : zR_KN t) (hTR : zR_TR t) (h21 : t 190 21 = t 190 48) (h10 : m 10 5 = t 190 48) (h6 : m 10 6 = t 190 21) : zl (zu_call (zt_T n) 198 [(24, 47), (0, a)] m) (fun v m' => zl (zu_call (zt_T n) 118 [(40, 190)] t) (fun w t' => v = 0 → w = 1 → zKE (m 10 6) a m' t' ∧ zlow m m' ∧ zlot t t' ∧ zfo a m m')) := by
  have a1 := hST.1
  have a2 := hST.2.1
  have hlow : zl (zu_call (zt_T n) 198 [(24, 47), (0, a)] m) (fun _ m' => zlow m m' ∧ zfo a m m') := zl_both (zl_mono (zl_of (zk_198k n a1 zq_47 ha hBN hK10)) (fun _ _ h => h.2.2.1)) (zl_mono (zl_of (zk_198f n a1 zq_47 ha hBN hK10)) (fun _ _ h => h.2.2.1))
  have hlot : zl (zu_call (zt_T n) 118 [(40, 190)] t) (fun _ t' => zlot t t') := zl_mono (zl_of (zk_118k n a2 zq_190 h21 hKN hST.2.2.1 hTR hST.2.2.2.1)) (fun _ _ h => h.2.2.1)
  have hK : zl (zu_call (zt_T n) 198 [(24, 47), (0, a)] m) (fun v m' => zl (zu_call (zt_T n) 118 [(40, 190)] t) (fun w t' => v = 0 → w = 1 → zKE (m 10 6) a m' t')) := by
    refine zl_eq (zu_call_at (zt_T n) (zm_198 n) (zdp_198 n) _ _ _ _ _ rfl (zr_198_0 n _ _ 47 a m)) ?_
    rw [if_pos (show 0 ≤ a ∧ a < 4 from ⟨ha.1, Int.lt_of_le_of_lt ha.2 (by decide)⟩), zu_b0, if_pos (show 0 ≤ (0 : Int) ∧ (0 : Int) < 9 by decide), zu_b1, zu_b1]
    have href : zu_call (zt_T n) 118 [(40, 190)] t = _ := zu_call_at (zt_T n) (zm_118 n) (zdp_118 n) _ _ _ _ _ rfl (zr_118_0 n _ _ 190 t)
    rw [href, zu_b1, zu_b1]
    have r6 := zi_rd a1 zq_10 zb_5_6
    generalize hm1 : zu_up m (10 + 3) a (m 10 6) = m1
    have i1 := zi_up hm1 a1 (zc_5_2 zq_10) (zb_35 _) (Int.le_trans (by decide) r6.1) (Int.le_trans r6.2 (by decide))
    have f1 : zfr [(35, 0)] m m1 := zfr_up hm1 (zfr_rf _ _) (zc_5_2 zq_10) rfl
    generalize hm2 : zu_up m1 47 3 0 = m2
    have i2 := zi_up hm2 i1 zq_47 zb_10_3 (by decide) (by decide)
    generalize hm3 : zu_up m2 47 4 0 = m3
    have i3 := zi_up hm3 i2 zq_47 zb_10_4 (by decide) (by decide)
    generalize hm4 : zu_up m3 49 0 0 = m4
    have i4 := zi_up hm4 i3 zq_49 (zb_48 _) (by decide) (by decide)
    generalize hm5 : zu_up m4 47 6 1 = m5
    have i5 := zi_up hm5 i4 zq_47 zb_10_6 (by decide) (by decide)
    generalize hm6 : zu_up m5 47 7 1 = m6
    have i6 := zi_up hm6 i5 zq_47 zb_10_7 (by decide) (by decide)
    have f6 : zfr [(10, 4), (10, 5), (48, 0), (10, 7), (10, 8)] m1 m6 := zfr_up hm6 (zfr_up hm5 (zfr_up hm4 (zfr_up hm3 (zfr_up hm2 (zfr_rf _ _) zq_47 rfl) zq_47 rfl) zq_49 rfl) zq_47 rfl) zq_47 rfl
    have y3 : m6 47 3 = 0 := by rw [← hm6, ← hm5, ← hm4, ← hm3, ← hm2]; simp [zu_up_app]
    have y4 : m6 47 4 = 0 := by rw [← hm6, ← hm5, ← hm4, ← hm3]; simp [zu_up_app]
    have y49 : m6 49 0 = 0 := by rw [← hm6, ← hm5, ← hm4]; simp [zu_up_app]
    have y6 : m6 47 6 = 1 := by rw [← hm6, ← hm5]; simp [zu_up_app]
    have y7 : m6 47 7 = 1 := by rw [← hm6]; simp [zu_up_app]
    have F6 : zfr [(35, 0), (10, 4), (10, 5), (48, 0), (10, 7), (10, 8)] m m6 := zfr_tr (zfr_tr (zfr_rf _ m) f1 rfl) f6 rfl
    clear hm1 hm2 hm3 hm4 hm5 hm6 i1 i2 i3 i4 i5
    generalize ht1 : zu_up t 190 45 0 = t1
    have j1 := zi_up ht1 a2 zq_190 zb_28_45 (by decide) (by decide)
    obtain ⟨z1, z2⟩ := zwt_zero ht1 zq_190
    generalize ht2 : zu_up t1 190 46 0 = t2
    have j2 := zi_up ht2 j1 zq_190 zb_28_46 (by decide) (by decide)
    generalize ht3 : zu_up t2 190 47 0 = t3
    have j3 := zi_up ht3 j2 zq_190 zb_28_47 (by decide) (by decide)
    generalize ht4 : zu_up t3 190 49 1 = t4
    have j4 := zi_up ht4 j3 zq_190 zb_28_49 (by decide) (by decide)
    generalize ht5 : zu_up t4 190 50 1 = t5
    have j5 := zi_up ht5 j4 zq_190 zb_28_50 (by decide) (by decide)
    have g5 : zfr [(28, 47), (28, 48), (28, 50), (28, 51)] t1 t5 := zfr_up ht5 (zfr_up ht4 (zfr_up ht3 (zfr_up ht2 (zfr_rf _ _) zq_190 rfl) zq_190 rfl) zq_190 rfl) zq_190 rfl
    have G5 : zfr [(28, 46), (28, 47), (28, 48), (28, 50), (28, 51)] t t5 := zfr_tr (zfr_up ht1 (zfr_rf _ _) zq_190 rfl) g5 rfl
    obtain ⟨z3, z4⟩ := zwt_fr (zdis_fr g5 rfl)
    rw [z1] at z3
    rw [z2] at z4
    have w45 : t5 190 45 = 0 := (zfr_ap g5 zq_190 rfl).trans (zs_eq ht1)
    have w46 : t5 190 46 = 0 := by rw [← ht5, ← ht4, ← ht3, ← ht2]; simp [zu_up_app]
    have w47 : t5 190 47 = 0 := by rw [← ht5, ← ht4, ← ht3]; simp [zu_up_app]
    have w49 : t5 190 49 = 1 := by rw [← ht5, ← ht4]; simp [zu_up_app]
    have w50 : t5 190 50 = 1 := by rw [← ht5]; simp [zu_up_app]
    have w48 : t5 190 48 = t 190 48 := zfr_ap G5 zq_190 rfl
    have w21 : t5 190 21 = t 190 21 := zfr_ap G5 zq_190 rfl
    have v6 : m6 10 6 = m 10 6 := zfr_ap F6 zq_10 rfl
    clear ht1 ht2 ht3 ht4 ht5 j1 j2 j3 j4
    have b48 := zi_rd a2 zq_190 zb_28_48
    have hST6 : zST m6 t5 := zST_r (zST_l hST i6 F6 rfl) j5 G5 rfl
    have hL : zLP m6 t5 := by
      refine ⟨hST6, ?_, zFM_0 y3 w45 y4 w47 y49 y6 w49 y7 w50 ?_ (by rw [w48]; exact b48.1) (by rw [w48]; exact b48.2), ⟨zR_BN_fr (zdis_fr F6 rfl) hBN, zR_K10_fr (zdis_fr F6 rfl) hK10, by rw [y4]; exact (zop_bd i6 zq_47).1, zR_BX_fr F6 rfl hX⟩, ⟨zR_KN_fr (zdis_fr G5 rfl) hKN, zR_TR_fr (zdis_fr G5 rfl) hTR, by rw [z3, w21, w48, Int.add_zero]; exact h21, by rw [w45, z3, w47]; rfl, by rw [w46, w49, z4], fun q => by rw [w49] at q; exact absurd q (by decide)⟩⟩
      · unfold zLAG at hLG ⊢
        rw [funext (fun i => zfr_ap G5 zq_191 rfl : ∀ i, t5 191 i = t 191 i), show t5 190 6 = t 190 6 from zfr_ap G5 zq_190 rfl, show t5 190 7 = t 190 7 from zfr_ap G5 zq_190 rfl, show t5 190 8 = t 190 8 from zfr_ap G5 zq_190 rfl, show t5 190 9 = t 190 9 from zfr_ap G5 zq_190 rfl, show t5 190 10 = t 190 10 from zfr_ap G5 zq_190 rfl, show m6 45 3 = m 45 3 from zfr_ap F6 zq_45 rfl]
        exact hLG
      · rw [w48, ← h10]; exact zfr_ap F6 zq_10 rfl
    have hA : zKQ (m 10 6) m6 t5 := by
      refine ⟨⟨by rw [v6, w21]; exact h6, r6.1, by rw [w21, h6]; exact Int.le_refl _, by rw [w21, ← h6]; exact r6.2, by rw [w46]; exact Int.le_refl 0, fun i hi => ?_, ?_⟩, by rw [w46]; decide⟩
      · rw [w21, ← h6] at hi
        exfalso; omega
      · rw [w21, ← h6, w46, Int.sub_self]
        rfl
    exact zz_sumLoopK n ha 701 0 (2, 0) m6 t5 (Or.inl rfl) hL hA (Int.le_refl 0) (zi_rd i6 zq_45 zb_9_3).1 (by decide)
  intro v m' e w t' e2 h0 h1
  exact ⟨hK v m' e w t' e2 h0 h1, (hlow v m' e).1, hlot w t' e2, (hlow v m' e).2⟩
