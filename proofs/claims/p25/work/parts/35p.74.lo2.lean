/-! the lower halves of kinds, laws, knots stay -/
def zlw (s m : zu_m) : Prop := (∀ c, 0 ≤ c → c < 48 → m 195 c = s 195 c) ∧ (∀ L, 0 ≤ L → L < 4 → m 205 L = s 205 L ∧ m 206 L = s 206 L ∧ m 207 L = s 207 L) ∧ ∀ j, 0 ≤ j → j < 64 → m 208 j = s 208 j ∧ m 209 j = s 209 j ∧ m 210 j = s 210 j
theorem zlw_rf (s : zu_m) : zlw s s := ⟨fun _ _ _ => rfl, fun _ _ _ => ⟨rfl, rfl, rfl⟩, fun _ _ _ => ⟨rfl, rfl, rfl⟩⟩
theorem zlw_tr {a b c : zu_m} (h1 : zlw a b) (h2 : zlw b c) : zlw a c := ⟨fun i i0 i1 => (h2.1 i i0 i1).trans (h1.1 i i0 i1), fun i i0 i1 => ⟨(h2.2.1 i i0 i1).1.trans (h1.2.1 i i0 i1).1, (h2.2.1 i i0 i1).2.1.trans (h1.2.1 i i0 i1).2.1, (h2.2.1 i i0 i1).2.2.trans (h1.2.1 i i0 i1).2.2⟩, fun i i0 i1 => ⟨(h2.2.2 i i0 i1).1.trans (h1.2.2 i i0 i1).1, (h2.2.2 i i0 i1).2.1.trans (h1.2.2 i i0 i1).2.1, (h2.2.2 i i0 i1).2.2.trans (h1.2.2 i i0 i1).2.2⟩⟩
theorem zlw_fr {W : List (Nat × Nat)} {m m' : zu_m} (hf : zfr W m m') (hd : zdis W [(104, 0), (114, 0), (115, 0), (116, 0), (117, 0), (118, 0), (119, 0)] = true) : zlw m m' := by
  have e := zdis_fr hf hd
  exact ⟨fun i _ _ => e 195 i (by rw [zq_195]; rfl), fun i _ _ => ⟨e 205 i (by rw [zq_205]; rfl), e 206 i (by rw [zq_206]; rfl), e 207 i (by rw [zq_207]; rfl)⟩, fun i _ _ => ⟨e 208 i (by rw [zq_208]; rfl), e 209 i (by rw [zq_209]; rfl), e 210 i (by rw [zq_210]; rfl)⟩⟩
theorem zlw_l {W : List (Nat × Nat)} {m m' : zu_m} (hf : zfr W m m') (hd : zdis W [(104, 0), (114, 0), (115, 0), (116, 0)] = true) (hl : zlot m m') (h0 : 0 ≤ m 190 21) : zlw m m' := by
  have e := zdis_fr hf hd
  exact ⟨fun i _ _ => e 195 i (by rw [zq_195]; rfl), fun i _ _ => ⟨e 205 i (by rw [zq_205]; rfl), e 206 i (by rw [zq_206]; rfl), e 207 i (by rw [zq_207]; rfl)⟩, fun i i0 i1 => hl.2 i i0 (by omega)⟩
theorem zlw_u {m m' : zu_m} {a p v : Int} (hm : zu_up m a p v = m') (h : (a = 195 ∧ 48 ≤ p) ∨ ((a = 205 ∨ a = 206 ∨ a = 207) ∧ 4 ≤ p)) : zlw m m' := ⟨fun i i0 i1 => zs_ne hm (by omega), fun i i0 i1 => ⟨zs_ne hm (by omega), zs_ne hm (by omega), zs_ne hm (by omega)⟩, fun i i0 i1 => ⟨zs_ne hm (by omega), zs_ne hm (by omega), zs_ne hm (by omega)⟩⟩
theorem zlw_up195 {s m m' : zu_m} {p v : Int} (hm : zu_up m 195 p v = m') (h : zlw s m) (hp : 48 ≤ p) : zlw s m' := zlw_tr h (zlw_u hm (Or.inl ⟨rfl, hp⟩))
theorem zlw_up205 {s m m' : zu_m} {p v : Int} (hm : zu_up m 205 p v = m') (h : zlw s m) (hp : 4 ≤ p) : zlw s m' := zlw_tr h (zlw_u hm (Or.inr ⟨Or.inl rfl, hp⟩))
theorem zlw_up206 {s m m' : zu_m} {p v : Int} (hm : zu_up m 206 p v = m') (h : zlw s m) (hp : 4 ≤ p) : zlw s m' := zlw_tr h (zlw_u hm (Or.inr ⟨Or.inr (Or.inl rfl), hp⟩))
theorem zlw_up207 {s m m' : zu_m} {p v : Int} (hm : zu_up m 207 p v = m') (h : zlw s m) (hp : 4 ≤ p) : zlw s m' := zlw_tr h (zlw_u hm (Or.inr ⟨Or.inr (Or.inr rfl), hp⟩))
set_option maxHeartbeats 4000000 in
theorem zk_100w (n : Nat) {a0 a1 : Int} {m0 : zu_m} (hIm0 : zi_I m0) (hc0 : zcls a0 = 28) (ha1 : 1 ≤ a1 ∧ a1 ≤ 3)  (he0 : 1 ≤ m0 a0 8 ∧ m0 a0 8 ≤ 1) (he1 : 1 ≤ m0 a0 9 ∧ m0 a0 9 ≤ 3)  (hRCRm0 : zR_CR m0) (hRLRm0 : zR_LR m0) (hRNSm0 : zR_NS m0) (hRTRm0 : zR_TR m0) (hRWDm0 : zR_WD m0) : zw (zu_call (zt_T n) 100 [(40, a0), (0, a1)] m0) (fun v m => zi_I m ∧ zfr [(28, 5), (28, 6), (28, 8), (28, 9), (28, 10), (28, 11), (28, 12), (28, 23), (28, 24), (28, 43), (104, 0), (105, 0)] m0 m ∧ zlw m0 m ∧ zR_CR m ∧ zR_LR m ∧ zR_NS m ∧ zR_TR m ∧ zR_WD m ∧ (0 ≤ v ∧ v ≤ 1) ∧ ((m0 a0 7) ≤ (m a0 7)) ∧ (v = 1 → ((m a0 8) = 0 ∨ (m0 a0 7) < (m a0 7))) ∧ (v = 1 → (m a0 4) = (m0 a0 4))) := by
  have hFm0 : zfr [(28, 5), (28, 6), (28, 8), (28, 9), (28, 10), (28, 11), (28, 12), (28, 23), (28, 24), (28, 43), (104, 0), (105, 0)] m0 m0 := zfr_rf _ _
  have hLm0 : zlw m0 m0 := zlw_rf _
  have r1 : 0 ≤ (m0 a0 7) ∧ (m0 a0 7) ≤ 700 := zi_rd hIm0 hc0 zb_28_7
  have r2 : (-2147483648) ≤ (m0 a0 4) ∧ (m0 a0 4) ≤ 2147483647 := zi_rd hIm0 hc0 zb_28_4
  have s3 := hRNSm0 a0 hc0
  refine zw_eq (zu_call_at (zt_T n) (zm_100 n) (zdp_100 n) _ _ _ _ _ rfl (zr_100_0 n _ _ a0 a1 m0)) ?_
  have r4 : 0 ≤ (m0 a0 22) ∧ (m0 a0 22) ≤ 16 := zi_rd hIm0 hc0 zb_28_22
  refine zw_ite (fun h5 => ?_) (fun h5 => ?_)
  · refine zw_bd (zw_mono (zk_89 n hIm0 hc0 hRNSm0 hRWDm0) (fun v7 m6 hqm6 => ?_))
    obtain ⟨hIm6, hfm6, hvm6⟩ := hqm6
    have hFm6 := zfr_tr hFm0 hfm6 rfl
    have hLm6 := zlw_tr hLm0 (zlw_fr hfm6 rfl)
    obtain ⟨hRNSm6, hRTRm6, hRWDm6, hvm6⟩ := hvm6
    have hRCRm6 := zR_CR_fr (zdis_fr hfm6 rfl) hRCRm0
    have hRLRm6 := zR_LR_fr (zdis_fr hfm6 rfl) hRLRm0
    have s8 := hRNSm6 a0 hc0
    have r9 : 0 ≤ (m6 a0 7) ∧ (m6 a0 7) ≤ 700 := zi_rd hIm6 hc0 zb_28_7
    have r10 : 0 ≤ (m6 a0 8) ∧ (m6 a0 8) ≤ 6 := zi_rd hIm6 hc0 zb_28_8
    refine zw_bd (zw_eq (zu_call_at (zt_T n) (zm_96 n) (zdp_96 n) _ _ _ _ _ rfl (zr_96_0 n _ _ a0 m6)) ?_)
    refine zw_b (by omega) ?_
    generalize hmm11 : zu_up m6 a0 23 1 = m11
    have hIm11 := zi_up hmm11 hIm6 hc0 zb_28_23 (by omega) (by omega)
    have hFm11 := zfr_up hmm11 hFm6 hc0 rfl
    have hLm11 := zlw_tr hLm6 (zlw_fr (zfr_up hmm11 (zfr_rf [(28, 1), (28, 2), (28, 3), (28, 4), (28, 5), (28, 6), (28, 7), (28, 8), (28, 9), (28, 10), (28, 11), (28, 12), (28, 23), (28, 24), (28, 43), (105, 0)] _) hc0 rfl) rfl)
    have hRLRm11 := zR_LR_fr (zdis_fr (zfr_up hmm11 (zfr_rf [(28, 24)] _) hc0 rfl) rfl) hRLRm6
    have hRNSm11 := zR_NS_fr (zdis_fr (zfr_up hmm11 (zfr_rf [(28, 24)] _) hc0 rfl) rfl) hRNSm6
    have hRTRm11 := zR_TR_fr (zdis_fr (zfr_up hmm11 (zfr_rf [(28, 24)] _) hc0 rfl) rfl) hRTRm6
    have hRWDm11 := zR_WD_fr (zdis_fr (zfr_up hmm11 (zfr_rf [(28, 24)] _) hc0 rfl) rfl) hRWDm6
    have hRCRm11 := zCR_cells (zone_190 hc0) hmm11 rfl hRCRm6
    have r12 : 1 ≤ (m11 a0 17) ∧ (m11 a0 17) ≤ 8 := zi_rd hIm11 hc0 zb_28_17
    have w13 := zu_w32_id (z := (m11 a0 17) - 1) (by omega) (by omega)
    refine zw_bd (zw_eq (zu_call_at (zt_T n) (zm_94 n) (zdp_94 n) _ _ _ _ _ rfl (zr_94_0 n _ _ a0 0 (zu_w32 ((m11 a0 17) - 1)) m11)) ?_)
    have r14 : 0 ≤ (m11 a0 8) ∧ (m11 a0 8) ≤ 6 := zi_rd hIm11 hc0 zb_28_8
    have e15 : (m11 a0 8) = (m6 a0 8) := (zs_ne hmm11 (Or.inr (by decide)))
    refine zw_ite (fun h16 => ?_) (fun h16 => ?_)
    · have s17 := (hRTRm6 a0 hc0).2.2 (by omega)
      have r18 : (-2147483648) ≤ (m11 a0 9) ∧ (m11 a0 9) ≤ 2147483647 := zi_rd hIm11 hc0 zb_28_9
      have e19 : (m11 a0 9) = (m6 a0 9) := (zs_ne hmm11 (Or.inr (by decide)))
      refine zw_bd (zw_eq (zu_call_at (zt_T n) (zm_83 n) (zdp_83 n) _ _ _ _ _ rfl (zr_83_0 n _ _ (m11 a0 9) 0 (zu_w32 ((m11 a0 17) - 1)) m11)) ?_)
      refine zw_ite (fun h20 => ?_) (fun h20 => ?_)
      · exfalso; omega
      · refine zw_ite (fun h21 => ?_) (fun h21 => ?_)
        · refine zw_b (by omega) ?_
          refine zw_some ?_
          refine zw_ite (fun h22 => ?_) (fun h22 => ?_)
          · exfalso; omega
          · refine zw_bd (zw_eq (zu_call_at (zt_T n) (zm_85 n) (zdp_85 n) _ _ _ _ _ rfl (zr_85_0 n _ _ a0 2 m11)) ?_)
            generalize hmm23 : zu_up m11 a0 4 2 = m23
            have hIm23 := zi_up hmm23 hIm11 hc0 zb_28_4 (by omega) (by omega)
            have hFm23 := zfr_up hmm23 hFm11 hc0 rfl
            have hLm23 := zlw_tr hLm11 (zlw_fr (zfr_up hmm23 (zfr_rf [(28, 1), (28, 2), (28, 3), (28, 4), (28, 5), (28, 6), (28, 7), (28, 8), (28, 9), (28, 10), (28, 11), (28, 12), (28, 23), (28, 24), (28, 43), (105, 0)] _) hc0 rfl) rfl)
            have hRCRm23 := zR_CR_fr (zdis_fr (zfr_up hmm23 (zfr_rf [(28, 5)] _) hc0 rfl) rfl) hRCRm11
            have hRNSm23 := zR_NS_fr (zdis_fr (zfr_up hmm23 (zfr_rf [(28, 5)] _) hc0 rfl) rfl) hRNSm11
            have hRTRm23 := zR_TR_fr (zdis_fr (zfr_up hmm23 (zfr_rf [(28, 5)] _) hc0 rfl) rfl) hRTRm11
            have hRWDm23 := zR_WD_fr (zdis_fr (zfr_up hmm23 (zfr_rf [(28, 5)] _) hc0 rfl) rfl) hRWDm11
            have hRLRm23 := zLR_wr (zone_190 hc0) hmm23 (by decide)
            have r24 : 0 ≤ (m23 a0 10) ∧ (m23 a0 10) ≤ 700 := zi_rd hIm23 hc0 zb_28_10
            generalize hmm25 : zu_up m23 a0 5 (m23 a0 10) = m25
            have hIm25 := zi_up hmm25 hIm23 hc0 zb_28_5 (by omega) (by omega)
            have hFm25 := zfr_up hmm25 hFm23 hc0 rfl
            have hLm25 := zlw_tr hLm23 (zlw_fr (zfr_up hmm25 (zfr_rf [(28, 1), (28, 2), (28, 3), (28, 4), (28, 5), (28, 6), (28, 7), (28, 8), (28, 9), (28, 10), (28, 11), (28, 12), (28, 23), (28, 24), (28, 43), (105, 0)] _) hc0 rfl) rfl)
            have hRCRm25 := zR_CR_fr (zdis_fr (zfr_up hmm25 (zfr_rf [(28, 6)] _) hc0 rfl) rfl) hRCRm23
            have hRLRm25 := zR_LR_fr (zdis_fr (zfr_up hmm25 (zfr_rf [(28, 6)] _) hc0 rfl) rfl) hRLRm23
            have hRNSm25 := zR_NS_fr (zdis_fr (zfr_up hmm25 (zfr_rf [(28, 6)] _) hc0 rfl) rfl) hRNSm23
            have hRTRm25 := zR_TR_fr (zdis_fr (zfr_up hmm25 (zfr_rf [(28, 6)] _) hc0 rfl) rfl) hRTRm23
            have hRWDm25 := zR_WD_fr (zdis_fr (zfr_up hmm25 (zfr_rf [(28, 6)] _) hc0 rfl) rfl) hRWDm23
            refine zw_b (by omega) ?_
            refine zw_some ?_
            refine zw_b (by omega) ?_
            refine zw_some ?_
            refine zw_ite (fun h26 => ?_) (fun h26 => ?_)
            · exfalso; omega
            · refine zw_b (by omega) ?_
              refine zw_some ?_
              refine zw_ite (fun h27 => ?_) (fun h27 => ?_)
              · exfalso; omega
              · refine zw_b (by omega) ?_
                have r28 : 0 ≤ (m25 a0 7) ∧ (m25 a0 7) ≤ 700 := zi_rd hIm25 hc0 zb_28_7
                have e29 : (m25 a0 7) = (m6 a0 7) := (Eq.trans (zs_ne hmm25 (Or.inr (by decide))) (Eq.trans (zs_ne hmm23 (Or.inr (by decide))) (zs_ne hmm11 (Or.inr (by decide)))))
                have r30 : 0 ≤ (m25 a0 8) ∧ (m25 a0 8) ≤ 6 := zi_rd hIm25 hc0 zb_28_8
                have e31 : (m25 a0 8) = (m11 a0 8) := (Eq.trans (zs_ne hmm25 (Or.inr (by decide))) (zs_ne hmm23 (Or.inr (by decide))))
                have r32 : (-2147483648) ≤ (m25 a0 4) ∧ (m25 a0 4) ≤ 2147483647 := zi_rd hIm25 hc0 zb_28_4
                have e33 : (m25 a0 4) = 2 := (Eq.trans (zs_ne hmm25 (Or.inr (by decide))) (zs_eq hmm23))
                exact zw_some ⟨hIm25, hFm25, hLm25, hRCRm25, hRLRm25, hRNSm25, hRTRm25, hRWDm25, ⟨by decide, by decide⟩, by omega, fun h => absurd h (by decide), fun h => absurd h (by decide)⟩
        · refine zw_b (by omega) ?_
          refine zw_some ?_
          refine zw_ite (fun h34 => ?_) (fun h34 => ?_)
          · generalize hmm35 : zu_up m11 a0 11 (m11 a0 9) = m35
            have hIm35 := zi_up hmm35 hIm11 hc0 zb_28_11 (by omega) (by omega)
            have hFm35 := zfr_up hmm35 hFm11 hc0 rfl
            have hLm35 := zlw_tr hLm11 (zlw_fr (zfr_up hmm35 (zfr_rf [(28, 1), (28, 2), (28, 3), (28, 4), (28, 5), (28, 6), (28, 7), (28, 8), (28, 9), (28, 10), (28, 11), (28, 12), (28, 23), (28, 24), (28, 43), (105, 0)] _) hc0 rfl) rfl)
            have hRCRm35 := zR_CR_fr (zdis_fr (zfr_up hmm35 (zfr_rf [(28, 12)] _) hc0 rfl) rfl) hRCRm11
            have hRLRm35 := zR_LR_fr (zdis_fr (zfr_up hmm35 (zfr_rf [(28, 12)] _) hc0 rfl) rfl) hRLRm11
            have hRNSm35 := zR_NS_fr (zdis_fr (zfr_up hmm35 (zfr_rf [(28, 12)] _) hc0 rfl) rfl) hRNSm11
            have hRTRm35 := zR_TR_fr (zdis_fr (zfr_up hmm35 (zfr_rf [(28, 12)] _) hc0 rfl) rfl) hRTRm11
            have hRWDm35 := zR_WD_fr (zdis_fr (zfr_up hmm35 (zfr_rf [(28, 12)] _) hc0 rfl) rfl) hRWDm11
            have r38 : 0 ≤ (m35 a0 7) ∧ (m35 a0 7) ≤ 700 := zi_rd hIm35 hc0 zb_28_7
            have e39 : (m35 a0 7) = (m6 a0 7) := (Eq.trans (zs_ne hmm35 (Or.inr (by decide))) (zs_ne hmm11 (Or.inr (by decide))))
            refine zw_bd (zw_mono (zk_89 n hIm35 hc0 hRNSm35 hRWDm35) (fun v37 m36 hqm36 => ?_))
            obtain ⟨hIm36, hfm36, hvm36⟩ := hqm36
            have hFm36 := zfr_tr hFm35 hfm36 rfl
            have hLm36 := zlw_tr hLm35 (zlw_fr hfm36 rfl)
            obtain ⟨hRNSm36, hRTRm36, hRWDm36, hvm36⟩ := hvm36
            have hRCRm36 := zR_CR_fr (zdis_fr hfm36 rfl) hRCRm35
            have hRLRm36 := zR_LR_fr (zdis_fr hfm36 rfl) hRLRm35
            have s40 := hRNSm36 a0 hc0
            have r41 : 0 ≤ (m36 a0 7) ∧ (m36 a0 7) ≤ 700 := zi_rd hIm36 hc0 zb_28_7
            have r42 : 0 ≤ (m36 a0 8) ∧ (m36 a0 8) ≤ 6 := zi_rd hIm36 hc0 zb_28_8
            refine zw_b (by omega) ?_
            refine zw_some ?_
            refine zw_ite (fun h43 => ?_) (fun h43 => ?_)
            · have r44 : (-2147483648) ≤ (m36 a0 11) ∧ (m36 a0 11) ≤ 2147483647 := zi_rd hIm36 hc0 zb_28_11
              have e45 : (m36 a0 11) = (m11 a0 9) := (Eq.trans (zfr_ap hfm36 hc0 rfl) (zs_eq hmm35))
              have r46 : 0 ≤ (m36 a0 10) ∧ (m36 a0 10) ≤ 700 := zi_rd hIm36 hc0 zb_28_10
              generalize hmm47 : zu_up m36 a0 42 (m36 a0 10) = m47
              have hIm47 := zi_up hmm47 hIm36 hc0 zb_28_42 (by omega) (by omega)
              have hFm47 := zfr_up hmm47 hFm36 hc0 rfl
              have hLm47 := zlw_tr hLm36 (zlw_fr (zfr_up hmm47 (zfr_rf [(28, 1), (28, 2), (28, 3), (28, 4), (28, 5), (28, 6), (28, 7), (28, 8), (28, 9), (28, 10), (28, 11), (28, 12), (28, 23), (28, 24), (28, 43), (105, 0)] _) hc0 rfl) rfl)
              have hRCRm47 := zR_CR_fr (zdis_fr (zfr_up hmm47 (zfr_rf [(28, 43)] _) hc0 rfl) rfl) hRCRm36
              have hRLRm47 := zR_LR_fr (zdis_fr (zfr_up hmm47 (zfr_rf [(28, 43)] _) hc0 rfl) rfl) hRLRm36
              have hRNSm47 := zR_NS_fr (zdis_fr (zfr_up hmm47 (zfr_rf [(28, 43)] _) hc0 rfl) rfl) hRNSm36
              have hRTRm47 := zR_TR_fr (zdis_fr (zfr_up hmm47 (zfr_rf [(28, 43)] _) hc0 rfl) rfl) hRTRm36
              have hRWDm47 := zR_WD_fr (zdis_fr (zfr_up hmm47 (zfr_rf [(28, 43)] _) hc0 rfl) rfl) hRWDm36
              have r48 : 1 ≤ (m47 a0 18) ∧ (m47 a0 18) ≤ 6 := zi_rd hIm47 hc0 zb_28_18
              have w49 := zu_w32_id (z := (m47 a0 18) - 1) (by omega) (by omega)
              refine zw_bd (zw_eq (zu_call_at (zt_T n) (zm_94 n) (zdp_94 n) _ _ _ _ _ rfl (zr_94_0 n _ _ a0 0 (zu_w32 ((m47 a0 18) - 1)) m47)) ?_)
              have r50 : 0 ≤ (m47 a0 8) ∧ (m47 a0 8) ≤ 6 := zi_rd hIm47 hc0 zb_28_8
              have e51 : (m47 a0 8) = (m36 a0 8) := (zs_ne hmm47 (Or.inr (by decide)))
              refine zw_ite (fun h52 => ?_) (fun h52 => ?_)
              · have s53 := (hRTRm36 a0 hc0).2.2 (by omega)
                have r54 : (-2147483648) ≤ (m47 a0 9) ∧ (m47 a0 9) ≤ 2147483647 := zi_rd hIm47 hc0 zb_28_9
                have e55 : (m47 a0 9) = (m36 a0 9) := (zs_ne hmm47 (Or.inr (by decide)))
                refine zw_bd (zw_eq (zu_call_at (zt_T n) (zm_83 n) (zdp_83 n) _ _ _ _ _ rfl (zr_83_0 n _ _ (m47 a0 9) 0 (zu_w32 ((m47 a0 18) - 1)) m47)) ?_)
                refine zw_ite (fun h56 => ?_) (fun h56 => ?_)
                · exfalso; omega
                · refine zw_ite (fun h57 => ?_) (fun h57 => ?_)
                  · refine zw_b (by omega) ?_
                    refine zw_some ?_
                    refine zw_ite (fun h58 => ?_) (fun h58 => ?_)
                    · exfalso; omega
                    · refine zw_bd (zw_eq (zu_call_at (zt_T n) (zm_85 n) (zdp_85 n) _ _ _ _ _ rfl (zr_85_0 n _ _ a0 2 m47)) ?_)
                      generalize hmm59 : zu_up m47 a0 4 2 = m59
                      have hIm59 := zi_up hmm59 hIm47 hc0 zb_28_4 (by omega) (by omega)
                      have hFm59 := zfr_up hmm59 hFm47 hc0 rfl
                      have hLm59 := zlw_tr hLm47 (zlw_fr (zfr_up hmm59 (zfr_rf [(28, 1), (28, 2), (28, 3), (28, 4), (28, 5), (28, 6), (28, 7), (28, 8), (28, 9), (28, 10), (28, 11), (28, 12), (28, 23), (28, 24), (28, 43), (105, 0)] _) hc0 rfl) rfl)
                      have hRCRm59 := zR_CR_fr (zdis_fr (zfr_up hmm59 (zfr_rf [(28, 5)] _) hc0 rfl) rfl) hRCRm47
                      have hRNSm59 := zR_NS_fr (zdis_fr (zfr_up hmm59 (zfr_rf [(28, 5)] _) hc0 rfl) rfl) hRNSm47
                      have hRTRm59 := zR_TR_fr (zdis_fr (zfr_up hmm59 (zfr_rf [(28, 5)] _) hc0 rfl) rfl) hRTRm47
                      have hRWDm59 := zR_WD_fr (zdis_fr (zfr_up hmm59 (zfr_rf [(28, 5)] _) hc0 rfl) rfl) hRWDm47
                      have hRLRm59 := zLR_wr (zone_190 hc0) hmm59 (by decide)
                      have r60 : 0 ≤ (m59 a0 10) ∧ (m59 a0 10) ≤ 700 := zi_rd hIm59 hc0 zb_28_10
                      have e61 : (m59 a0 10) = (m36 a0 10) := (Eq.trans (zs_ne hmm59 (Or.inr (by decide))) (zs_ne hmm47 (Or.inr (by decide))))
                      generalize hmm62 : zu_up m59 a0 5 (m59 a0 10) = m62
                      have hIm62 := zi_up hmm62 hIm59 hc0 zb_28_5 (by omega) (by omega)
                      have hFm62 := zfr_up hmm62 hFm59 hc0 rfl
                      have hLm62 := zlw_tr hLm59 (zlw_fr (zfr_up hmm62 (zfr_rf [(28, 1), (28, 2), (28, 3), (28, 4), (28, 5), (28, 6), (28, 7), (28, 8), (28, 9), (28, 10), (28, 11), (28, 12), (28, 23), (28, 24), (28, 43), (105, 0)] _) hc0 rfl) rfl)
                      have hRCRm62 := zR_CR_fr (zdis_fr (zfr_up hmm62 (zfr_rf [(28, 6)] _) hc0 rfl) rfl) hRCRm59
                      have hRLRm62 := zR_LR_fr (zdis_fr (zfr_up hmm62 (zfr_rf [(28, 6)] _) hc0 rfl) rfl) hRLRm59
                      have hRNSm62 := zR_NS_fr (zdis_fr (zfr_up hmm62 (zfr_rf [(28, 6)] _) hc0 rfl) rfl) hRNSm59
                      have hRTRm62 := zR_TR_fr (zdis_fr (zfr_up hmm62 (zfr_rf [(28, 6)] _) hc0 rfl) rfl) hRTRm59
                      have hRWDm62 := zR_WD_fr (zdis_fr (zfr_up hmm62 (zfr_rf [(28, 6)] _) hc0 rfl) rfl) hRWDm59
                      refine zw_b (by omega) ?_
                      refine zw_some ?_
                      refine zw_b (by omega) ?_
                      refine zw_some ?_
                      refine zw_ite (fun h63 => ?_) (fun h63 => ?_)
                      · exfalso; omega
                      · refine zw_b (by omega) ?_
                        refine zw_some ?_
                        refine zw_ite (fun h64 => ?_) (fun h64 => ?_)
                        · exfalso; omega
                        · refine zw_b (by omega) ?_
                          have r65 : 0 ≤ (m62 a0 7) ∧ (m62 a0 7) ≤ 700 := zi_rd hIm62 hc0 zb_28_7
                          have e66 : (m62 a0 7) = (m36 a0 7) := (Eq.trans (zs_ne hmm62 (Or.inr (by decide))) (Eq.trans (zs_ne hmm59 (Or.inr (by decide))) (zs_ne hmm47 (Or.inr (by decide)))))
                          have r67 : 0 ≤ (m62 a0 8) ∧ (m62 a0 8) ≤ 6 := zi_rd hIm62 hc0 zb_28_8
                          have e68 : (m62 a0 8) = (m47 a0 8) := (Eq.trans (zs_ne hmm62 (Or.inr (by decide))) (zs_ne hmm59 (Or.inr (by decide))))
                          have r69 : (-2147483648) ≤ (m62 a0 4) ∧ (m62 a0 4) ≤ 2147483647 := zi_rd hIm62 hc0 zb_28_4
                          have e70 : (m62 a0 4) = 2 := (Eq.trans (zs_ne hmm62 (Or.inr (by decide))) (zs_eq hmm59))
                          exact zw_some ⟨hIm62, hFm62, hLm62, hRCRm62, hRLRm62, hRNSm62, hRTRm62, hRWDm62, ⟨by decide, by decide⟩, by omega, fun h => absurd h (by decide), fun h => absurd h (by decide)⟩
                  · refine zw_b (by omega) ?_
                    refine zw_some ?_
                    refine zw_ite (fun h71 => ?_) (fun h71 => ?_)
                    · generalize hmm72 : zu_up m47 a0 11 (m47 a0 9) = m72
                      have hIm72 := zi_up hmm72 hIm47 hc0 zb_28_11 (by omega) (by omega)
                      have hFm72 := zfr_up hmm72 hFm47 hc0 rfl
                      have hLm72 := zlw_tr hLm47 (zlw_fr (zfr_up hmm72 (zfr_rf [(28, 1), (28, 2), (28, 3), (28, 4), (28, 5), (28, 6), (28, 7), (28, 8), (28, 9), (28, 10), (28, 11), (28, 12), (28, 23), (28, 24), (28, 43), (105, 0)] _) hc0 rfl) rfl)
                      have hRCRm72 := zR_CR_fr (zdis_fr (zfr_up hmm72 (zfr_rf [(28, 12)] _) hc0 rfl) rfl) hRCRm47
                      have hRLRm72 := zR_LR_fr (zdis_fr (zfr_up hmm72 (zfr_rf [(28, 12)] _) hc0 rfl) rfl) hRLRm47
                      have hRNSm72 := zR_NS_fr (zdis_fr (zfr_up hmm72 (zfr_rf [(28, 12)] _) hc0 rfl) rfl) hRNSm47
                      have hRTRm72 := zR_TR_fr (zdis_fr (zfr_up hmm72 (zfr_rf [(28, 12)] _) hc0 rfl) rfl) hRTRm47
                      have hRWDm72 := zR_WD_fr (zdis_fr (zfr_up hmm72 (zfr_rf [(28, 12)] _) hc0 rfl) rfl) hRWDm47
                      have r75 : 0 ≤ (m72 a0 7) ∧ (m72 a0 7) ≤ 700 := zi_rd hIm72 hc0 zb_28_7
                      have e76 : (m72 a0 7) = (m36 a0 7) := (Eq.trans (zs_ne hmm72 (Or.inr (by decide))) (zs_ne hmm47 (Or.inr (by decide))))
                      refine zw_bd (zw_mono (zk_89 n hIm72 hc0 hRNSm72 hRWDm72) (fun v74 m73 hqm73 => ?_))
                      obtain ⟨hIm73, hfm73, hvm73⟩ := hqm73
                      have hFm73 := zfr_tr hFm72 hfm73 rfl
                      have hLm73 := zlw_tr hLm72 (zlw_fr hfm73 rfl)
                      obtain ⟨hRNSm73, hRTRm73, hRWDm73, hvm73⟩ := hvm73
                      have hRCRm73 := zR_CR_fr (zdis_fr hfm73 rfl) hRCRm72
                      have hRLRm73 := zR_LR_fr (zdis_fr hfm73 rfl) hRLRm72
                      have s77 := hRNSm73 a0 hc0
                      have r78 : 0 ≤ (m73 a0 7) ∧ (m73 a0 7) ≤ 700 := zi_rd hIm73 hc0 zb_28_7
                      have r79 : 0 ≤ (m73 a0 8) ∧ (m73 a0 8) ≤ 6 := zi_rd hIm73 hc0 zb_28_8
                      refine zw_b (by omega) ?_
                      refine zw_some ?_
                      refine zw_ite (fun h80 => ?_) (fun h80 => ?_)
                      · have r81 : 1 ≤ (m73 a0 17) ∧ (m73 a0 17) ≤ 8 := zi_rd hIm73 hc0 zb_28_17
                        have e82 : (m73 a0 17) = (m11 a0 17) := (Eq.trans (zfr_ap hfm73 hc0 rfl) (Eq.trans (zs_ne hmm72 (Or.inr (by decide))) (Eq.trans (zs_ne hmm47 (Or.inr (by decide))) (Eq.trans (zfr_ap hfm36 hc0 rfl) (zs_ne hmm35 (Or.inr (by decide)))))))
                        have r83 : (-2147483648) ≤ (m73 a0 11) ∧ (m73 a0 11) ≤ 2147483647 := zi_rd hIm73 hc0 zb_28_11
                        have e84 : (m73 a0 11) = (m47 a0 9) := (Eq.trans (zfr_ap hfm73 hc0 rfl) (zs_eq hmm72))
                        have p85 := zmul_bd (x := (m73 a0 17)) (y := (m73 a0 11)) (a := 1) (b := 0) (A := 8) (B := 5) (by omega) (by omega) (by omega) (by omega) (by omega) (by omega)
                        have w86 := zu_w32_id (z := (m73 a0 17) * (m73 a0 11)) (by omega) (by omega)
                        have w87 := zu_w32_id (z := (zu_w32 ((m73 a0 17) * (m73 a0 11))) + (m36 a0 11)) (by omega) (by omega)
                        generalize hmm88 : zu_up m73 a0 11 (zu_w32 ((zu_w32 ((m73 a0 17) * (m73 a0 11))) + (m36 a0 11))) = m88
                        have hIm88 := zi_up hmm88 hIm73 hc0 zb_28_11 (by omega) (by omega)
                        have hFm88 := zfr_up hmm88 hFm73 hc0 rfl
                        have hLm88 := zlw_tr hLm73 (zlw_fr (zfr_up hmm88 (zfr_rf [(28, 1), (28, 2), (28, 3), (28, 4), (28, 5), (28, 6), (28, 7), (28, 8), (28, 9), (28, 10), (28, 11), (28, 12), (28, 23), (28, 24), (28, 43), (105, 0)] _) hc0 rfl) rfl)
                        have hRCRm88 := zR_CR_fr (zdis_fr (zfr_up hmm88 (zfr_rf [(28, 12)] _) hc0 rfl) rfl) hRCRm73
                        have hRLRm88 := zR_LR_fr (zdis_fr (zfr_up hmm88 (zfr_rf [(28, 12)] _) hc0 rfl) rfl) hRLRm73
                        have hRNSm88 := zR_NS_fr (zdis_fr (zfr_up hmm88 (zfr_rf [(28, 12)] _) hc0 rfl) rfl) hRNSm73
                        have hRTRm88 := zR_TR_fr (zdis_fr (zfr_up hmm88 (zfr_rf [(28, 12)] _) hc0 rfl) rfl) hRTRm73
                        have hRWDm88 := zR_WD_fr (zdis_fr (zfr_up hmm88 (zfr_rf [(28, 12)] _) hc0 rfl) rfl) hRWDm73
                        refine zw_b (by omega) ?_
                        refine zw_some ?_
                        refine zw_ite (fun h89 => ?_) (fun h89 => ?_)
                        · have r90 : (-2147483648) ≤ (m88 a0 11) ∧ (m88 a0 11) ≤ 2147483647 := zi_rd hIm88 hc0 zb_28_11
                          have e91 : (m88 a0 11) = (zu_w32 ((zu_w32 ((m73 a0 17) * (m73 a0 11))) + (m36 a0 11))) := (zs_eq hmm88)
                          have b92 : 0 ≤ (m88 a0 11) ∧ (m88 a0 11) < 48 := by omega
                          refine zw_if b92 ?_
                          have r93 : 0 ≤ (m88 196 (m88 a0 11)) ∧ (m88 196 (m88 a0 11)) ≤ 1 := zi_rd hIm88 zq_196 (zb_105 _)
                          refine zw_ite (fun h94 => ?_) (fun h94 => ?_)
                          · refine zw_b (by omega) ?_
                            have b95 : 0 ≤ (m88 a0 11) ∧ (m88 a0 11) < 48 := by omega
                            refine zw_if b95 ?_
                            generalize hmm96 : zu_up m88 196 (m88 a0 11) 1 = m96
                            have hIm96 := zi_up hmm96 hIm88 zq_196 (zb_105 _) (by omega) (by omega)
                            have hFm96 := zfr_up hmm96 hFm88 zq_196 rfl
                            have hLm96 := zlw_tr hLm88 (zlw_fr (zfr_up hmm96 (zfr_rf [(28, 1), (28, 2), (28, 3), (28, 4), (28, 5), (28, 6), (28, 7), (28, 8), (28, 9), (28, 10), (28, 11), (28, 12), (28, 23), (28, 24), (28, 43), (105, 0)] _) zq_196 rfl) rfl)
                            have hRCRm96 := zR_CR_fr (zdis_fr (zfr_up hmm96 (zfr_rf [(105, 0)] _) zq_196 rfl) rfl) hRCRm88
                            have hRLRm96 := zR_LR_fr (zdis_fr (zfr_up hmm96 (zfr_rf [(105, 0)] _) zq_196 rfl) rfl) hRLRm88
                            have hRNSm96 := zR_NS_fr (zdis_fr (zfr_up hmm96 (zfr_rf [(105, 0)] _) zq_196 rfl) rfl) hRNSm88
                            have hRTRm96 := zR_TR_fr (zdis_fr (zfr_up hmm96 (zfr_rf [(105, 0)] _) zq_196 rfl) rfl) hRTRm88
                            have hRWDm96 := zR_WD_fr (zdis_fr (zfr_up hmm96 (zfr_rf [(105, 0)] _) zq_196 rfl) rfl) hRWDm88
                            have r97 : (-2147483648) ≤ (m96 a0 11) ∧ (m96 a0 11) ≤ 2147483647 := zi_rd hIm96 hc0 zb_28_11
                            have e98 : (m96 a0 11) = (m88 a0 11) := (zs_ne hmm96 (Or.inl (zc_ne hc0 zq_196 (by decide))))
                            have w99 := zu_w32_id (z := 48 + (m96 a0 11)) (by omega) (by omega)
                            have b100 : 0 ≤ (zu_w32 (48 + (m96 a0 11))) ∧ (zu_w32 (48 + (m96 a0 11))) < 96 := by omega
                            refine zw_if b100 ?_
                            generalize hmm101 : zu_up m96 195 (zu_w32 (48 + (m96 a0 11))) a1 = m101
                            have hIm101 := zi_up hmm101 hIm96 zq_195 (zb_104 _) (by omega) (by omega)
                            have hFm101 := zfr_up hmm101 hFm96 zq_195 rfl
                            have hLm101 := zlw_up195 hmm101 hLm96 (by omega)
                            have hRCRm101 := zR_CR_fr (zdis_fr (zfr_up hmm101 (zfr_rf [(104, 0)] _) zq_195 rfl) rfl) hRCRm96
                            have hRLRm101 := zR_LR_fr (zdis_fr (zfr_up hmm101 (zfr_rf [(104, 0)] _) zq_195 rfl) rfl) hRLRm96
                            have hRNSm101 := zR_NS_fr (zdis_fr (zfr_up hmm101 (zfr_rf [(104, 0)] _) zq_195 rfl) rfl) hRNSm96
                            have hRTRm101 := zR_TR_fr (zdis_fr (zfr_up hmm101 (zfr_rf [(104, 0)] _) zq_195 rfl) rfl) hRTRm96
                            have hRWDm101 := zR_WD_fr (zdis_fr (zfr_up hmm101 (zfr_rf [(104, 0)] _) zq_195 rfl) rfl) hRWDm96
                            have r102 : 0 ≤ (m101 a0 22) ∧ (m101 a0 22) ≤ 16 := zi_rd hIm101 hc0 zb_28_22
                            have e103 : (m101 a0 22) = (m0 a0 22) := (Eq.trans (zs_ne hmm101 (Or.inl (zc_ne hc0 zq_195 (by decide)))) (Eq.trans (zs_ne hmm96 (Or.inl (zc_ne hc0 zq_196 (by decide)))) (Eq.trans (zs_ne hmm88 (Or.inr (by decide))) (Eq.trans (zfr_ap hfm73 hc0 rfl) (Eq.trans (zs_ne hmm72 (Or.inr (by decide))) (Eq.trans (zs_ne hmm47 (Or.inr (by decide))) (Eq.trans (zfr_ap hfm36 hc0 rfl) (Eq.trans (zs_ne hmm35 (Or.inr (by decide))) (Eq.trans (zs_ne hmm11 (Or.inr (by decide))) (zfr_ap hfm6 hc0 rfl))))))))))
                            have w104 := zu_w32_id (z := (m101 a0 22) + 1) (by omega) (by omega)
                            generalize hmm105 : zu_up m101 a0 22 (zu_w32 ((m101 a0 22) + 1)) = m105
                            have hIm105 := zi_up hmm105 hIm101 hc0 zb_28_22 (by omega) (by omega)
                            have hFm105 := zfr_up hmm105 hFm101 hc0 rfl
                            have hLm105 := zlw_tr hLm101 (zlw_fr (zfr_up hmm105 (zfr_rf [(28, 1), (28, 2), (28, 3), (28, 4), (28, 5), (28, 6), (28, 7), (28, 8), (28, 9), (28, 10), (28, 11), (28, 12), (28, 23), (28, 24), (28, 43), (105, 0)] _) hc0 rfl) rfl)
                            have hRCRm105 := zR_CR_fr (zdis_fr (zfr_up hmm105 (zfr_rf [(28, 23)] _) hc0 rfl) rfl) hRCRm101
                            have hRLRm105 := zR_LR_fr (zdis_fr (zfr_up hmm105 (zfr_rf [(28, 23)] _) hc0 rfl) rfl) hRLRm101
                            have hRNSm105 := zR_NS_fr (zdis_fr (zfr_up hmm105 (zfr_rf [(28, 23)] _) hc0 rfl) rfl) hRNSm101
                            have hRTRm105 := zR_TR_fr (zdis_fr (zfr_up hmm105 (zfr_rf [(28, 23)] _) hc0 rfl) rfl) hRTRm101
                            have hRWDm105 := zR_WD_fr (zdis_fr (zfr_up hmm105 (zfr_rf [(28, 23)] _) hc0 rfl) rfl) hRWDm101
                            refine zw_b (by omega) ?_
                            have r106 : 0 ≤ (m105 a0 7) ∧ (m105 a0 7) ≤ 700 := zi_rd hIm105 hc0 zb_28_7
                            have e107 : (m105 a0 7) = (m73 a0 7) := (Eq.trans (zs_ne hmm105 (Or.inr (by decide))) (Eq.trans (zs_ne hmm101 (Or.inl (zc_ne hc0 zq_195 (by decide)))) (Eq.trans (zs_ne hmm96 (Or.inl (zc_ne hc0 zq_196 (by decide)))) (zs_ne hmm88 (Or.inr (by decide))))))
                            have r108 : 0 ≤ (m105 a0 8) ∧ (m105 a0 8) ≤ 6 := zi_rd hIm105 hc0 zb_28_8
                            have e109 : (m105 a0 8) = (m73 a0 8) := (Eq.trans (zs_ne hmm105 (Or.inr (by decide))) (Eq.trans (zs_ne hmm101 (Or.inl (zc_ne hc0 zq_195 (by decide)))) (Eq.trans (zs_ne hmm96 (Or.inl (zc_ne hc0 zq_196 (by decide)))) (zs_ne hmm88 (Or.inr (by decide))))))
                            have r110 : (-2147483648) ≤ (m105 a0 4) ∧ (m105 a0 4) ≤ 2147483647 := zi_rd hIm105 hc0 zb_28_4
                            have e111 : (m105 a0 4) = (m0 a0 4) := (Eq.trans (zs_ne hmm105 (Or.inr (by decide))) (Eq.trans (zs_ne hmm101 (Or.inl (zc_ne hc0 zq_195 (by decide)))) (Eq.trans (zs_ne hmm96 (Or.inl (zc_ne hc0 zq_196 (by decide)))) (Eq.trans (zs_ne hmm88 (Or.inr (by decide))) (Eq.trans (zfr_ap hfm73 hc0 rfl) (Eq.trans (zs_ne hmm72 (Or.inr (by decide))) (Eq.trans (zs_ne hmm47 (Or.inr (by decide))) (Eq.trans (zfr_ap hfm36 hc0 rfl) (Eq.trans (zs_ne hmm35 (Or.inr (by decide))) (Eq.trans (zs_ne hmm11 (Or.inr (by decide))) (zfr_ap hfm6 hc0 rfl)))))))))))
                            exact zw_some ⟨hIm105, hFm105, hLm105, hRCRm105, hRLRm105, hRNSm105, hRTRm105, hRWDm105, ⟨by decide, by decide⟩, by omega, fun _ => by omega, fun _ => by omega⟩
                          · have r112 : (-2147483648) ≤ (m88 a0 42) ∧ (m88 a0 42) ≤ 2147483647 := zi_rd hIm88 hc0 zb_28_42
                            have e113 : (m88 a0 42) = (m36 a0 10) := (Eq.trans (zs_ne hmm88 (Or.inr (by decide))) (Eq.trans (zfr_ap hfm73 hc0 rfl) (Eq.trans (zs_ne hmm72 (Or.inr (by decide))) (zs_eq hmm47))))
                            generalize hmm114 : zu_up m88 a0 10 (m88 a0 42) = m114
                            have hIm114 := zi_up hmm114 hIm88 hc0 zb_28_10 (by omega) (by omega)
                            have hFm114 := zfr_up hmm114 hFm88 hc0 rfl
                            have hLm114 := zlw_tr hLm88 (zlw_fr (zfr_up hmm114 (zfr_rf [(28, 1), (28, 2), (28, 3), (28, 4), (28, 5), (28, 6), (28, 7), (28, 8), (28, 9), (28, 10), (28, 11), (28, 12), (28, 23), (28, 24), (28, 43), (105, 0)] _) hc0 rfl) rfl)
                            have hRCRm114 := zR_CR_fr (zdis_fr (zfr_up hmm114 (zfr_rf [(28, 11)] _) hc0 rfl) rfl) hRCRm88
                            have hRLRm114 := zR_LR_fr (zdis_fr (zfr_up hmm114 (zfr_rf [(28, 11)] _) hc0 rfl) rfl) hRLRm88
                            have hRNSm114 := zR_NS_fr (zdis_fr (zfr_up hmm114 (zfr_rf [(28, 11)] _) hc0 rfl) rfl) hRNSm88
                            have hRTRm114 := zR_TR_fr (zdis_fr (zfr_up hmm114 (zfr_rf [(28, 11)] _) hc0 rfl) rfl) hRTRm88
                            have hRWDm114 := zR_WD_fr (zdis_fr (zfr_up hmm114 (zfr_rf [(28, 11)] _) hc0 rfl) rfl) hRWDm88
                            refine zw_bd (zw_eq (zu_call_at (zt_T n) (zm_85 n) (zdp_85 n) _ _ _ _ _ rfl (zr_85_0 n _ _ a0 3 m114)) ?_)
                            generalize hmm115 : zu_up m114 a0 4 3 = m115
                            have hIm115 := zi_up hmm115 hIm114 hc0 zb_28_4 (by omega) (by omega)
                            have hFm115 := zfr_up hmm115 hFm114 hc0 rfl
                            have hLm115 := zlw_tr hLm114 (zlw_fr (zfr_up hmm115 (zfr_rf [(28, 1), (28, 2), (28, 3), (28, 4), (28, 5), (28, 6), (28, 7), (28, 8), (28, 9), (28, 10), (28, 11), (28, 12), (28, 23), (28, 24), (28, 43), (105, 0)] _) hc0 rfl) rfl)
                            have hRCRm115 := zR_CR_fr (zdis_fr (zfr_up hmm115 (zfr_rf [(28, 5)] _) hc0 rfl) rfl) hRCRm114
                            have hRNSm115 := zR_NS_fr (zdis_fr (zfr_up hmm115 (zfr_rf [(28, 5)] _) hc0 rfl) rfl) hRNSm114
                            have hRTRm115 := zR_TR_fr (zdis_fr (zfr_up hmm115 (zfr_rf [(28, 5)] _) hc0 rfl) rfl) hRTRm114
                            have hRWDm115 := zR_WD_fr (zdis_fr (zfr_up hmm115 (zfr_rf [(28, 5)] _) hc0 rfl) rfl) hRWDm114
                            have hRLRm115 := zLR_wr (zone_190 hc0) hmm115 (by decide)
                            have r116 : 0 ≤ (m115 a0 10) ∧ (m115 a0 10) ≤ 700 := zi_rd hIm115 hc0 zb_28_10
                            have e117 : (m115 a0 10) = (m88 a0 42) := (Eq.trans (zs_ne hmm115 (Or.inr (by decide))) (zs_eq hmm114))
                            generalize hmm118 : zu_up m115 a0 5 (m115 a0 10) = m118
                            have hIm118 := zi_up hmm118 hIm115 hc0 zb_28_5 (by omega) (by omega)
                            have hFm118 := zfr_up hmm118 hFm115 hc0 rfl
                            have hLm118 := zlw_tr hLm115 (zlw_fr (zfr_up hmm118 (zfr_rf [(28, 1), (28, 2), (28, 3), (28, 4), (28, 5), (28, 6), (28, 7), (28, 8), (28, 9), (28, 10), (28, 11), (28, 12), (28, 23), (28, 24), (28, 43), (105, 0)] _) hc0 rfl) rfl)
                            have hRCRm118 := zR_CR_fr (zdis_fr (zfr_up hmm118 (zfr_rf [(28, 6)] _) hc0 rfl) rfl) hRCRm115
                            have hRLRm118 := zR_LR_fr (zdis_fr (zfr_up hmm118 (zfr_rf [(28, 6)] _) hc0 rfl) rfl) hRLRm115
                            have hRNSm118 := zR_NS_fr (zdis_fr (zfr_up hmm118 (zfr_rf [(28, 6)] _) hc0 rfl) rfl) hRNSm115
                            have hRTRm118 := zR_TR_fr (zdis_fr (zfr_up hmm118 (zfr_rf [(28, 6)] _) hc0 rfl) rfl) hRTRm115
                            have hRWDm118 := zR_WD_fr (zdis_fr (zfr_up hmm118 (zfr_rf [(28, 6)] _) hc0 rfl) rfl) hRWDm115
                            refine zw_b (by omega) ?_
                            refine zw_some ?_
                            refine zw_b (by omega) ?_
                            have r119 : 0 ≤ (m118 a0 7) ∧ (m118 a0 7) ≤ 700 := zi_rd hIm118 hc0 zb_28_7
                            have e120 : (m118 a0 7) = (m73 a0 7) := (Eq.trans (zs_ne hmm118 (Or.inr (by decide))) (Eq.trans (zs_ne hmm115 (Or.inr (by decide))) (Eq.trans (zs_ne hmm114 (Or.inr (by decide))) (zs_ne hmm88 (Or.inr (by decide))))))
                            have r121 : 0 ≤ (m118 a0 8) ∧ (m118 a0 8) ≤ 6 := zi_rd hIm118 hc0 zb_28_8
                            have e122 : (m118 a0 8) = (m73 a0 8) := (Eq.trans (zs_ne hmm118 (Or.inr (by decide))) (Eq.trans (zs_ne hmm115 (Or.inr (by decide))) (Eq.trans (zs_ne hmm114 (Or.inr (by decide))) (zs_ne hmm88 (Or.inr (by decide))))))
                            have r123 : (-2147483648) ≤ (m118 a0 4) ∧ (m118 a0 4) ≤ 2147483647 := zi_rd hIm118 hc0 zb_28_4
                            have e124 : (m118 a0 4) = 3 := (Eq.trans (zs_ne hmm118 (Or.inr (by decide))) (zs_eq hmm115))
                            exact zw_some ⟨hIm118, hFm118, hLm118, hRCRm118, hRLRm118, hRNSm118, hRTRm118, hRWDm118, ⟨by decide, by decide⟩, by omega, fun h => absurd h (by decide), fun h => absurd h (by decide)⟩
                        · exfalso; omega
                      · exfalso; omega
                    · exfalso; omega
              · refine zw_bd (zw_eq (zu_call_at (zt_T n) (zm_85 n) (zdp_85 n) _ _ _ _ _ rfl (zr_85_0 n _ _ a0 1 m47)) ?_)
                generalize hmm125 : zu_up m47 a0 4 1 = m125
                have hIm125 := zi_up hmm125 hIm47 hc0 zb_28_4 (by omega) (by omega)
                have hFm125 := zfr_up hmm125 hFm47 hc0 rfl
                have hLm125 := zlw_tr hLm47 (zlw_fr (zfr_up hmm125 (zfr_rf [(28, 1), (28, 2), (28, 3), (28, 4), (28, 5), (28, 6), (28, 7), (28, 8), (28, 9), (28, 10), (28, 11), (28, 12), (28, 23), (28, 24), (28, 43), (105, 0)] _) hc0 rfl) rfl)
                have hRCRm125 := zR_CR_fr (zdis_fr (zfr_up hmm125 (zfr_rf [(28, 5)] _) hc0 rfl) rfl) hRCRm47
                have hRNSm125 := zR_NS_fr (zdis_fr (zfr_up hmm125 (zfr_rf [(28, 5)] _) hc0 rfl) rfl) hRNSm47
                have hRTRm125 := zR_TR_fr (zdis_fr (zfr_up hmm125 (zfr_rf [(28, 5)] _) hc0 rfl) rfl) hRTRm47
                have hRWDm125 := zR_WD_fr (zdis_fr (zfr_up hmm125 (zfr_rf [(28, 5)] _) hc0 rfl) rfl) hRWDm47
                have hRLRm125 := zLR_wr (zone_190 hc0) hmm125 (by decide)
                have r126 : 0 ≤ (m125 a0 10) ∧ (m125 a0 10) ≤ 700 := zi_rd hIm125 hc0 zb_28_10
                have e127 : (m125 a0 10) = (m36 a0 10) := (Eq.trans (zs_ne hmm125 (Or.inr (by decide))) (zs_ne hmm47 (Or.inr (by decide))))
                generalize hmm128 : zu_up m125 a0 5 (m125 a0 10) = m128
                have hIm128 := zi_up hmm128 hIm125 hc0 zb_28_5 (by omega) (by omega)
                have hFm128 := zfr_up hmm128 hFm125 hc0 rfl
                have hLm128 := zlw_tr hLm125 (zlw_fr (zfr_up hmm128 (zfr_rf [(28, 1), (28, 2), (28, 3), (28, 4), (28, 5), (28, 6), (28, 7), (28, 8), (28, 9), (28, 10), (28, 11), (28, 12), (28, 23), (28, 24), (28, 43), (105, 0)] _) hc0 rfl) rfl)
                have hRCRm128 := zR_CR_fr (zdis_fr (zfr_up hmm128 (zfr_rf [(28, 6)] _) hc0 rfl) rfl) hRCRm125
                have hRLRm128 := zR_LR_fr (zdis_fr (zfr_up hmm128 (zfr_rf [(28, 6)] _) hc0 rfl) rfl) hRLRm125
                have hRNSm128 := zR_NS_fr (zdis_fr (zfr_up hmm128 (zfr_rf [(28, 6)] _) hc0 rfl) rfl) hRNSm125
                have hRTRm128 := zR_TR_fr (zdis_fr (zfr_up hmm128 (zfr_rf [(28, 6)] _) hc0 rfl) rfl) hRTRm125
                have hRWDm128 := zR_WD_fr (zdis_fr (zfr_up hmm128 (zfr_rf [(28, 6)] _) hc0 rfl) rfl) hRWDm125
                refine zw_b (by omega) ?_
                refine zw_some ?_
                refine zw_b (by omega) ?_
                refine zw_some ?_
                refine zw_ite (fun h129 => ?_) (fun h129 => ?_)
                · exfalso; omega
                · refine zw_b (by omega) ?_
                  refine zw_some ?_
                  refine zw_ite (fun h130 => ?_) (fun h130 => ?_)
                  · exfalso; omega
                  · refine zw_b (by omega) ?_
                    have r131 : 0 ≤ (m128 a0 7) ∧ (m128 a0 7) ≤ 700 := zi_rd hIm128 hc0 zb_28_7
                    have e132 : (m128 a0 7) = (m36 a0 7) := (Eq.trans (zs_ne hmm128 (Or.inr (by decide))) (Eq.trans (zs_ne hmm125 (Or.inr (by decide))) (zs_ne hmm47 (Or.inr (by decide)))))
                    have r133 : 0 ≤ (m128 a0 8) ∧ (m128 a0 8) ≤ 6 := zi_rd hIm128 hc0 zb_28_8
                    have e134 : (m128 a0 8) = (m47 a0 8) := (Eq.trans (zs_ne hmm128 (Or.inr (by decide))) (zs_ne hmm125 (Or.inr (by decide))))
                    have r135 : (-2147483648) ≤ (m128 a0 4) ∧ (m128 a0 4) ≤ 2147483647 := zi_rd hIm128 hc0 zb_28_4
                    have e136 : (m128 a0 4) = 1 := (Eq.trans (zs_ne hmm128 (Or.inr (by decide))) (zs_eq hmm125))
                    exact zw_some ⟨hIm128, hFm128, hLm128, hRCRm128, hRLRm128, hRNSm128, hRTRm128, hRWDm128, ⟨by decide, by decide⟩, by omega, fun h => absurd h (by decide), fun h => absurd h (by decide)⟩
            · exfalso; omega
          · exfalso; omega
    · refine zw_bd (zw_eq (zu_call_at (zt_T n) (zm_85 n) (zdp_85 n) _ _ _ _ _ rfl (zr_85_0 n _ _ a0 1 m11)) ?_)
      generalize hmm137 : zu_up m11 a0 4 1 = m137
      have hIm137 := zi_up hmm137 hIm11 hc0 zb_28_4 (by omega) (by omega)
      have hFm137 := zfr_up hmm137 hFm11 hc0 rfl
      have hLm137 := zlw_tr hLm11 (zlw_fr (zfr_up hmm137 (zfr_rf [(28, 1), (28, 2), (28, 3), (28, 4), (28, 5), (28, 6), (28, 7), (28, 8), (28, 9), (28, 10), (28, 11), (28, 12), (28, 23), (28, 24), (28, 43), (105, 0)] _) hc0 rfl) rfl)
      have hRCRm137 := zR_CR_fr (zdis_fr (zfr_up hmm137 (zfr_rf [(28, 5)] _) hc0 rfl) rfl) hRCRm11
      have hRNSm137 := zR_NS_fr (zdis_fr (zfr_up hmm137 (zfr_rf [(28, 5)] _) hc0 rfl) rfl) hRNSm11
      have hRTRm137 := zR_TR_fr (zdis_fr (zfr_up hmm137 (zfr_rf [(28, 5)] _) hc0 rfl) rfl) hRTRm11
      have hRWDm137 := zR_WD_fr (zdis_fr (zfr_up hmm137 (zfr_rf [(28, 5)] _) hc0 rfl) rfl) hRWDm11
      have hRLRm137 := zLR_wr (zone_190 hc0) hmm137 (by decide)
      have r138 : 0 ≤ (m137 a0 10) ∧ (m137 a0 10) ≤ 700 := zi_rd hIm137 hc0 zb_28_10
      generalize hmm139 : zu_up m137 a0 5 (m137 a0 10) = m139
      have hIm139 := zi_up hmm139 hIm137 hc0 zb_28_5 (by omega) (by omega)
      have hFm139 := zfr_up hmm139 hFm137 hc0 rfl
      have hLm139 := zlw_tr hLm137 (zlw_fr (zfr_up hmm139 (zfr_rf [(28, 1), (28, 2), (28, 3), (28, 4), (28, 5), (28, 6), (28, 7), (28, 8), (28, 9), (28, 10), (28, 11), (28, 12), (28, 23), (28, 24), (28, 43), (105, 0)] _) hc0 rfl) rfl)
      have hRCRm139 := zR_CR_fr (zdis_fr (zfr_up hmm139 (zfr_rf [(28, 6)] _) hc0 rfl) rfl) hRCRm137
      have hRLRm139 := zR_LR_fr (zdis_fr (zfr_up hmm139 (zfr_rf [(28, 6)] _) hc0 rfl) rfl) hRLRm137
      have hRNSm139 := zR_NS_fr (zdis_fr (zfr_up hmm139 (zfr_rf [(28, 6)] _) hc0 rfl) rfl) hRNSm137
      have hRTRm139 := zR_TR_fr (zdis_fr (zfr_up hmm139 (zfr_rf [(28, 6)] _) hc0 rfl) rfl) hRTRm137
      have hRWDm139 := zR_WD_fr (zdis_fr (zfr_up hmm139 (zfr_rf [(28, 6)] _) hc0 rfl) rfl) hRWDm137
      refine zw_b (by omega) ?_
      refine zw_some ?_
      refine zw_b (by omega) ?_
      refine zw_some ?_
      refine zw_ite (fun h140 => ?_) (fun h140 => ?_)
      · exfalso; omega
      · refine zw_b (by omega) ?_
        refine zw_some ?_
        refine zw_ite (fun h141 => ?_) (fun h141 => ?_)
        · exfalso; omega
        · refine zw_b (by omega) ?_
          have r142 : 0 ≤ (m139 a0 7) ∧ (m139 a0 7) ≤ 700 := zi_rd hIm139 hc0 zb_28_7
          have e143 : (m139 a0 7) = (m6 a0 7) := (Eq.trans (zs_ne hmm139 (Or.inr (by decide))) (Eq.trans (zs_ne hmm137 (Or.inr (by decide))) (zs_ne hmm11 (Or.inr (by decide)))))
          have r144 : 0 ≤ (m139 a0 8) ∧ (m139 a0 8) ≤ 6 := zi_rd hIm139 hc0 zb_28_8
          have e145 : (m139 a0 8) = (m11 a0 8) := (Eq.trans (zs_ne hmm139 (Or.inr (by decide))) (zs_ne hmm137 (Or.inr (by decide))))
          have r146 : (-2147483648) ≤ (m139 a0 4) ∧ (m139 a0 4) ≤ 2147483647 := zi_rd hIm139 hc0 zb_28_4
          have e147 : (m139 a0 4) = 1 := (Eq.trans (zs_ne hmm139 (Or.inr (by decide))) (zs_eq hmm137))
          exact zw_some ⟨hIm139, hFm139, hLm139, hRCRm139, hRLRm139, hRNSm139, hRTRm139, hRWDm139, ⟨by decide, by decide⟩, by omega, fun h => absurd h (by decide), fun h => absurd h (by decide)⟩
  · refine zw_bd (zw_eq (zu_call_at (zt_T n) (zm_85 n) (zdp_85 n) _ _ _ _ _ rfl (zr_85_0 n _ _ a0 2 m0)) ?_)
    generalize hmm148 : zu_up m0 a0 4 2 = m148
    have hIm148 := zi_up hmm148 hIm0 hc0 zb_28_4 (by omega) (by omega)
    have hFm148 := zfr_up hmm148 hFm0 hc0 rfl
    have hLm148 := zlw_tr hLm0 (zlw_fr (zfr_up hmm148 (zfr_rf [(28, 1), (28, 2), (28, 3), (28, 4), (28, 5), (28, 6), (28, 7), (28, 8), (28, 9), (28, 10), (28, 11), (28, 12), (28, 23), (28, 24), (28, 43), (105, 0)] _) hc0 rfl) rfl)
    have hRCRm148 := zR_CR_fr (zdis_fr (zfr_up hmm148 (zfr_rf [(28, 5)] _) hc0 rfl) rfl) hRCRm0
    have hRNSm148 := zR_NS_fr (zdis_fr (zfr_up hmm148 (zfr_rf [(28, 5)] _) hc0 rfl) rfl) hRNSm0
    have hRTRm148 := zR_TR_fr (zdis_fr (zfr_up hmm148 (zfr_rf [(28, 5)] _) hc0 rfl) rfl) hRTRm0
    have hRWDm148 := zR_WD_fr (zdis_fr (zfr_up hmm148 (zfr_rf [(28, 5)] _) hc0 rfl) rfl) hRWDm0
    have hRLRm148 := zLR_wr (zone_190 hc0) hmm148 (by decide)
    have r149 : 0 ≤ (m148 a0 10) ∧ (m148 a0 10) ≤ 700 := zi_rd hIm148 hc0 zb_28_10
    generalize hmm150 : zu_up m148 a0 5 (m148 a0 10) = m150
    have hIm150 := zi_up hmm150 hIm148 hc0 zb_28_5 (by omega) (by omega)
    have hFm150 := zfr_up hmm150 hFm148 hc0 rfl
    have hLm150 := zlw_tr hLm148 (zlw_fr (zfr_up hmm150 (zfr_rf [(28, 1), (28, 2), (28, 3), (28, 4), (28, 5), (28, 6), (28, 7), (28, 8), (28, 9), (28, 10), (28, 11), (28, 12), (28, 23), (28, 24), (28, 43), (105, 0)] _) hc0 rfl) rfl)
    have hRCRm150 := zR_CR_fr (zdis_fr (zfr_up hmm150 (zfr_rf [(28, 6)] _) hc0 rfl) rfl) hRCRm148
    have hRLRm150 := zR_LR_fr (zdis_fr (zfr_up hmm150 (zfr_rf [(28, 6)] _) hc0 rfl) rfl) hRLRm148
    have hRNSm150 := zR_NS_fr (zdis_fr (zfr_up hmm150 (zfr_rf [(28, 6)] _) hc0 rfl) rfl) hRNSm148
    have hRTRm150 := zR_TR_fr (zdis_fr (zfr_up hmm150 (zfr_rf [(28, 6)] _) hc0 rfl) rfl) hRTRm148
    have hRWDm150 := zR_WD_fr (zdis_fr (zfr_up hmm150 (zfr_rf [(28, 6)] _) hc0 rfl) rfl) hRWDm148
    refine zw_b (by omega) ?_
    refine zw_some ?_
    refine zw_b (by omega) ?_
    have r151 : 0 ≤ (m150 a0 7) ∧ (m150 a0 7) ≤ 700 := zi_rd hIm150 hc0 zb_28_7
    have e152 : (m150 a0 7) = (m0 a0 7) := (Eq.trans (zs_ne hmm150 (Or.inr (by decide))) (zs_ne hmm148 (Or.inr (by decide))))
    have r153 : 0 ≤ (m150 a0 8) ∧ (m150 a0 8) ≤ 6 := zi_rd hIm150 hc0 zb_28_8
    have e154 : (m150 a0 8) = (m0 a0 8) := (Eq.trans (zs_ne hmm150 (Or.inr (by decide))) (zs_ne hmm148 (Or.inr (by decide))))
    have r155 : (-2147483648) ≤ (m150 a0 4) ∧ (m150 a0 4) ≤ 2147483647 := zi_rd hIm150 hc0 zb_28_4
    have e156 : (m150 a0 4) = 2 := (Eq.trans (zs_ne hmm150 (Or.inr (by decide))) (zs_eq hmm148))
    exact zw_some ⟨hIm150, hFm150, hLm150, hRCRm150, hRLRm150, hRNSm150, hRTRm150, hRWDm150, ⟨by decide, by decide⟩, by omega, fun h => absurd h (by decide), fun h => absurd h (by decide)⟩
set_option maxHeartbeats 4000000 in
theorem zk_103w (n : Nat) {a0 : Int} {m0 : zu_m} (hIm0 : zi_I m0) (hc0 : zcls a0 = 28)   (he0 : 1 ≤ m0 a0 8 ∧ m0 a0 8 ≤ 1) (he1 : 11 ≤ m0 a0 9 ∧ m0 a0 9 ≤ 11) (hxp0 : (m0 a0 21) = (m0 a0 48)) (hxp1 : (m0 a0 4) = 0) (hRKNm0 : zR_KN m0) (hRLRm0 : zR_LR m0) (hRLTm0 : zR_LT m0) (hRNSm0 : zR_NS m0) (hRTRm0 : zR_TR m0) (hRWDm0 : zR_WD m0) : zw (zu_call (zt_T n) 103 [(40, a0)] m0) (fun v m => zi_I m ∧ zfr [(28, 5), (28, 6), (28, 8), (28, 9), (28, 10), (28, 11), (28, 22), (28, 46), (28, 47), (28, 48), (28, 49), (28, 50), (28, 51), (114, 0), (115, 0), (116, 0), (117, 0), (118, 0), (119, 0), (120, 0), (121, 0)] m0 m ∧ zlw m0 m ∧ zR_KN m ∧ zR_LR m ∧ zR_LT m ∧ zR_NS m ∧ zR_TR m ∧ zR_WD m ∧ (0 ≤ v ∧ v ≤ 1) ∧ ((m0 a0 7) ≤ (m a0 7)) ∧ (v = 1 → ((m a0 8) = 0 ∨ (m0 a0 7) < (m a0 7))) ∧ (v = 1 → (m a0 21) = (m a0 48)) ∧ (v = 1 → (m a0 4) = (m0 a0 4))) := by
  have hFm0 : zfr [(28, 5), (28, 6), (28, 8), (28, 9), (28, 10), (28, 11), (28, 22), (28, 46), (28, 47), (28, 48), (28, 49), (28, 50), (28, 51), (114, 0), (115, 0), (116, 0), (117, 0), (118, 0), (119, 0), (120, 0), (121, 0)] m0 m0 := zfr_rf _ _
  have hLm0 : zlw m0 m0 := zlw_rf _
  have r1 : 0 ≤ (m0 a0 7) ∧ (m0 a0 7) ≤ 700 := zi_rd hIm0 hc0 zb_28_7
  have r2 : (-2147483648) ≤ (m0 a0 4) ∧ (m0 a0 4) ≤ 2147483647 := zi_rd hIm0 hc0 zb_28_4
  have r3 : 0 ≤ (m0 a0 21) ∧ (m0 a0 21) ≤ 64 := zi_rd hIm0 hc0 zb_28_21
  have r4 : 0 ≤ (m0 a0 48) ∧ (m0 a0 48) ≤ 64 := zi_rd hIm0 hc0 zb_28_48
  have s5 := hRNSm0 a0 hc0
  refine zw_eq (zu_call_at (zt_T n) (zm_103 n) (zdp_103 n) _ _ _ _ _ rfl (zr_103_0 n _ _ a0 m0)) ?_
  refine zw_bd (zw_mono (zk_89 n hIm0 hc0 hRNSm0 hRWDm0) (fun v7 m6 hqm6 => ?_))
  obtain ⟨hIm6, hfm6, hvm6⟩ := hqm6
  have hFm6 := zfr_tr hFm0 hfm6 rfl
  have hLm6 := zlw_tr hLm0 (zlw_fr hfm6 rfl)
  obtain ⟨hRNSm6, hRTRm6, hRWDm6, hvm6⟩ := hvm6
  have hRKNm6 := zR_KN_fr (zdis_fr hfm6 rfl) hRKNm0
  have hRLRm6 := zR_LR_fr (zdis_fr hfm6 rfl) hRLRm0
  have hRLTm6 := zR_LT_fr (zdis_fr hfm6 rfl) hRLTm0
  have s8 := hRNSm6 a0 hc0
  have r9 : 0 ≤ (m6 a0 7) ∧ (m6 a0 7) ≤ 700 := zi_rd hIm6 hc0 zb_28_7
  have r10 : 0 ≤ (m6 a0 8) ∧ (m6 a0 8) ≤ 6 := zi_rd hIm6 hc0 zb_28_8
  refine zw_ite (fun h11 => ?_) (fun h11 => ?_)
  · refine zw_bd (zw_eq (zu_call_at (zt_T n) (zm_85 n) (zdp_85 n) _ _ _ _ _ rfl (zr_85_0 n _ _ a0 1 m6)) ?_)
    generalize hmm13 : zu_up m6 a0 4 1 = m13
    have hIm13 := zi_up hmm13 hIm6 hc0 zb_28_4 (by omega) (by omega)
    have hFm13 := zfr_up hmm13 hFm6 hc0 rfl
    have hLm13 := zlw_tr hLm6 (zlw_fr (zfr_up hmm13 (zfr_rf [(28, 1), (28, 2), (28, 3), (28, 4), (28, 5), (28, 6), (28, 7), (28, 8), (28, 9), (28, 10), (28, 11), (28, 12), (28, 23), (28, 24), (28, 43), (105, 0)] _) hc0 rfl) rfl)
    have hRKNm13 := zR_KN_fr (zdis_fr (zfr_up hmm13 (zfr_rf [(28, 5)] _) hc0 rfl) rfl) hRKNm6
    have hRLTm13 := zR_LT_fr (zdis_fr (zfr_up hmm13 (zfr_rf [(28, 5)] _) hc0 rfl) rfl) hRLTm6
    have hRNSm13 := zR_NS_fr (zdis_fr (zfr_up hmm13 (zfr_rf [(28, 5)] _) hc0 rfl) rfl) hRNSm6
    have hRTRm13 := zR_TR_fr (zdis_fr (zfr_up hmm13 (zfr_rf [(28, 5)] _) hc0 rfl) rfl) hRTRm6
    have hRWDm13 := zR_WD_fr (zdis_fr (zfr_up hmm13 (zfr_rf [(28, 5)] _) hc0 rfl) rfl) hRWDm6
    have hRLRm13 := zLR_wr (zone_190 hc0) hmm13 (by decide)
    have r14 : 0 ≤ (m13 a0 10) ∧ (m13 a0 10) ≤ 700 := zi_rd hIm13 hc0 zb_28_10
    generalize hmm15 : zu_up m13 a0 5 (m13 a0 10) = m15
    have hIm15 := zi_up hmm15 hIm13 hc0 zb_28_5 (by omega) (by omega)
    have hFm15 := zfr_up hmm15 hFm13 hc0 rfl
    have hLm15 := zlw_tr hLm13 (zlw_fr (zfr_up hmm15 (zfr_rf [(28, 1), (28, 2), (28, 3), (28, 4), (28, 5), (28, 6), (28, 7), (28, 8), (28, 9), (28, 10), (28, 11), (28, 12), (28, 23), (28, 24), (28, 43), (105, 0)] _) hc0 rfl) rfl)
    have hRKNm15 := zR_KN_fr (zdis_fr (zfr_up hmm15 (zfr_rf [(28, 6)] _) hc0 rfl) rfl) hRKNm13
    have hRLRm15 := zR_LR_fr (zdis_fr (zfr_up hmm15 (zfr_rf [(28, 6)] _) hc0 rfl) rfl) hRLRm13
    have hRLTm15 := zR_LT_fr (zdis_fr (zfr_up hmm15 (zfr_rf [(28, 6)] _) hc0 rfl) rfl) hRLTm13
    have hRNSm15 := zR_NS_fr (zdis_fr (zfr_up hmm15 (zfr_rf [(28, 6)] _) hc0 rfl) rfl) hRNSm13
    have hRTRm15 := zR_TR_fr (zdis_fr (zfr_up hmm15 (zfr_rf [(28, 6)] _) hc0 rfl) rfl) hRTRm13
    have hRWDm15 := zR_WD_fr (zdis_fr (zfr_up hmm15 (zfr_rf [(28, 6)] _) hc0 rfl) rfl) hRWDm13
    refine zw_b (by omega) ?_
    refine zw_some ?_
    refine zw_b (by omega) ?_
    have r16 : 0 ≤ (m15 a0 7) ∧ (m15 a0 7) ≤ 700 := zi_rd hIm15 hc0 zb_28_7
    have e17 : (m15 a0 7) = (m6 a0 7) := (Eq.trans (zs_ne hmm15 (Or.inr (by decide))) (zs_ne hmm13 (Or.inr (by decide))))
    have r18 : 0 ≤ (m15 a0 8) ∧ (m15 a0 8) ≤ 6 := zi_rd hIm15 hc0 zb_28_8
    have e19 : (m15 a0 8) = (m6 a0 8) := (Eq.trans (zs_ne hmm15 (Or.inr (by decide))) (zs_ne hmm13 (Or.inr (by decide))))
    have r20 : 0 ≤ (m15 a0 21) ∧ (m15 a0 21) ≤ 64 := zi_rd hIm15 hc0 zb_28_21
    have e21 : (m15 a0 21) = (m0 a0 21) := (Eq.trans (zs_ne hmm15 (Or.inr (by decide))) (Eq.trans (zs_ne hmm13 (Or.inr (by decide))) (zfr_ap hfm6 hc0 rfl)))
    have r22 : 0 ≤ (m15 a0 48) ∧ (m15 a0 48) ≤ 64 := zi_rd hIm15 hc0 zb_28_48
    have e23 : (m15 a0 48) = (m0 a0 48) := (Eq.trans (zs_ne hmm15 (Or.inr (by decide))) (Eq.trans (zs_ne hmm13 (Or.inr (by decide))) (zfr_ap hfm6 hc0 rfl)))
    have r24 : (-2147483648) ≤ (m15 a0 4) ∧ (m15 a0 4) ≤ 2147483647 := zi_rd hIm15 hc0 zb_28_4
    have e25 : (m15 a0 4) = 1 := (Eq.trans (zs_ne hmm15 (Or.inr (by decide))) (zs_eq hmm13))
    exact zw_some ⟨hIm15, hFm15, hLm15, hRKNm15, hRLRm15, hRLTm15, hRNSm15, hRTRm15, hRWDm15, ⟨by decide, by decide⟩, by omega, fun h => absurd h (by decide), fun h => absurd h (by decide), fun h => absurd h (by decide)⟩
  · have s12 := (hRTRm6 a0 hc0).2.1 (by omega)
    refine zw_ite (fun h26 => ?_) (fun h26 => ?_)
    · refine zw_bd (zw_eq (zu_call_at (zt_T n) (zm_85 n) (zdp_85 n) _ _ _ _ _ rfl (zr_85_0 n _ _ a0 1 m6)) ?_)
      generalize hmm27 : zu_up m6 a0 4 1 = m27
      have hIm27 := zi_up hmm27 hIm6 hc0 zb_28_4 (by omega) (by omega)
      have hFm27 := zfr_up hmm27 hFm6 hc0 rfl
      have hLm27 := zlw_tr hLm6 (zlw_fr (zfr_up hmm27 (zfr_rf [(28, 1), (28, 2), (28, 3), (28, 4), (28, 5), (28, 6), (28, 7), (28, 8), (28, 9), (28, 10), (28, 11), (28, 12), (28, 23), (28, 24), (28, 43), (105, 0)] _) hc0 rfl) rfl)
      have hRKNm27 := zR_KN_fr (zdis_fr (zfr_up hmm27 (zfr_rf [(28, 5)] _) hc0 rfl) rfl) hRKNm6
      have hRLTm27 := zR_LT_fr (zdis_fr (zfr_up hmm27 (zfr_rf [(28, 5)] _) hc0 rfl) rfl) hRLTm6
      have hRNSm27 := zR_NS_fr (zdis_fr (zfr_up hmm27 (zfr_rf [(28, 5)] _) hc0 rfl) rfl) hRNSm6
      have hRTRm27 := zR_TR_fr (zdis_fr (zfr_up hmm27 (zfr_rf [(28, 5)] _) hc0 rfl) rfl) hRTRm6
      have hRWDm27 := zR_WD_fr (zdis_fr (zfr_up hmm27 (zfr_rf [(28, 5)] _) hc0 rfl) rfl) hRWDm6
      have hRLRm27 := zLR_wr (zone_190 hc0) hmm27 (by decide)
      have r28 : 0 ≤ (m27 a0 10) ∧ (m27 a0 10) ≤ 700 := zi_rd hIm27 hc0 zb_28_10
      generalize hmm29 : zu_up m27 a0 5 (m27 a0 10) = m29
      have hIm29 := zi_up hmm29 hIm27 hc0 zb_28_5 (by omega) (by omega)
      have hFm29 := zfr_up hmm29 hFm27 hc0 rfl
      have hLm29 := zlw_tr hLm27 (zlw_fr (zfr_up hmm29 (zfr_rf [(28, 1), (28, 2), (28, 3), (28, 4), (28, 5), (28, 6), (28, 7), (28, 8), (28, 9), (28, 10), (28, 11), (28, 12), (28, 23), (28, 24), (28, 43), (105, 0)] _) hc0 rfl) rfl)
      have hRKNm29 := zR_KN_fr (zdis_fr (zfr_up hmm29 (zfr_rf [(28, 6)] _) hc0 rfl) rfl) hRKNm27
      have hRLRm29 := zR_LR_fr (zdis_fr (zfr_up hmm29 (zfr_rf [(28, 6)] _) hc0 rfl) rfl) hRLRm27
      have hRLTm29 := zR_LT_fr (zdis_fr (zfr_up hmm29 (zfr_rf [(28, 6)] _) hc0 rfl) rfl) hRLTm27
      have hRNSm29 := zR_NS_fr (zdis_fr (zfr_up hmm29 (zfr_rf [(28, 6)] _) hc0 rfl) rfl) hRNSm27
      have hRTRm29 := zR_TR_fr (zdis_fr (zfr_up hmm29 (zfr_rf [(28, 6)] _) hc0 rfl) rfl) hRTRm27
      have hRWDm29 := zR_WD_fr (zdis_fr (zfr_up hmm29 (zfr_rf [(28, 6)] _) hc0 rfl) rfl) hRWDm27
      refine zw_b (by omega) ?_
      refine zw_some ?_
      refine zw_b (by omega) ?_
      have r30 : 0 ≤ (m29 a0 7) ∧ (m29 a0 7) ≤ 700 := zi_rd hIm29 hc0 zb_28_7
      have e31 : (m29 a0 7) = (m6 a0 7) := (Eq.trans (zs_ne hmm29 (Or.inr (by decide))) (zs_ne hmm27 (Or.inr (by decide))))
      have r32 : 0 ≤ (m29 a0 8) ∧ (m29 a0 8) ≤ 6 := zi_rd hIm29 hc0 zb_28_8
      have e33 : (m29 a0 8) = (m6 a0 8) := (Eq.trans (zs_ne hmm29 (Or.inr (by decide))) (zs_ne hmm27 (Or.inr (by decide))))
      have r34 : 0 ≤ (m29 a0 21) ∧ (m29 a0 21) ≤ 64 := zi_rd hIm29 hc0 zb_28_21
      have e35 : (m29 a0 21) = (m0 a0 21) := (Eq.trans (zs_ne hmm29 (Or.inr (by decide))) (Eq.trans (zs_ne hmm27 (Or.inr (by decide))) (zfr_ap hfm6 hc0 rfl)))
      have r36 : 0 ≤ (m29 a0 48) ∧ (m29 a0 48) ≤ 64 := zi_rd hIm29 hc0 zb_28_48
      have e37 : (m29 a0 48) = (m0 a0 48) := (Eq.trans (zs_ne hmm29 (Or.inr (by decide))) (Eq.trans (zs_ne hmm27 (Or.inr (by decide))) (zfr_ap hfm6 hc0 rfl)))
      have r38 : (-2147483648) ≤ (m29 a0 4) ∧ (m29 a0 4) ≤ 2147483647 := zi_rd hIm29 hc0 zb_28_4
      have e39 : (m29 a0 4) = 1 := (Eq.trans (zs_ne hmm29 (Or.inr (by decide))) (zs_eq hmm27))
      exact zw_some ⟨hIm29, hFm29, hLm29, hRKNm29, hRLRm29, hRLTm29, hRNSm29, hRTRm29, hRWDm29, ⟨by decide, by decide⟩, by omega, fun h => absurd h (by decide), fun h => absurd h (by decide), fun h => absurd h (by decide)⟩
    · refine zw_ite (fun h40 => ?_) (fun h40 => ?_)
      · have w41 := zu_w32_id (z := 4 + (m6 a0 9)) (by omega) (by omega)
        have w42 := zu_w32_id (z := (zu_w32 (4 + (m6 a0 9))) - 19) (by omega) (by omega)
        have b43 : 0 ≤ (zu_w32 ((zu_w32 (4 + (m6 a0 9))) - 19)) ∧ (zu_w32 ((zu_w32 (4 + (m6 a0 9))) - 19)) < 8 := by omega
        refine zw_if b43 ?_
        have r44 : 0 ≤ (m6 205 (zu_w32 ((zu_w32 (4 + (m6 a0 9))) - 19))) ∧ (m6 205 (zu_w32 ((zu_w32 (4 + (m6 a0 9))) - 19))) ≤ 1 := zi_rd hIm6 zq_205 (zb_114 _)
        refine zw_ite (fun h45 => ?_) (fun h45 => ?_)
        · refine zw_b (by omega) ?_
          have b46 : 0 ≤ (zu_w32 ((zu_w32 (4 + (m6 a0 9))) - 19)) ∧ (zu_w32 ((zu_w32 (4 + (m6 a0 9))) - 19)) < 8 := by omega
          refine zw_if b46 ?_
          generalize hmm47 : zu_up m6 205 (zu_w32 ((zu_w32 (4 + (m6 a0 9))) - 19)) 1 = m47
          have hIm47 := zi_up hmm47 hIm6 zq_205 (zb_114 _) (by omega) (by omega)
          have hFm47 := zfr_up hmm47 hFm6 zq_205 rfl
          have hLm47 := zlw_up205 hmm47 hLm6 (by omega)
          have hRKNm47 := zR_KN_fr (zdis_fr (zfr_up hmm47 (zfr_rf [(114, 0)] _) zq_205 rfl) rfl) hRKNm6
          have hRNSm47 := zR_NS_fr (zdis_fr (zfr_up hmm47 (zfr_rf [(114, 0)] _) zq_205 rfl) rfl) hRNSm6
          have hRTRm47 := zR_TR_fr (zdis_fr (zfr_up hmm47 (zfr_rf [(114, 0)] _) zq_205 rfl) rfl) hRTRm6
          have hRWDm47 := zR_WD_fr (zdis_fr (zfr_up hmm47 (zfr_rf [(114, 0)] _) zq_205 rfl) rfl) hRWDm6
          have r48 : (-2147483648) ≤ (m6 a0 4) ∧ (m6 a0 4) ≤ 2147483647 := zi_rd hIm6 hc0 zb_28_4
          have e49 : (m6 a0 4) = (m0 a0 4) := (zfr_ap hfm6 hc0 rfl)
          have hRLTm47 := zLT_h5 hmm47 (by omega) hRLTm6
          have r52 : 0 ≤ (m47 a0 7) ∧ (m47 a0 7) ≤ 700 := zi_rd hIm47 hc0 zb_28_7
          have e53 : (m47 a0 7) = (m6 a0 7) := (zs_ne hmm47 (Or.inl (zc_ne hc0 zq_205 (by decide))))
          refine zw_bd (zw_mono (zk_89 n hIm47 hc0 hRNSm47 hRWDm47) (fun v51 m50 hqm50 => ?_))
          obtain ⟨hIm50, hfm50, hvm50⟩ := hqm50
          have hFm50 := zfr_tr hFm47 hfm50 rfl
          have hLm50 := zlw_tr hLm47 (zlw_fr hfm50 rfl)
          obtain ⟨hRNSm50, hRTRm50, hRWDm50, hvm50⟩ := hvm50
          have hRKNm50 := zR_KN_fr (zdis_fr hfm50 rfl) hRKNm47
          have hRLTm50 := zR_LT_fr (zdis_fr hfm50 rfl) hRLTm47
          have s54 := hRNSm50 a0 hc0
          have r55 : 0 ≤ (m50 a0 7) ∧ (m50 a0 7) ≤ 700 := zi_rd hIm50 hc0 zb_28_7
          have r56 : 0 ≤ (m50 a0 8) ∧ (m50 a0 8) ≤ 6 := zi_rd hIm50 hc0 zb_28_8
          have r57 : 0 ≤ (m50 a0 21) ∧ (m50 a0 21) ≤ 64 := zi_rd hIm50 hc0 zb_28_21
          have e58 : (m50 a0 21) = (m0 a0 21) := (Eq.trans (zfr_ap hfm50 hc0 rfl) (Eq.trans (zs_ne hmm47 (Or.inl (zc_ne hc0 zq_205 (by decide)))) (zfr_ap hfm6 hc0 rfl)))
          have b59 : 0 ≤ (zu_w32 ((zu_w32 (4 + (m6 a0 9))) - 19)) ∧ (zu_w32 ((zu_w32 (4 + (m6 a0 9))) - 19)) < 8 := by omega
          refine zw_if b59 ?_
          generalize hmm60 : zu_up m50 206 (zu_w32 ((zu_w32 (4 + (m6 a0 9))) - 19)) (m50 a0 21) = m60
          have hIm60 := zi_up hmm60 hIm50 zq_206 (zb_115 _) (by omega) (by omega)
          have hFm60 := zfr_up hmm60 hFm50 zq_206 rfl
          have hLm60 := zlw_up206 hmm60 hLm50 (by omega)
          have hRKNm60 := zR_KN_fr (zdis_fr (zfr_up hmm60 (zfr_rf [(115, 0)] _) zq_206 rfl) rfl) hRKNm50
          have hRLTm60 := zR_LT_fr (zdis_fr (zfr_up hmm60 (zfr_rf [(115, 0)] _) zq_206 rfl) rfl) hRLTm50
          have hRNSm60 := zR_NS_fr (zdis_fr (zfr_up hmm60 (zfr_rf [(115, 0)] _) zq_206 rfl) rfl) hRNSm50
          have hRTRm60 := zR_TR_fr (zdis_fr (zfr_up hmm60 (zfr_rf [(115, 0)] _) zq_206 rfl) rfl) hRTRm50
          have hRWDm60 := zR_WD_fr (zdis_fr (zfr_up hmm60 (zfr_rf [(115, 0)] _) zq_206 rfl) rfl) hRWDm50
          have r61 : 0 ≤ (m60 a0 21) ∧ (m60 a0 21) ≤ 64 := zi_rd hIm60 hc0 zb_28_21
          have e62 : (m60 a0 21) = (m50 a0 21) := (zs_ne hmm60 (Or.inl (zc_ne hc0 zq_206 (by decide))))
          have r63 : 0 ≤ (m60 a0 48) ∧ (m60 a0 48) ≤ 64 := zi_rd hIm60 hc0 zb_28_48
          have e64 : (m60 a0 48) = (m0 a0 48) := (Eq.trans (zs_ne hmm60 (Or.inl (zc_ne hc0 zq_206 (by decide)))) (Eq.trans (zfr_ap hfm50 hc0 rfl) (Eq.trans (zs_ne hmm47 (Or.inl (zc_ne hc0 zq_205 (by decide)))) (zfr_ap hfm6 hc0 rfl))))
          have r67 : 0 ≤ (m60 a0 7) ∧ (m60 a0 7) ≤ 700 := zi_rd hIm60 hc0 zb_28_7
          have e68 : (m60 a0 7) = (m50 a0 7) := (zs_ne hmm60 (Or.inl (zc_ne hc0 zq_206 (by decide))))
          have r69 : (-2147483648) ≤ (m60 a0 4) ∧ (m60 a0 4) ≤ 2147483647 := zi_rd hIm60 hc0 zb_28_4
          have e70 : (m60 a0 4) = (m6 a0 4) := (Eq.trans (zs_ne hmm60 (Or.inl (zc_ne hc0 zq_206 (by decide)))) (Eq.trans (zfr_ap hfm50 hc0 rfl) (zs_ne hmm47 (Or.inl (zc_ne hc0 zq_205 (by decide))))))
          refine zw_bd (zw_mono (zk_118k n hIm60 hc0 (by omega) hRKNm60 hRNSm60 hRTRm60 hRWDm60) (fun v66 m65 hqm65 => ?_))
          obtain ⟨hIm65, hfm65, hlm65, hvm65⟩ := hqm65
          have hFm65 := zfr_tr hFm60 hfm65 rfl
          have hLm65 := zlw_tr hLm60 (zlw_l hfm65 rfl hlm65 (zi_rd hIm60 zq_190 zb_28_21).1)
          obtain ⟨hRKNm65, hRNSm65, hRTRm65, hRWDm65, hvm65⟩ := hvm65
          have hRLTm65 := zR_LT_fr (zdis_fr hfm65 rfl) hRLTm60
          have s71 := hRNSm65 a0 hc0
          have r72 : 0 ≤ (m65 a0 7) ∧ (m65 a0 7) ≤ 700 := zi_rd hIm65 hc0 zb_28_7
          have r73 : 0 ≤ (m65 a0 21) ∧ (m65 a0 21) ≤ 64 := zi_rd hIm65 hc0 zb_28_21
          have r74 : 0 ≤ (m65 a0 48) ∧ (m65 a0 48) ≤ 64 := zi_rd hIm65 hc0 zb_28_48
          have r75 : (-2147483648) ≤ (m65 a0 4) ∧ (m65 a0 4) ≤ 2147483647 := zi_rd hIm65 hc0 zb_28_4
          have y76 := (hvm65.1)
          have y77 := (hvm65.2.1)
          have y78 := zhid_mk (hvm65.2.2.1)
          have y79 := zhid_mk (hvm65.2.2.2.1)
          have y80 := zhid_mk (hvm65.2.2.2.2)
          clear hvm65
          have b81 : 0 ≤ (zu_w32 ((zu_w32 (4 + (m6 a0 9))) - 19)) ∧ (zu_w32 ((zu_w32 (4 + (m6 a0 9))) - 19)) < 8 := by omega
          refine zw_if b81 ?_
          generalize hmm82 : zu_up m65 207 (zu_w32 ((zu_w32 (4 + (m6 a0 9))) - 19)) (m65 a0 21) = m82
          have hIm82 := zi_up hmm82 hIm65 zq_207 (zb_116 _) (by omega) (by omega)
          have hFm82 := zfr_up hmm82 hFm65 zq_207 rfl
          have hLm82 := zlw_up207 hmm82 hLm65 (by omega)
          have hRKNm82 := zR_KN_fr (zdis_fr (zfr_up hmm82 (zfr_rf [(116, 0)] _) zq_207 rfl) rfl) hRKNm65
          have hRNSm82 := zR_NS_fr (zdis_fr (zfr_up hmm82 (zfr_rf [(116, 0)] _) zq_207 rfl) rfl) hRNSm65
          have hRTRm82 := zR_TR_fr (zdis_fr (zfr_up hmm82 (zfr_rf [(116, 0)] _) zq_207 rfl) rfl) hRTRm65
          have hRWDm82 := zR_WD_fr (zdis_fr (zfr_up hmm82 (zfr_rf [(116, 0)] _) zq_207 rfl) rfl) hRWDm65
          have r83 : (-2147483648) ≤ (m82 a0 4) ∧ (m82 a0 4) ≤ 2147483647 := zi_rd hIm82 hc0 zb_28_4
          have e84 : (m82 a0 4) = (m65 a0 4) := (zs_ne hmm82 (Or.inl (zc_ne hc0 zq_207 (by decide))))
          have s85 := zhid_of y78
          have s86 := zhid_of y79
          have s87 := zhid_of y80
          have hRLTm82 := zLT_h7 hmm82 (by omega) hRLTm65
          have hRLRm82 := zLR_law (zone_190 hc0) hRLRm6 (by omega) hmm47 (fun _ => (Eq.trans (zfr_ap hfm65 zq_205 rfl) (Eq.trans (zs_ne hmm60 (Or.inl (zc_ne zq_205 zq_206 (by decide)))) (zfr_ap hfm50 zq_205 rfl)))) (fun _ => (Eq.trans (zfr_ap hfm65 zq_207 rfl) (Eq.trans (zs_ne hmm60 (Or.inl (zc_ne zq_207 zq_206 (by decide)))) (zfr_ap hfm50 zq_207 rfl)))) hmm82 (by omega)
          refine zw_b (by omega) ?_
          have r88 : 0 ≤ (m82 a0 7) ∧ (m82 a0 7) ≤ 700 := zi_rd hIm82 hc0 zb_28_7
          have e89 : (m82 a0 7) = (m65 a0 7) := (zs_ne hmm82 (Or.inl (zc_ne hc0 zq_207 (by decide))))
          have r90 : 0 ≤ (m82 a0 8) ∧ (m82 a0 8) ≤ 6 := zi_rd hIm82 hc0 zb_28_8
          have r91 : 0 ≤ (m82 a0 21) ∧ (m82 a0 21) ≤ 64 := zi_rd hIm82 hc0 zb_28_21
          have e92 : (m82 a0 21) = (m65 a0 21) := (zs_ne hmm82 (Or.inl (zc_ne hc0 zq_207 (by decide))))
          have r93 : 0 ≤ (m82 a0 48) ∧ (m82 a0 48) ≤ 64 := zi_rd hIm82 hc0 zb_28_48
          have e94 : (m82 a0 48) = (m65 a0 48) := (zs_ne hmm82 (Or.inl (zc_ne hc0 zq_207 (by decide))))
          have s95 := zhid_of y78
          have s96 := zhid_of y79
          have s97 := zhid_of y80
          exact zw_some ⟨hIm82, hFm82, hLm82, hRKNm82, hRLRm82, hRLTm82, hRNSm82, hRTRm82, hRWDm82, ⟨by omega, by omega⟩, by omega, by omega, by omega, by omega⟩
        · refine zw_bd (zw_eq (zu_call_at (zt_T n) (zm_85 n) (zdp_85 n) _ _ _ _ _ rfl (zr_85_0 n _ _ a0 3 m6)) ?_)
          generalize hmm98 : zu_up m6 a0 4 3 = m98
          have hIm98 := zi_up hmm98 hIm6 hc0 zb_28_4 (by omega) (by omega)
          have hFm98 := zfr_up hmm98 hFm6 hc0 rfl
          have hLm98 := zlw_tr hLm6 (zlw_fr (zfr_up hmm98 (zfr_rf [(28, 1), (28, 2), (28, 3), (28, 4), (28, 5), (28, 6), (28, 7), (28, 8), (28, 9), (28, 10), (28, 11), (28, 12), (28, 23), (28, 24), (28, 43), (105, 0)] _) hc0 rfl) rfl)
          have hRKNm98 := zR_KN_fr (zdis_fr (zfr_up hmm98 (zfr_rf [(28, 5)] _) hc0 rfl) rfl) hRKNm6
          have hRLTm98 := zR_LT_fr (zdis_fr (zfr_up hmm98 (zfr_rf [(28, 5)] _) hc0 rfl) rfl) hRLTm6
          have hRNSm98 := zR_NS_fr (zdis_fr (zfr_up hmm98 (zfr_rf [(28, 5)] _) hc0 rfl) rfl) hRNSm6
          have hRTRm98 := zR_TR_fr (zdis_fr (zfr_up hmm98 (zfr_rf [(28, 5)] _) hc0 rfl) rfl) hRTRm6
          have hRWDm98 := zR_WD_fr (zdis_fr (zfr_up hmm98 (zfr_rf [(28, 5)] _) hc0 rfl) rfl) hRWDm6
          have hRLRm98 := zLR_wr (zone_190 hc0) hmm98 (by decide)
          have r99 : 0 ≤ (m98 a0 10) ∧ (m98 a0 10) ≤ 700 := zi_rd hIm98 hc0 zb_28_10
          generalize hmm100 : zu_up m98 a0 5 (m98 a0 10) = m100
          have hIm100 := zi_up hmm100 hIm98 hc0 zb_28_5 (by omega) (by omega)
          have hFm100 := zfr_up hmm100 hFm98 hc0 rfl
          have hLm100 := zlw_tr hLm98 (zlw_fr (zfr_up hmm100 (zfr_rf [(28, 1), (28, 2), (28, 3), (28, 4), (28, 5), (28, 6), (28, 7), (28, 8), (28, 9), (28, 10), (28, 11), (28, 12), (28, 23), (28, 24), (28, 43), (105, 0)] _) hc0 rfl) rfl)
          have hRKNm100 := zR_KN_fr (zdis_fr (zfr_up hmm100 (zfr_rf [(28, 6)] _) hc0 rfl) rfl) hRKNm98
          have hRLRm100 := zR_LR_fr (zdis_fr (zfr_up hmm100 (zfr_rf [(28, 6)] _) hc0 rfl) rfl) hRLRm98
          have hRLTm100 := zR_LT_fr (zdis_fr (zfr_up hmm100 (zfr_rf [(28, 6)] _) hc0 rfl) rfl) hRLTm98
          have hRNSm100 := zR_NS_fr (zdis_fr (zfr_up hmm100 (zfr_rf [(28, 6)] _) hc0 rfl) rfl) hRNSm98
          have hRTRm100 := zR_TR_fr (zdis_fr (zfr_up hmm100 (zfr_rf [(28, 6)] _) hc0 rfl) rfl) hRTRm98
          have hRWDm100 := zR_WD_fr (zdis_fr (zfr_up hmm100 (zfr_rf [(28, 6)] _) hc0 rfl) rfl) hRWDm98
          refine zw_b (by omega) ?_
          refine zw_some ?_
          refine zw_b (by omega) ?_
          have r101 : 0 ≤ (m100 a0 7) ∧ (m100 a0 7) ≤ 700 := zi_rd hIm100 hc0 zb_28_7
          have e102 : (m100 a0 7) = (m6 a0 7) := (Eq.trans (zs_ne hmm100 (Or.inr (by decide))) (zs_ne hmm98 (Or.inr (by decide))))
          have r103 : 0 ≤ (m100 a0 8) ∧ (m100 a0 8) ≤ 6 := zi_rd hIm100 hc0 zb_28_8
          have e104 : (m100 a0 8) = (m6 a0 8) := (Eq.trans (zs_ne hmm100 (Or.inr (by decide))) (zs_ne hmm98 (Or.inr (by decide))))
          have r105 : 0 ≤ (m100 a0 21) ∧ (m100 a0 21) ≤ 64 := zi_rd hIm100 hc0 zb_28_21
          have e106 : (m100 a0 21) = (m0 a0 21) := (Eq.trans (zs_ne hmm100 (Or.inr (by decide))) (Eq.trans (zs_ne hmm98 (Or.inr (by decide))) (zfr_ap hfm6 hc0 rfl)))
          have r107 : 0 ≤ (m100 a0 48) ∧ (m100 a0 48) ≤ 64 := zi_rd hIm100 hc0 zb_28_48
          have e108 : (m100 a0 48) = (m0 a0 48) := (Eq.trans (zs_ne hmm100 (Or.inr (by decide))) (Eq.trans (zs_ne hmm98 (Or.inr (by decide))) (zfr_ap hfm6 hc0 rfl)))
          have r109 : (-2147483648) ≤ (m100 a0 4) ∧ (m100 a0 4) ≤ 2147483647 := zi_rd hIm100 hc0 zb_28_4
          have e110 : (m100 a0 4) = 3 := (Eq.trans (zs_ne hmm100 (Or.inr (by decide))) (zs_eq hmm98))
          exact zw_some ⟨hIm100, hFm100, hLm100, hRKNm100, hRLRm100, hRLTm100, hRNSm100, hRTRm100, hRWDm100, ⟨by decide, by decide⟩, by omega, fun h => absurd h (by decide), fun h => absurd h (by decide), fun h => absurd h (by decide)⟩
      · refine zw_bd (zw_eq (zu_call_at (zt_T n) (zm_85 n) (zdp_85 n) _ _ _ _ _ rfl (zr_85_0 n _ _ a0 1 m6)) ?_)
        generalize hmm111 : zu_up m6 a0 4 1 = m111
        have hIm111 := zi_up hmm111 hIm6 hc0 zb_28_4 (by omega) (by omega)
        have hFm111 := zfr_up hmm111 hFm6 hc0 rfl
        have hLm111 := zlw_tr hLm6 (zlw_fr (zfr_up hmm111 (zfr_rf [(28, 1), (28, 2), (28, 3), (28, 4), (28, 5), (28, 6), (28, 7), (28, 8), (28, 9), (28, 10), (28, 11), (28, 12), (28, 23), (28, 24), (28, 43), (105, 0)] _) hc0 rfl) rfl)
        have hRKNm111 := zR_KN_fr (zdis_fr (zfr_up hmm111 (zfr_rf [(28, 5)] _) hc0 rfl) rfl) hRKNm6
        have hRLTm111 := zR_LT_fr (zdis_fr (zfr_up hmm111 (zfr_rf [(28, 5)] _) hc0 rfl) rfl) hRLTm6
        have hRNSm111 := zR_NS_fr (zdis_fr (zfr_up hmm111 (zfr_rf [(28, 5)] _) hc0 rfl) rfl) hRNSm6
        have hRTRm111 := zR_TR_fr (zdis_fr (zfr_up hmm111 (zfr_rf [(28, 5)] _) hc0 rfl) rfl) hRTRm6
        have hRWDm111 := zR_WD_fr (zdis_fr (zfr_up hmm111 (zfr_rf [(28, 5)] _) hc0 rfl) rfl) hRWDm6
        have hRLRm111 := zLR_wr (zone_190 hc0) hmm111 (by decide)
        have r112 : 0 ≤ (m111 a0 10) ∧ (m111 a0 10) ≤ 700 := zi_rd hIm111 hc0 zb_28_10
        generalize hmm113 : zu_up m111 a0 5 (m111 a0 10) = m113
        have hIm113 := zi_up hmm113 hIm111 hc0 zb_28_5 (by omega) (by omega)
        have hFm113 := zfr_up hmm113 hFm111 hc0 rfl
        have hLm113 := zlw_tr hLm111 (zlw_fr (zfr_up hmm113 (zfr_rf [(28, 1), (28, 2), (28, 3), (28, 4), (28, 5), (28, 6), (28, 7), (28, 8), (28, 9), (28, 10), (28, 11), (28, 12), (28, 23), (28, 24), (28, 43), (105, 0)] _) hc0 rfl) rfl)
        have hRKNm113 := zR_KN_fr (zdis_fr (zfr_up hmm113 (zfr_rf [(28, 6)] _) hc0 rfl) rfl) hRKNm111
        have hRLRm113 := zR_LR_fr (zdis_fr (zfr_up hmm113 (zfr_rf [(28, 6)] _) hc0 rfl) rfl) hRLRm111
        have hRLTm113 := zR_LT_fr (zdis_fr (zfr_up hmm113 (zfr_rf [(28, 6)] _) hc0 rfl) rfl) hRLTm111
        have hRNSm113 := zR_NS_fr (zdis_fr (zfr_up hmm113 (zfr_rf [(28, 6)] _) hc0 rfl) rfl) hRNSm111
        have hRTRm113 := zR_TR_fr (zdis_fr (zfr_up hmm113 (zfr_rf [(28, 6)] _) hc0 rfl) rfl) hRTRm111
        have hRWDm113 := zR_WD_fr (zdis_fr (zfr_up hmm113 (zfr_rf [(28, 6)] _) hc0 rfl) rfl) hRWDm111
        refine zw_b (by omega) ?_
        refine zw_some ?_
        refine zw_b (by omega) ?_
        have r114 : 0 ≤ (m113 a0 7) ∧ (m113 a0 7) ≤ 700 := zi_rd hIm113 hc0 zb_28_7
        have e115 : (m113 a0 7) = (m6 a0 7) := (Eq.trans (zs_ne hmm113 (Or.inr (by decide))) (zs_ne hmm111 (Or.inr (by decide))))
        have r116 : 0 ≤ (m113 a0 8) ∧ (m113 a0 8) ≤ 6 := zi_rd hIm113 hc0 zb_28_8
        have e117 : (m113 a0 8) = (m6 a0 8) := (Eq.trans (zs_ne hmm113 (Or.inr (by decide))) (zs_ne hmm111 (Or.inr (by decide))))
        have r118 : 0 ≤ (m113 a0 21) ∧ (m113 a0 21) ≤ 64 := zi_rd hIm113 hc0 zb_28_21
        have e119 : (m113 a0 21) = (m0 a0 21) := (Eq.trans (zs_ne hmm113 (Or.inr (by decide))) (Eq.trans (zs_ne hmm111 (Or.inr (by decide))) (zfr_ap hfm6 hc0 rfl)))
        have r120 : 0 ≤ (m113 a0 48) ∧ (m113 a0 48) ≤ 64 := zi_rd hIm113 hc0 zb_28_48
        have e121 : (m113 a0 48) = (m0 a0 48) := (Eq.trans (zs_ne hmm113 (Or.inr (by decide))) (Eq.trans (zs_ne hmm111 (Or.inr (by decide))) (zfr_ap hfm6 hc0 rfl)))
        have r122 : (-2147483648) ≤ (m113 a0 4) ∧ (m113 a0 4) ≤ 2147483647 := zi_rd hIm113 hc0 zb_28_4
        have e123 : (m113 a0 4) = 1 := (Eq.trans (zs_ne hmm113 (Or.inr (by decide))) (zs_eq hmm111))
        exact zw_some ⟨hIm113, hFm113, hLm113, hRKNm113, hRLRm113, hRLTm113, hRNSm113, hRTRm113, hRWDm113, ⟨by decide, by decide⟩, by omega, fun h => absurd h (by decide), fun h => absurd h (by decide), fun h => absurd h (by decide)⟩
set_option maxHeartbeats 4000000 in
theorem zk_105w (n : Nat) {a0 : Int} {m0 : zu_m} (hIm0 : zi_I m0) (hc0 : zcls a0 = 28)   (he0 : 1 ≤ m0 a0 8 ∧ m0 a0 8 ≤ 6) (hxp0 : (m0 a0 21) = (m0 a0 48)) (hxp1 : (m0 a0 4) = 0) (hRC0m0 : zR_C0 m0) (hRCRm0 : zR_CR m0) (hRKNm0 : zR_KN m0) (hRLRm0 : zR_LR m0) (hRLTm0 : zR_LT m0) (hRNSm0 : zR_NS m0) (hRTRm0 : zR_TR m0) (hRWDm0 : zR_WD m0) : zw (zu_call (zt_T n) 105 [(40, a0)] m0) (fun v m => zi_I m ∧ zfr [(28, 5), (28, 6), (28, 8), (28, 9), (28, 10), (28, 11), (28, 12), (28, 18), (28, 19), (28, 20), (28, 21), (28, 22), (28, 23), (28, 24), (28, 43), (28, 46), (28, 47), (28, 48), (28, 49), (28, 50), (28, 51), (102, 0), (103, 0), (104, 0), (105, 0), (106, 0), (107, 0), (108, 0), (109, 0), (110, 0), (111, 0), (112, 0), (113, 0), (114, 0), (115, 0), (116, 0), (117, 0), (118, 0), (119, 0), (120, 0), (121, 0)] m0 m ∧ zlw m0 m ∧ zR_C0 m ∧ zR_CR m ∧ zR_KN m ∧ zR_LR m ∧ zR_LT m ∧ zR_NS m ∧ zR_TR m ∧ zR_WD m ∧ (0 ≤ v ∧ v ≤ 1) ∧ (v = 1 → (m0 a0 7) < (m a0 7)) ∧ (v = 1 → (m a0 21) = (m a0 48)) ∧ (v = 1 → (m a0 4) = (m0 a0 4))) := by
  have hFm0 : zfr [(28, 5), (28, 6), (28, 8), (28, 9), (28, 10), (28, 11), (28, 12), (28, 18), (28, 19), (28, 20), (28, 21), (28, 22), (28, 23), (28, 24), (28, 43), (28, 46), (28, 47), (28, 48), (28, 49), (28, 50), (28, 51), (102, 0), (103, 0), (104, 0), (105, 0), (106, 0), (107, 0), (108, 0), (109, 0), (110, 0), (111, 0), (112, 0), (113, 0), (114, 0), (115, 0), (116, 0), (117, 0), (118, 0), (119, 0), (120, 0), (121, 0)] m0 m0 := zfr_rf _ _
  have hLm0 : zlw m0 m0 := zlw_rf _
  have r1 : 0 ≤ (m0 a0 7) ∧ (m0 a0 7) ≤ 700 := zi_rd hIm0 hc0 zb_28_7
  have r2 : (-2147483648) ≤ (m0 a0 4) ∧ (m0 a0 4) ≤ 2147483647 := zi_rd hIm0 hc0 zb_28_4
  have r3 : 0 ≤ (m0 a0 21) ∧ (m0 a0 21) ≤ 64 := zi_rd hIm0 hc0 zb_28_21
  have r4 : 0 ≤ (m0 a0 48) ∧ (m0 a0 48) ≤ 64 := zi_rd hIm0 hc0 zb_28_48
  have s5 := hRNSm0 a0 hc0
  refine zw_eq (zu_call_at (zt_T n) (zm_105 n) (zdp_105 n) _ _ _ _ _ rfl (zr_105_0 n _ _ a0 m0)) ?_
  refine zw_ite (fun h6 => ?_) (fun h6 => ?_)
  · refine zw_bd (zw_eq (zu_call_at (zt_T n) (zm_85 n) (zdp_85 n) _ _ _ _ _ rfl (zr_85_0 n _ _ a0 1 m0)) ?_)
    generalize hmm8 : zu_up m0 a0 4 1 = m8
    have hIm8 := zi_up hmm8 hIm0 hc0 zb_28_4 (by omega) (by omega)
    have hFm8 := zfr_up hmm8 hFm0 hc0 rfl
    have hLm8 := zlw_tr hLm0 (zlw_fr (zfr_up hmm8 (zfr_rf [(28, 1), (28, 2), (28, 3), (28, 4), (28, 5), (28, 6), (28, 7), (28, 8), (28, 9), (28, 10), (28, 11), (28, 12), (28, 23), (28, 24), (28, 43), (105, 0)] _) hc0 rfl) rfl)
    have hRC0m8 := zR_C0_fr (zdis_fr (zfr_up hmm8 (zfr_rf [(28, 5)] _) hc0 rfl) rfl) hRC0m0
    have hRCRm8 := zR_CR_fr (zdis_fr (zfr_up hmm8 (zfr_rf [(28, 5)] _) hc0 rfl) rfl) hRCRm0
    have hRKNm8 := zR_KN_fr (zdis_fr (zfr_up hmm8 (zfr_rf [(28, 5)] _) hc0 rfl) rfl) hRKNm0
    have hRLTm8 := zR_LT_fr (zdis_fr (zfr_up hmm8 (zfr_rf [(28, 5)] _) hc0 rfl) rfl) hRLTm0
    have hRNSm8 := zR_NS_fr (zdis_fr (zfr_up hmm8 (zfr_rf [(28, 5)] _) hc0 rfl) rfl) hRNSm0
    have hRTRm8 := zR_TR_fr (zdis_fr (zfr_up hmm8 (zfr_rf [(28, 5)] _) hc0 rfl) rfl) hRTRm0
    have hRWDm8 := zR_WD_fr (zdis_fr (zfr_up hmm8 (zfr_rf [(28, 5)] _) hc0 rfl) rfl) hRWDm0
    have hRLRm8 := zLR_wr (zone_190 hc0) hmm8 (by decide)
    have r9 : 0 ≤ (m8 a0 10) ∧ (m8 a0 10) ≤ 700 := zi_rd hIm8 hc0 zb_28_10
    generalize hmm10 : zu_up m8 a0 5 (m8 a0 10) = m10
    have hIm10 := zi_up hmm10 hIm8 hc0 zb_28_5 (by omega) (by omega)
    have hFm10 := zfr_up hmm10 hFm8 hc0 rfl
    have hLm10 := zlw_tr hLm8 (zlw_fr (zfr_up hmm10 (zfr_rf [(28, 1), (28, 2), (28, 3), (28, 4), (28, 5), (28, 6), (28, 7), (28, 8), (28, 9), (28, 10), (28, 11), (28, 12), (28, 23), (28, 24), (28, 43), (105, 0)] _) hc0 rfl) rfl)
    have hRC0m10 := zR_C0_fr (zdis_fr (zfr_up hmm10 (zfr_rf [(28, 6)] _) hc0 rfl) rfl) hRC0m8
    have hRCRm10 := zR_CR_fr (zdis_fr (zfr_up hmm10 (zfr_rf [(28, 6)] _) hc0 rfl) rfl) hRCRm8
    have hRKNm10 := zR_KN_fr (zdis_fr (zfr_up hmm10 (zfr_rf [(28, 6)] _) hc0 rfl) rfl) hRKNm8
    have hRLRm10 := zR_LR_fr (zdis_fr (zfr_up hmm10 (zfr_rf [(28, 6)] _) hc0 rfl) rfl) hRLRm8
    have hRLTm10 := zR_LT_fr (zdis_fr (zfr_up hmm10 (zfr_rf [(28, 6)] _) hc0 rfl) rfl) hRLTm8
    have hRNSm10 := zR_NS_fr (zdis_fr (zfr_up hmm10 (zfr_rf [(28, 6)] _) hc0 rfl) rfl) hRNSm8
    have hRTRm10 := zR_TR_fr (zdis_fr (zfr_up hmm10 (zfr_rf [(28, 6)] _) hc0 rfl) rfl) hRTRm8
    have hRWDm10 := zR_WD_fr (zdis_fr (zfr_up hmm10 (zfr_rf [(28, 6)] _) hc0 rfl) rfl) hRWDm8
    refine zw_b (by omega) ?_
    refine zw_some ?_
    refine zw_b (by omega) ?_
    have r11 : 0 ≤ (m10 a0 7) ∧ (m10 a0 7) ≤ 700 := zi_rd hIm10 hc0 zb_28_7
    have e12 : (m10 a0 7) = (m0 a0 7) := (Eq.trans (zs_ne hmm10 (Or.inr (by decide))) (zs_ne hmm8 (Or.inr (by decide))))
    have r13 : 0 ≤ (m10 a0 21) ∧ (m10 a0 21) ≤ 64 := zi_rd hIm10 hc0 zb_28_21
    have e14 : (m10 a0 21) = (m0 a0 21) := (Eq.trans (zs_ne hmm10 (Or.inr (by decide))) (zs_ne hmm8 (Or.inr (by decide))))
    have r15 : 0 ≤ (m10 a0 48) ∧ (m10 a0 48) ≤ 64 := zi_rd hIm10 hc0 zb_28_48
    have e16 : (m10 a0 48) = (m0 a0 48) := (Eq.trans (zs_ne hmm10 (Or.inr (by decide))) (zs_ne hmm8 (Or.inr (by decide))))
    have r17 : (-2147483648) ≤ (m10 a0 4) ∧ (m10 a0 4) ≤ 2147483647 := zi_rd hIm10 hc0 zb_28_4
    have e18 : (m10 a0 4) = 1 := (Eq.trans (zs_ne hmm10 (Or.inr (by decide))) (zs_eq hmm8))
    exact zw_some ⟨hIm10, hFm10, hLm10, hRC0m10, hRCRm10, hRKNm10, hRLRm10, hRLTm10, hRNSm10, hRTRm10, hRWDm10, ⟨by decide, by decide⟩, fun h => absurd h (by decide), fun h => absurd h (by decide), fun h => absurd h (by decide)⟩
  · have s7 := (hRTRm0 a0 hc0).2.1 (by omega)
    refine zw_ite (fun h19 => ?_) (fun h19 => ?_)
    · refine zw_ite (fun h20 => ?_) (fun h20 => ?_)
      · refine zw_ite (fun h21 => ?_) (fun h21 => ?_)
        · refine zw_ite (fun h22 => ?_) (fun h22 => ?_)
          · refine zw_ite (fun h23 => ?_) (fun h23 => ?_)
            · refine zw_ite (fun h24 => ?_) (fun h24 => ?_)
              · refine zw_bd (zw_mono (zk_104 n hIm0 hc0 ⟨by omega, by omega⟩ hRLRm0 hRNSm0 hRTRm0 hRWDm0) (fun v26 m25 hqm25 => ?_))
                obtain ⟨hIm25, hfm25, hvm25⟩ := hqm25
                have hFm25 := zfr_tr hFm0 hfm25 rfl
                have hLm25 := zlw_tr hLm0 (zlw_fr hfm25 rfl)
                obtain ⟨hRLRm25, hRNSm25, hRTRm25, hRWDm25, hvm25⟩ := hvm25
                have hRC0m25 := zR_C0_fr (zdis_fr hfm25 rfl) hRC0m0
                have hRCRm25 := zR_CR_fr (zdis_fr hfm25 rfl) hRCRm0
                have hRKNm25 := zR_KN_fr (zdis_fr hfm25 rfl) hRKNm0
                have hRLTm25 := zR_LT_fr (zdis_fr hfm25 rfl) hRLTm0
                have s27 := hRNSm25 a0 hc0
                have r28 : 0 ≤ (m25 a0 7) ∧ (m25 a0 7) ≤ 700 := zi_rd hIm25 hc0 zb_28_7
                have r29 : 0 ≤ (m25 a0 8) ∧ (m25 a0 8) ≤ 6 := zi_rd hIm25 hc0 zb_28_8
                have r30 : (-2147483648) ≤ (m25 a0 4) ∧ (m25 a0 4) ≤ 2147483647 := zi_rd hIm25 hc0 zb_28_4
                have y31 := (hvm25.1)
                have y32 := (hvm25.2.1)
                have y33 := zhid_mk (hvm25.2.2.1)
                have y34 := zhid_mk (hvm25.2.2.2)
                clear hvm25
                refine zw_ite (fun h35 => ?_) (fun h35 => ?_)
                · have s36 := (zhid_of y33) (by omega)
                  have s37 := (zhid_of y34) (by omega)
                  refine zw_bd (zw_eq (zu_call_at (zt_T n) (zm_93 n) (zdp_93 n) _ _ _ _ _ rfl (zr_93_0 n _ _ a0 59 m25)) ?_)
                  refine zw_ite (fun h38 => ?_) (fun h38 => ?_)
                  · refine zw_b (by omega) ?_
                    refine zw_some ?_
                    refine zw_ite (fun h39 => ?_) (fun h39 => ?_)
                    · exfalso; omega
                    · refine zw_bd (zw_eq (zu_call_at (zt_T n) (zm_85 n) (zdp_85 n) _ _ _ _ _ rfl (zr_85_0 n _ _ a0 1 m25)) ?_)
                      generalize hmm40 : zu_up m25 a0 4 1 = m40
                      have hIm40 := zi_up hmm40 hIm25 hc0 zb_28_4 (by omega) (by omega)
                      have hFm40 := zfr_up hmm40 hFm25 hc0 rfl
                      have hLm40 := zlw_tr hLm25 (zlw_fr (zfr_up hmm40 (zfr_rf [(28, 1), (28, 2), (28, 3), (28, 4), (28, 5), (28, 6), (28, 7), (28, 8), (28, 9), (28, 10), (28, 11), (28, 12), (28, 23), (28, 24), (28, 43), (105, 0)] _) hc0 rfl) rfl)
                      have hRC0m40 := zR_C0_fr (zdis_fr (zfr_up hmm40 (zfr_rf [(28, 5)] _) hc0 rfl) rfl) hRC0m25
                      have hRCRm40 := zR_CR_fr (zdis_fr (zfr_up hmm40 (zfr_rf [(28, 5)] _) hc0 rfl) rfl) hRCRm25
                      have hRKNm40 := zR_KN_fr (zdis_fr (zfr_up hmm40 (zfr_rf [(28, 5)] _) hc0 rfl) rfl) hRKNm25
                      have hRLTm40 := zR_LT_fr (zdis_fr (zfr_up hmm40 (zfr_rf [(28, 5)] _) hc0 rfl) rfl) hRLTm25
                      have hRNSm40 := zR_NS_fr (zdis_fr (zfr_up hmm40 (zfr_rf [(28, 5)] _) hc0 rfl) rfl) hRNSm25
                      have hRTRm40 := zR_TR_fr (zdis_fr (zfr_up hmm40 (zfr_rf [(28, 5)] _) hc0 rfl) rfl) hRTRm25
                      have hRWDm40 := zR_WD_fr (zdis_fr (zfr_up hmm40 (zfr_rf [(28, 5)] _) hc0 rfl) rfl) hRWDm25
                      have hRLRm40 := zLR_wr (zone_190 hc0) hmm40 (by decide)
                      have r41 : 0 ≤ (m40 a0 10) ∧ (m40 a0 10) ≤ 700 := zi_rd hIm40 hc0 zb_28_10
                      generalize hmm42 : zu_up m40 a0 5 (m40 a0 10) = m42
                      have hIm42 := zi_up hmm42 hIm40 hc0 zb_28_5 (by omega) (by omega)
                      have hFm42 := zfr_up hmm42 hFm40 hc0 rfl
                      have hLm42 := zlw_tr hLm40 (zlw_fr (zfr_up hmm42 (zfr_rf [(28, 1), (28, 2), (28, 3), (28, 4), (28, 5), (28, 6), (28, 7), (28, 8), (28, 9), (28, 10), (28, 11), (28, 12), (28, 23), (28, 24), (28, 43), (105, 0)] _) hc0 rfl) rfl)
                      have hRC0m42 := zR_C0_fr (zdis_fr (zfr_up hmm42 (zfr_rf [(28, 6)] _) hc0 rfl) rfl) hRC0m40
                      have hRCRm42 := zR_CR_fr (zdis_fr (zfr_up hmm42 (zfr_rf [(28, 6)] _) hc0 rfl) rfl) hRCRm40
                      have hRKNm42 := zR_KN_fr (zdis_fr (zfr_up hmm42 (zfr_rf [(28, 6)] _) hc0 rfl) rfl) hRKNm40
                      have hRLRm42 := zR_LR_fr (zdis_fr (zfr_up hmm42 (zfr_rf [(28, 6)] _) hc0 rfl) rfl) hRLRm40
                      have hRLTm42 := zR_LT_fr (zdis_fr (zfr_up hmm42 (zfr_rf [(28, 6)] _) hc0 rfl) rfl) hRLTm40
                      have hRNSm42 := zR_NS_fr (zdis_fr (zfr_up hmm42 (zfr_rf [(28, 6)] _) hc0 rfl) rfl) hRNSm40
                      have hRTRm42 := zR_TR_fr (zdis_fr (zfr_up hmm42 (zfr_rf [(28, 6)] _) hc0 rfl) rfl) hRTRm40
                      have hRWDm42 := zR_WD_fr (zdis_fr (zfr_up hmm42 (zfr_rf [(28, 6)] _) hc0 rfl) rfl) hRWDm40
                      refine zw_b (by omega) ?_
                      refine zw_some ?_
                      refine zw_b (by omega) ?_
                      have r43 : 0 ≤ (m42 a0 7) ∧ (m42 a0 7) ≤ 700 := zi_rd hIm42 hc0 zb_28_7
                      have e44 : (m42 a0 7) = (m25 a0 7) := (Eq.trans (zs_ne hmm42 (Or.inr (by decide))) (zs_ne hmm40 (Or.inr (by decide))))
                      have r45 : 0 ≤ (m42 a0 21) ∧ (m42 a0 21) ≤ 64 := zi_rd hIm42 hc0 zb_28_21
                      have e46 : (m42 a0 21) = (m0 a0 21) := (Eq.trans (zs_ne hmm42 (Or.inr (by decide))) (Eq.trans (zs_ne hmm40 (Or.inr (by decide))) (zfr_ap hfm25 hc0 rfl)))
                      have r47 : 0 ≤ (m42 a0 48) ∧ (m42 a0 48) ≤ 64 := zi_rd hIm42 hc0 zb_28_48
                      have e48 : (m42 a0 48) = (m0 a0 48) := (Eq.trans (zs_ne hmm42 (Or.inr (by decide))) (Eq.trans (zs_ne hmm40 (Or.inr (by decide))) (zfr_ap hfm25 hc0 rfl)))
                      have r49 : (-2147483648) ≤ (m42 a0 4) ∧ (m42 a0 4) ≤ 2147483647 := zi_rd hIm42 hc0 zb_28_4
                      have e50 : (m42 a0 4) = 1 := (Eq.trans (zs_ne hmm42 (Or.inr (by decide))) (zs_eq hmm40))
                      exact zw_some ⟨hIm42, hFm42, hLm42, hRC0m42, hRCRm42, hRKNm42, hRLRm42, hRLTm42, hRNSm42, hRTRm42, hRWDm42, ⟨by decide, by decide⟩, fun h => absurd h (by decide), fun h => absurd h (by decide), fun h => absurd h (by decide)⟩
                  · have r51 : (-2147483648) ≤ (m25 a0 9) ∧ (m25 a0 9) ≤ 2147483647 := zi_rd hIm25 hc0 zb_28_9
                    refine zw_ite (fun h52 => ?_) (fun h52 => ?_)
                    · refine zw_b (by omega) ?_
                      refine zw_some ?_
                      refine zw_ite (fun h53 => ?_) (fun h53 => ?_)
                      · exfalso; omega
                      · refine zw_bd (zw_eq (zu_call_at (zt_T n) (zm_85 n) (zdp_85 n) _ _ _ _ _ rfl (zr_85_0 n _ _ a0 1 m25)) ?_)
                        generalize hmm54 : zu_up m25 a0 4 1 = m54
                        have hIm54 := zi_up hmm54 hIm25 hc0 zb_28_4 (by omega) (by omega)
                        have hFm54 := zfr_up hmm54 hFm25 hc0 rfl
                        have hLm54 := zlw_tr hLm25 (zlw_fr (zfr_up hmm54 (zfr_rf [(28, 1), (28, 2), (28, 3), (28, 4), (28, 5), (28, 6), (28, 7), (28, 8), (28, 9), (28, 10), (28, 11), (28, 12), (28, 23), (28, 24), (28, 43), (105, 0)] _) hc0 rfl) rfl)
                        have hRC0m54 := zR_C0_fr (zdis_fr (zfr_up hmm54 (zfr_rf [(28, 5)] _) hc0 rfl) rfl) hRC0m25
                        have hRCRm54 := zR_CR_fr (zdis_fr (zfr_up hmm54 (zfr_rf [(28, 5)] _) hc0 rfl) rfl) hRCRm25
                        have hRKNm54 := zR_KN_fr (zdis_fr (zfr_up hmm54 (zfr_rf [(28, 5)] _) hc0 rfl) rfl) hRKNm25
                        have hRLTm54 := zR_LT_fr (zdis_fr (zfr_up hmm54 (zfr_rf [(28, 5)] _) hc0 rfl) rfl) hRLTm25
                        have hRNSm54 := zR_NS_fr (zdis_fr (zfr_up hmm54 (zfr_rf [(28, 5)] _) hc0 rfl) rfl) hRNSm25
                        have hRTRm54 := zR_TR_fr (zdis_fr (zfr_up hmm54 (zfr_rf [(28, 5)] _) hc0 rfl) rfl) hRTRm25
                        have hRWDm54 := zR_WD_fr (zdis_fr (zfr_up hmm54 (zfr_rf [(28, 5)] _) hc0 rfl) rfl) hRWDm25
                        have hRLRm54 := zLR_wr (zone_190 hc0) hmm54 (by decide)
                        have r55 : 0 ≤ (m54 a0 10) ∧ (m54 a0 10) ≤ 700 := zi_rd hIm54 hc0 zb_28_10
                        generalize hmm56 : zu_up m54 a0 5 (m54 a0 10) = m56
                        have hIm56 := zi_up hmm56 hIm54 hc0 zb_28_5 (by omega) (by omega)
                        have hFm56 := zfr_up hmm56 hFm54 hc0 rfl
                        have hLm56 := zlw_tr hLm54 (zlw_fr (zfr_up hmm56 (zfr_rf [(28, 1), (28, 2), (28, 3), (28, 4), (28, 5), (28, 6), (28, 7), (28, 8), (28, 9), (28, 10), (28, 11), (28, 12), (28, 23), (28, 24), (28, 43), (105, 0)] _) hc0 rfl) rfl)
                        have hRC0m56 := zR_C0_fr (zdis_fr (zfr_up hmm56 (zfr_rf [(28, 6)] _) hc0 rfl) rfl) hRC0m54
                        have hRCRm56 := zR_CR_fr (zdis_fr (zfr_up hmm56 (zfr_rf [(28, 6)] _) hc0 rfl) rfl) hRCRm54
                        have hRKNm56 := zR_KN_fr (zdis_fr (zfr_up hmm56 (zfr_rf [(28, 6)] _) hc0 rfl) rfl) hRKNm54
                        have hRLRm56 := zR_LR_fr (zdis_fr (zfr_up hmm56 (zfr_rf [(28, 6)] _) hc0 rfl) rfl) hRLRm54
                        have hRLTm56 := zR_LT_fr (zdis_fr (zfr_up hmm56 (zfr_rf [(28, 6)] _) hc0 rfl) rfl) hRLTm54
                        have hRNSm56 := zR_NS_fr (zdis_fr (zfr_up hmm56 (zfr_rf [(28, 6)] _) hc0 rfl) rfl) hRNSm54
                        have hRTRm56 := zR_TR_fr (zdis_fr (zfr_up hmm56 (zfr_rf [(28, 6)] _) hc0 rfl) rfl) hRTRm54
                        have hRWDm56 := zR_WD_fr (zdis_fr (zfr_up hmm56 (zfr_rf [(28, 6)] _) hc0 rfl) rfl) hRWDm54
                        refine zw_b (by omega) ?_
                        refine zw_some ?_
                        refine zw_b (by omega) ?_
                        have r57 : 0 ≤ (m56 a0 7) ∧ (m56 a0 7) ≤ 700 := zi_rd hIm56 hc0 zb_28_7
                        have e58 : (m56 a0 7) = (m25 a0 7) := (Eq.trans (zs_ne hmm56 (Or.inr (by decide))) (zs_ne hmm54 (Or.inr (by decide))))
                        have r59 : 0 ≤ (m56 a0 21) ∧ (m56 a0 21) ≤ 64 := zi_rd hIm56 hc0 zb_28_21
                        have e60 : (m56 a0 21) = (m0 a0 21) := (Eq.trans (zs_ne hmm56 (Or.inr (by decide))) (Eq.trans (zs_ne hmm54 (Or.inr (by decide))) (zfr_ap hfm25 hc0 rfl)))
                        have r61 : 0 ≤ (m56 a0 48) ∧ (m56 a0 48) ≤ 64 := zi_rd hIm56 hc0 zb_28_48
                        have e62 : (m56 a0 48) = (m0 a0 48) := (Eq.trans (zs_ne hmm56 (Or.inr (by decide))) (Eq.trans (zs_ne hmm54 (Or.inr (by decide))) (zfr_ap hfm25 hc0 rfl)))
                        have r63 : (-2147483648) ≤ (m56 a0 4) ∧ (m56 a0 4) ≤ 2147483647 := zi_rd hIm56 hc0 zb_28_4
                        have e64 : (m56 a0 4) = 1 := (Eq.trans (zs_ne hmm56 (Or.inr (by decide))) (zs_eq hmm54))
                        exact zw_some ⟨hIm56, hFm56, hLm56, hRC0m56, hRCRm56, hRKNm56, hRLRm56, hRLTm56, hRNSm56, hRTRm56, hRWDm56, ⟨by decide, by decide⟩, fun h => absurd h (by decide), fun h => absurd h (by decide), fun h => absurd h (by decide)⟩
                    · refine zw_b (by omega) ?_
                      refine zw_some ?_
                      refine zw_ite (fun h65 => ?_) (fun h65 => ?_)
                      · refine zw_bd (zw_mono (zk_89 n hIm25 hc0 hRNSm25 hRWDm25) (fun v67 m66 hqm66 => ?_))
                        obtain ⟨hIm66, hfm66, hvm66⟩ := hqm66
                        have hFm66 := zfr_tr hFm25 hfm66 rfl
                        have hLm66 := zlw_tr hLm25 (zlw_fr hfm66 rfl)
                        obtain ⟨hRNSm66, hRTRm66, hRWDm66, hvm66⟩ := hvm66
                        have hRC0m66 := zR_C0_fr (zdis_fr hfm66 rfl) hRC0m25
                        have hRCRm66 := zR_CR_fr (zdis_fr hfm66 rfl) hRCRm25
                        have hRKNm66 := zR_KN_fr (zdis_fr hfm66 rfl) hRKNm25
                        have hRLRm66 := zR_LR_fr (zdis_fr hfm66 rfl) hRLRm25
                        have hRLTm66 := zR_LT_fr (zdis_fr hfm66 rfl) hRLTm25
                        have s68 := hRNSm66 a0 hc0
                        have r69 : 0 ≤ (m66 a0 7) ∧ (m66 a0 7) ≤ 700 := zi_rd hIm66 hc0 zb_28_7
                        have r70 : 0 ≤ (m66 a0 8) ∧ (m66 a0 8) ≤ 6 := zi_rd hIm66 hc0 zb_28_8
                        refine zw_b (by omega) ?_
                        have r71 : 0 ≤ (m66 a0 21) ∧ (m66 a0 21) ≤ 64 := zi_rd hIm66 hc0 zb_28_21
                        have e72 : (m66 a0 21) = (m0 a0 21) := (Eq.trans (zfr_ap hfm66 hc0 rfl) (zfr_ap hfm25 hc0 rfl))
                        have r73 : 0 ≤ (m66 a0 48) ∧ (m66 a0 48) ≤ 64 := zi_rd hIm66 hc0 zb_28_48
                        have e74 : (m66 a0 48) = (m0 a0 48) := (Eq.trans (zfr_ap hfm66 hc0 rfl) (zfr_ap hfm25 hc0 rfl))
                        have r75 : (-2147483648) ≤ (m66 a0 4) ∧ (m66 a0 4) ≤ 2147483647 := zi_rd hIm66 hc0 zb_28_4
                        have e76 : (m66 a0 4) = (m25 a0 4) := (zfr_ap hfm66 hc0 rfl)
                        exact zw_some ⟨hIm66, hFm66, hLm66, hRC0m66, hRCRm66, hRKNm66, hRLRm66, hRLTm66, hRNSm66, hRTRm66, hRWDm66, ⟨by decide, by decide⟩, fun _ => by omega, fun _ => by omega, fun _ => by omega⟩
                      · exfalso; omega
                · refine zw_b (by omega) ?_
                  have r77 : 0 ≤ (m25 a0 21) ∧ (m25 a0 21) ≤ 64 := zi_rd hIm25 hc0 zb_28_21
                  have e78 : (m25 a0 21) = (m0 a0 21) := (zfr_ap hfm25 hc0 rfl)
                  have r79 : 0 ≤ (m25 a0 48) ∧ (m25 a0 48) ≤ 64 := zi_rd hIm25 hc0 zb_28_48
                  have e80 : (m25 a0 48) = (m0 a0 48) := (zfr_ap hfm25 hc0 rfl)
                  exact zw_some ⟨hIm25, hFm25, hLm25, hRC0m25, hRCRm25, hRKNm25, hRLRm25, hRLTm25, hRNSm25, hRTRm25, hRWDm25, ⟨by decide, by decide⟩, fun h => absurd h (by decide), fun h => absurd h (by decide), fun h => absurd h (by decide)⟩
              · refine zw_bd (zw_mono (zk_103w n hIm0 hc0 ⟨by omega, by omega⟩ ⟨by omega, by omega⟩ (by omega) (by omega) hRKNm0 hRLRm0 hRLTm0 hRNSm0 hRTRm0 hRWDm0) (fun v82 m81 hqm81 => ?_))
                obtain ⟨hIm81, hfm81, hlm81, hvm81⟩ := hqm81
                have hFm81 := zfr_tr hFm0 hfm81 rfl
                have hLm81 := zlw_tr hLm0 hlm81
                obtain ⟨hRKNm81, hRLRm81, hRLTm81, hRNSm81, hRTRm81, hRWDm81, hvm81⟩ := hvm81
                have hRC0m81 := zR_C0_fr (zdis_fr hfm81 rfl) hRC0m0
                have hRCRm81 := zR_CR_fr (zdis_fr hfm81 rfl) hRCRm0
                have s83 := hRNSm81 a0 hc0
                have r84 : 0 ≤ (m81 a0 7) ∧ (m81 a0 7) ≤ 700 := zi_rd hIm81 hc0 zb_28_7
                have r85 : 0 ≤ (m81 a0 8) ∧ (m81 a0 8) ≤ 6 := zi_rd hIm81 hc0 zb_28_8
                have r86 : 0 ≤ (m81 a0 21) ∧ (m81 a0 21) ≤ 64 := zi_rd hIm81 hc0 zb_28_21
                have r87 : 0 ≤ (m81 a0 48) ∧ (m81 a0 48) ≤ 64 := zi_rd hIm81 hc0 zb_28_48
                have r88 : (-2147483648) ≤ (m81 a0 4) ∧ (m81 a0 4) ≤ 2147483647 := zi_rd hIm81 hc0 zb_28_4
                have y89 := (hvm81.1)
                have y90 := (hvm81.2.1)
                have y91 := zhid_mk (hvm81.2.2.1)
                have y92 := zhid_mk (hvm81.2.2.2.1)
                have y93 := zhid_mk (hvm81.2.2.2.2)
                clear hvm81
                refine zw_ite (fun h94 => ?_) (fun h94 => ?_)
                · have s95 := (zhid_of y91) (by omega)
                  have s96 := (zhid_of y92) (by omega)
                  have s97 := (zhid_of y93) (by omega)
                  refine zw_bd (zw_eq (zu_call_at (zt_T n) (zm_93 n) (zdp_93 n) _ _ _ _ _ rfl (zr_93_0 n _ _ a0 59 m81)) ?_)
                  refine zw_ite (fun h98 => ?_) (fun h98 => ?_)
                  · refine zw_b (by omega) ?_
                    refine zw_some ?_
                    refine zw_ite (fun h99 => ?_) (fun h99 => ?_)
                    · exfalso; omega
                    · refine zw_bd (zw_eq (zu_call_at (zt_T n) (zm_85 n) (zdp_85 n) _ _ _ _ _ rfl (zr_85_0 n _ _ a0 1 m81)) ?_)
                      generalize hmm100 : zu_up m81 a0 4 1 = m100
                      have hIm100 := zi_up hmm100 hIm81 hc0 zb_28_4 (by omega) (by omega)
                      have hFm100 := zfr_up hmm100 hFm81 hc0 rfl
                      have hLm100 := zlw_tr hLm81 (zlw_fr (zfr_up hmm100 (zfr_rf [(28, 1), (28, 2), (28, 3), (28, 4), (28, 5), (28, 6), (28, 7), (28, 8), (28, 9), (28, 10), (28, 11), (28, 12), (28, 23), (28, 24), (28, 43), (105, 0)] _) hc0 rfl) rfl)
                      have hRC0m100 := zR_C0_fr (zdis_fr (zfr_up hmm100 (zfr_rf [(28, 5)] _) hc0 rfl) rfl) hRC0m81
                      have hRCRm100 := zR_CR_fr (zdis_fr (zfr_up hmm100 (zfr_rf [(28, 5)] _) hc0 rfl) rfl) hRCRm81
                      have hRKNm100 := zR_KN_fr (zdis_fr (zfr_up hmm100 (zfr_rf [(28, 5)] _) hc0 rfl) rfl) hRKNm81
                      have hRLTm100 := zR_LT_fr (zdis_fr (zfr_up hmm100 (zfr_rf [(28, 5)] _) hc0 rfl) rfl) hRLTm81
                      have hRNSm100 := zR_NS_fr (zdis_fr (zfr_up hmm100 (zfr_rf [(28, 5)] _) hc0 rfl) rfl) hRNSm81
                      have hRTRm100 := zR_TR_fr (zdis_fr (zfr_up hmm100 (zfr_rf [(28, 5)] _) hc0 rfl) rfl) hRTRm81
                      have hRWDm100 := zR_WD_fr (zdis_fr (zfr_up hmm100 (zfr_rf [(28, 5)] _) hc0 rfl) rfl) hRWDm81
                      have hRLRm100 := zLR_wr (zone_190 hc0) hmm100 (by decide)
                      have r101 : 0 ≤ (m100 a0 10) ∧ (m100 a0 10) ≤ 700 := zi_rd hIm100 hc0 zb_28_10
                      generalize hmm102 : zu_up m100 a0 5 (m100 a0 10) = m102
                      have hIm102 := zi_up hmm102 hIm100 hc0 zb_28_5 (by omega) (by omega)
                      have hFm102 := zfr_up hmm102 hFm100 hc0 rfl
                      have hLm102 := zlw_tr hLm100 (zlw_fr (zfr_up hmm102 (zfr_rf [(28, 1), (28, 2), (28, 3), (28, 4), (28, 5), (28, 6), (28, 7), (28, 8), (28, 9), (28, 10), (28, 11), (28, 12), (28, 23), (28, 24), (28, 43), (105, 0)] _) hc0 rfl) rfl)
                      have hRC0m102 := zR_C0_fr (zdis_fr (zfr_up hmm102 (zfr_rf [(28, 6)] _) hc0 rfl) rfl) hRC0m100
                      have hRCRm102 := zR_CR_fr (zdis_fr (zfr_up hmm102 (zfr_rf [(28, 6)] _) hc0 rfl) rfl) hRCRm100
                      have hRKNm102 := zR_KN_fr (zdis_fr (zfr_up hmm102 (zfr_rf [(28, 6)] _) hc0 rfl) rfl) hRKNm100
                      have hRLRm102 := zR_LR_fr (zdis_fr (zfr_up hmm102 (zfr_rf [(28, 6)] _) hc0 rfl) rfl) hRLRm100
                      have hRLTm102 := zR_LT_fr (zdis_fr (zfr_up hmm102 (zfr_rf [(28, 6)] _) hc0 rfl) rfl) hRLTm100
                      have hRNSm102 := zR_NS_fr (zdis_fr (zfr_up hmm102 (zfr_rf [(28, 6)] _) hc0 rfl) rfl) hRNSm100
                      have hRTRm102 := zR_TR_fr (zdis_fr (zfr_up hmm102 (zfr_rf [(28, 6)] _) hc0 rfl) rfl) hRTRm100
                      have hRWDm102 := zR_WD_fr (zdis_fr (zfr_up hmm102 (zfr_rf [(28, 6)] _) hc0 rfl) rfl) hRWDm100
                      refine zw_b (by omega) ?_
                      refine zw_some ?_
                      refine zw_b (by omega) ?_
                      have r103 : 0 ≤ (m102 a0 7) ∧ (m102 a0 7) ≤ 700 := zi_rd hIm102 hc0 zb_28_7
                      have e104 : (m102 a0 7) = (m81 a0 7) := (Eq.trans (zs_ne hmm102 (Or.inr (by decide))) (zs_ne hmm100 (Or.inr (by decide))))
                      have r105 : 0 ≤ (m102 a0 21) ∧ (m102 a0 21) ≤ 64 := zi_rd hIm102 hc0 zb_28_21
                      have e106 : (m102 a0 21) = (m81 a0 21) := (Eq.trans (zs_ne hmm102 (Or.inr (by decide))) (zs_ne hmm100 (Or.inr (by decide))))
                      have r107 : 0 ≤ (m102 a0 48) ∧ (m102 a0 48) ≤ 64 := zi_rd hIm102 hc0 zb_28_48
                      have e108 : (m102 a0 48) = (m81 a0 48) := (Eq.trans (zs_ne hmm102 (Or.inr (by decide))) (zs_ne hmm100 (Or.inr (by decide))))
                      have r109 : (-2147483648) ≤ (m102 a0 4) ∧ (m102 a0 4) ≤ 2147483647 := zi_rd hIm102 hc0 zb_28_4
                      have e110 : (m102 a0 4) = 1 := (Eq.trans (zs_ne hmm102 (Or.inr (by decide))) (zs_eq hmm100))
                      exact zw_some ⟨hIm102, hFm102, hLm102, hRC0m102, hRCRm102, hRKNm102, hRLRm102, hRLTm102, hRNSm102, hRTRm102, hRWDm102, ⟨by decide, by decide⟩, fun h => absurd h (by decide), fun h => absurd h (by decide), fun h => absurd h (by decide)⟩
                  · have r111 : (-2147483648) ≤ (m81 a0 9) ∧ (m81 a0 9) ≤ 2147483647 := zi_rd hIm81 hc0 zb_28_9
                    refine zw_ite (fun h112 => ?_) (fun h112 => ?_)
                    · refine zw_b (by omega) ?_
                      refine zw_some ?_
                      refine zw_ite (fun h113 => ?_) (fun h113 => ?_)
                      · exfalso; omega
                      · refine zw_bd (zw_eq (zu_call_at (zt_T n) (zm_85 n) (zdp_85 n) _ _ _ _ _ rfl (zr_85_0 n _ _ a0 1 m81)) ?_)
                        generalize hmm114 : zu_up m81 a0 4 1 = m114
                        have hIm114 := zi_up hmm114 hIm81 hc0 zb_28_4 (by omega) (by omega)
                        have hFm114 := zfr_up hmm114 hFm81 hc0 rfl
                        have hLm114 := zlw_tr hLm81 (zlw_fr (zfr_up hmm114 (zfr_rf [(28, 1), (28, 2), (28, 3), (28, 4), (28, 5), (28, 6), (28, 7), (28, 8), (28, 9), (28, 10), (28, 11), (28, 12), (28, 23), (28, 24), (28, 43), (105, 0)] _) hc0 rfl) rfl)
                        have hRC0m114 := zR_C0_fr (zdis_fr (zfr_up hmm114 (zfr_rf [(28, 5)] _) hc0 rfl) rfl) hRC0m81
                        have hRCRm114 := zR_CR_fr (zdis_fr (zfr_up hmm114 (zfr_rf [(28, 5)] _) hc0 rfl) rfl) hRCRm81
                        have hRKNm114 := zR_KN_fr (zdis_fr (zfr_up hmm114 (zfr_rf [(28, 5)] _) hc0 rfl) rfl) hRKNm81
                        have hRLTm114 := zR_LT_fr (zdis_fr (zfr_up hmm114 (zfr_rf [(28, 5)] _) hc0 rfl) rfl) hRLTm81
                        have hRNSm114 := zR_NS_fr (zdis_fr (zfr_up hmm114 (zfr_rf [(28, 5)] _) hc0 rfl) rfl) hRNSm81
                        have hRTRm114 := zR_TR_fr (zdis_fr (zfr_up hmm114 (zfr_rf [(28, 5)] _) hc0 rfl) rfl) hRTRm81
                        have hRWDm114 := zR_WD_fr (zdis_fr (zfr_up hmm114 (zfr_rf [(28, 5)] _) hc0 rfl) rfl) hRWDm81
                        have hRLRm114 := zLR_wr (zone_190 hc0) hmm114 (by decide)
                        have r115 : 0 ≤ (m114 a0 10) ∧ (m114 a0 10) ≤ 700 := zi_rd hIm114 hc0 zb_28_10
                        generalize hmm116 : zu_up m114 a0 5 (m114 a0 10) = m116
                        have hIm116 := zi_up hmm116 hIm114 hc0 zb_28_5 (by omega) (by omega)
                        have hFm116 := zfr_up hmm116 hFm114 hc0 rfl
                        have hLm116 := zlw_tr hLm114 (zlw_fr (zfr_up hmm116 (zfr_rf [(28, 1), (28, 2), (28, 3), (28, 4), (28, 5), (28, 6), (28, 7), (28, 8), (28, 9), (28, 10), (28, 11), (28, 12), (28, 23), (28, 24), (28, 43), (105, 0)] _) hc0 rfl) rfl)
                        have hRC0m116 := zR_C0_fr (zdis_fr (zfr_up hmm116 (zfr_rf [(28, 6)] _) hc0 rfl) rfl) hRC0m114
                        have hRCRm116 := zR_CR_fr (zdis_fr (zfr_up hmm116 (zfr_rf [(28, 6)] _) hc0 rfl) rfl) hRCRm114
                        have hRKNm116 := zR_KN_fr (zdis_fr (zfr_up hmm116 (zfr_rf [(28, 6)] _) hc0 rfl) rfl) hRKNm114
                        have hRLRm116 := zR_LR_fr (zdis_fr (zfr_up hmm116 (zfr_rf [(28, 6)] _) hc0 rfl) rfl) hRLRm114
                        have hRLTm116 := zR_LT_fr (zdis_fr (zfr_up hmm116 (zfr_rf [(28, 6)] _) hc0 rfl) rfl) hRLTm114
                        have hRNSm116 := zR_NS_fr (zdis_fr (zfr_up hmm116 (zfr_rf [(28, 6)] _) hc0 rfl) rfl) hRNSm114
                        have hRTRm116 := zR_TR_fr (zdis_fr (zfr_up hmm116 (zfr_rf [(28, 6)] _) hc0 rfl) rfl) hRTRm114
                        have hRWDm116 := zR_WD_fr (zdis_fr (zfr_up hmm116 (zfr_rf [(28, 6)] _) hc0 rfl) rfl) hRWDm114
                        refine zw_b (by omega) ?_
                        refine zw_some ?_
                        refine zw_b (by omega) ?_
                        have r117 : 0 ≤ (m116 a0 7) ∧ (m116 a0 7) ≤ 700 := zi_rd hIm116 hc0 zb_28_7
                        have e118 : (m116 a0 7) = (m81 a0 7) := (Eq.trans (zs_ne hmm116 (Or.inr (by decide))) (zs_ne hmm114 (Or.inr (by decide))))
                        have r119 : 0 ≤ (m116 a0 21) ∧ (m116 a0 21) ≤ 64 := zi_rd hIm116 hc0 zb_28_21
                        have e120 : (m116 a0 21) = (m81 a0 21) := (Eq.trans (zs_ne hmm116 (Or.inr (by decide))) (zs_ne hmm114 (Or.inr (by decide))))
                        have r121 : 0 ≤ (m116 a0 48) ∧ (m116 a0 48) ≤ 64 := zi_rd hIm116 hc0 zb_28_48
                        have e122 : (m116 a0 48) = (m81 a0 48) := (Eq.trans (zs_ne hmm116 (Or.inr (by decide))) (zs_ne hmm114 (Or.inr (by decide))))
                        have r123 : (-2147483648) ≤ (m116 a0 4) ∧ (m116 a0 4) ≤ 2147483647 := zi_rd hIm116 hc0 zb_28_4
                        have e124 : (m116 a0 4) = 1 := (Eq.trans (zs_ne hmm116 (Or.inr (by decide))) (zs_eq hmm114))
                        exact zw_some ⟨hIm116, hFm116, hLm116, hRC0m116, hRCRm116, hRKNm116, hRLRm116, hRLTm116, hRNSm116, hRTRm116, hRWDm116, ⟨by decide, by decide⟩, fun h => absurd h (by decide), fun h => absurd h (by decide), fun h => absurd h (by decide)⟩
                    · refine zw_b (by omega) ?_
                      refine zw_some ?_
                      refine zw_ite (fun h125 => ?_) (fun h125 => ?_)
                      · refine zw_bd (zw_mono (zk_89 n hIm81 hc0 hRNSm81 hRWDm81) (fun v127 m126 hqm126 => ?_))
                        obtain ⟨hIm126, hfm126, hvm126⟩ := hqm126
                        have hFm126 := zfr_tr hFm81 hfm126 rfl
                        have hLm126 := zlw_tr hLm81 (zlw_fr hfm126 rfl)
                        obtain ⟨hRNSm126, hRTRm126, hRWDm126, hvm126⟩ := hvm126
                        have hRC0m126 := zR_C0_fr (zdis_fr hfm126 rfl) hRC0m81
                        have hRCRm126 := zR_CR_fr (zdis_fr hfm126 rfl) hRCRm81
                        have hRKNm126 := zR_KN_fr (zdis_fr hfm126 rfl) hRKNm81
                        have hRLRm126 := zR_LR_fr (zdis_fr hfm126 rfl) hRLRm81
                        have hRLTm126 := zR_LT_fr (zdis_fr hfm126 rfl) hRLTm81
                        have s128 := hRNSm126 a0 hc0
                        have r129 : 0 ≤ (m126 a0 7) ∧ (m126 a0 7) ≤ 700 := zi_rd hIm126 hc0 zb_28_7
                        have r130 : 0 ≤ (m126 a0 8) ∧ (m126 a0 8) ≤ 6 := zi_rd hIm126 hc0 zb_28_8
                        refine zw_b (by omega) ?_
                        have r131 : 0 ≤ (m126 a0 21) ∧ (m126 a0 21) ≤ 64 := zi_rd hIm126 hc0 zb_28_21
                        have e132 : (m126 a0 21) = (m81 a0 21) := (zfr_ap hfm126 hc0 rfl)
                        have r133 : 0 ≤ (m126 a0 48) ∧ (m126 a0 48) ≤ 64 := zi_rd hIm126 hc0 zb_28_48
                        have e134 : (m126 a0 48) = (m81 a0 48) := (zfr_ap hfm126 hc0 rfl)
                        have r135 : (-2147483648) ≤ (m126 a0 4) ∧ (m126 a0 4) ≤ 2147483647 := zi_rd hIm126 hc0 zb_28_4
                        have e136 : (m126 a0 4) = (m81 a0 4) := (zfr_ap hfm126 hc0 rfl)
                        exact zw_some ⟨hIm126, hFm126, hLm126, hRC0m126, hRCRm126, hRKNm126, hRLRm126, hRLTm126, hRNSm126, hRTRm126, hRWDm126, ⟨by decide, by decide⟩, fun _ => by omega, fun _ => by omega, fun _ => by omega⟩
                      · exfalso; omega
                · refine zw_b (by omega) ?_
                  exact zw_some ⟨hIm81, hFm81, hLm81, hRC0m81, hRCRm81, hRKNm81, hRLRm81, hRLTm81, hRNSm81, hRTRm81, hRWDm81, ⟨by decide, by decide⟩, fun h => absurd h (by decide), fun h => absurd h (by decide), fun h => absurd h (by decide)⟩
            · refine zw_bd (zw_mono (zk_102 n hIm0 hc0 ⟨by omega, by omega⟩ ⟨by omega, by omega⟩ hRC0m0 hRCRm0 hRLRm0 hRNSm0 hRTRm0 hRWDm0) (fun v138 m137 hqm137 => ?_))
              obtain ⟨hIm137, hfm137, hvm137⟩ := hqm137
              have hFm137 := zfr_tr hFm0 hfm137 rfl
              have hLm137 := zlw_tr hLm0 (zlw_fr hfm137 rfl)
              obtain ⟨hRC0m137, hRCRm137, hRLRm137, hRNSm137, hRTRm137, hRWDm137, hvm137⟩ := hvm137
              have hRKNm137 := zR_KN_fr (zdis_fr hfm137 rfl) hRKNm0
              have hRLTm137 := zR_LT_fr (zdis_fr hfm137 rfl) hRLTm0
              have s139 := hRNSm137 a0 hc0
              have r140 : 0 ≤ (m137 a0 7) ∧ (m137 a0 7) ≤ 700 := zi_rd hIm137 hc0 zb_28_7
              have r141 : 0 ≤ (m137 a0 8) ∧ (m137 a0 8) ≤ 6 := zi_rd hIm137 hc0 zb_28_8
              have r142 : (-2147483648) ≤ (m137 a0 4) ∧ (m137 a0 4) ≤ 2147483647 := zi_rd hIm137 hc0 zb_28_4
              have y143 := (hvm137.1)
              have y144 := (hvm137.2.1)
              have y145 := zhid_mk (hvm137.2.2.1)
              have y146 := zhid_mk (hvm137.2.2.2)
              clear hvm137
              refine zw_ite (fun h147 => ?_) (fun h147 => ?_)
              · have s148 := (zhid_of y145) (by omega)
                have s149 := (zhid_of y146) (by omega)
                refine zw_bd (zw_eq (zu_call_at (zt_T n) (zm_93 n) (zdp_93 n) _ _ _ _ _ rfl (zr_93_0 n _ _ a0 59 m137)) ?_)
                refine zw_ite (fun h150 => ?_) (fun h150 => ?_)
                · refine zw_b (by omega) ?_
                  refine zw_some ?_
                  refine zw_ite (fun h151 => ?_) (fun h151 => ?_)
                  · exfalso; omega
                  · refine zw_bd (zw_eq (zu_call_at (zt_T n) (zm_85 n) (zdp_85 n) _ _ _ _ _ rfl (zr_85_0 n _ _ a0 1 m137)) ?_)
                    generalize hmm152 : zu_up m137 a0 4 1 = m152
                    have hIm152 := zi_up hmm152 hIm137 hc0 zb_28_4 (by omega) (by omega)
                    have hFm152 := zfr_up hmm152 hFm137 hc0 rfl
                    have hLm152 := zlw_tr hLm137 (zlw_fr (zfr_up hmm152 (zfr_rf [(28, 1), (28, 2), (28, 3), (28, 4), (28, 5), (28, 6), (28, 7), (28, 8), (28, 9), (28, 10), (28, 11), (28, 12), (28, 23), (28, 24), (28, 43), (105, 0)] _) hc0 rfl) rfl)
                    have hRC0m152 := zR_C0_fr (zdis_fr (zfr_up hmm152 (zfr_rf [(28, 5)] _) hc0 rfl) rfl) hRC0m137
                    have hRCRm152 := zR_CR_fr (zdis_fr (zfr_up hmm152 (zfr_rf [(28, 5)] _) hc0 rfl) rfl) hRCRm137
                    have hRKNm152 := zR_KN_fr (zdis_fr (zfr_up hmm152 (zfr_rf [(28, 5)] _) hc0 rfl) rfl) hRKNm137
                    have hRLTm152 := zR_LT_fr (zdis_fr (zfr_up hmm152 (zfr_rf [(28, 5)] _) hc0 rfl) rfl) hRLTm137
                    have hRNSm152 := zR_NS_fr (zdis_fr (zfr_up hmm152 (zfr_rf [(28, 5)] _) hc0 rfl) rfl) hRNSm137
                    have hRTRm152 := zR_TR_fr (zdis_fr (zfr_up hmm152 (zfr_rf [(28, 5)] _) hc0 rfl) rfl) hRTRm137
                    have hRWDm152 := zR_WD_fr (zdis_fr (zfr_up hmm152 (zfr_rf [(28, 5)] _) hc0 rfl) rfl) hRWDm137
                    have hRLRm152 := zLR_wr (zone_190 hc0) hmm152 (by decide)
                    have r153 : 0 ≤ (m152 a0 10) ∧ (m152 a0 10) ≤ 700 := zi_rd hIm152 hc0 zb_28_10
                    generalize hmm154 : zu_up m152 a0 5 (m152 a0 10) = m154
                    have hIm154 := zi_up hmm154 hIm152 hc0 zb_28_5 (by omega) (by omega)
                    have hFm154 := zfr_up hmm154 hFm152 hc0 rfl
                    have hLm154 := zlw_tr hLm152 (zlw_fr (zfr_up hmm154 (zfr_rf [(28, 1), (28, 2), (28, 3), (28, 4), (28, 5), (28, 6), (28, 7), (28, 8), (28, 9), (28, 10), (28, 11), (28, 12), (28, 23), (28, 24), (28, 43), (105, 0)] _) hc0 rfl) rfl)
                    have hRC0m154 := zR_C0_fr (zdis_fr (zfr_up hmm154 (zfr_rf [(28, 6)] _) hc0 rfl) rfl) hRC0m152
                    have hRCRm154 := zR_CR_fr (zdis_fr (zfr_up hmm154 (zfr_rf [(28, 6)] _) hc0 rfl) rfl) hRCRm152
                    have hRKNm154 := zR_KN_fr (zdis_fr (zfr_up hmm154 (zfr_rf [(28, 6)] _) hc0 rfl) rfl) hRKNm152
                    have hRLRm154 := zR_LR_fr (zdis_fr (zfr_up hmm154 (zfr_rf [(28, 6)] _) hc0 rfl) rfl) hRLRm152
                    have hRLTm154 := zR_LT_fr (zdis_fr (zfr_up hmm154 (zfr_rf [(28, 6)] _) hc0 rfl) rfl) hRLTm152
                    have hRNSm154 := zR_NS_fr (zdis_fr (zfr_up hmm154 (zfr_rf [(28, 6)] _) hc0 rfl) rfl) hRNSm152
                    have hRTRm154 := zR_TR_fr (zdis_fr (zfr_up hmm154 (zfr_rf [(28, 6)] _) hc0 rfl) rfl) hRTRm152
                    have hRWDm154 := zR_WD_fr (zdis_fr (zfr_up hmm154 (zfr_rf [(28, 6)] _) hc0 rfl) rfl) hRWDm152
                    refine zw_b (by omega) ?_
                    refine zw_some ?_
                    refine zw_b (by omega) ?_
                    have r155 : 0 ≤ (m154 a0 7) ∧ (m154 a0 7) ≤ 700 := zi_rd hIm154 hc0 zb_28_7
                    have e156 : (m154 a0 7) = (m137 a0 7) := (Eq.trans (zs_ne hmm154 (Or.inr (by decide))) (zs_ne hmm152 (Or.inr (by decide))))
                    have r157 : 0 ≤ (m154 a0 21) ∧ (m154 a0 21) ≤ 64 := zi_rd hIm154 hc0 zb_28_21
                    have e158 : (m154 a0 21) = (m0 a0 21) := (Eq.trans (zs_ne hmm154 (Or.inr (by decide))) (Eq.trans (zs_ne hmm152 (Or.inr (by decide))) (zfr_ap hfm137 hc0 rfl)))
                    have r159 : 0 ≤ (m154 a0 48) ∧ (m154 a0 48) ≤ 64 := zi_rd hIm154 hc0 zb_28_48
                    have e160 : (m154 a0 48) = (m0 a0 48) := (Eq.trans (zs_ne hmm154 (Or.inr (by decide))) (Eq.trans (zs_ne hmm152 (Or.inr (by decide))) (zfr_ap hfm137 hc0 rfl)))
                    have r161 : (-2147483648) ≤ (m154 a0 4) ∧ (m154 a0 4) ≤ 2147483647 := zi_rd hIm154 hc0 zb_28_4
                    have e162 : (m154 a0 4) = 1 := (Eq.trans (zs_ne hmm154 (Or.inr (by decide))) (zs_eq hmm152))
                    exact zw_some ⟨hIm154, hFm154, hLm154, hRC0m154, hRCRm154, hRKNm154, hRLRm154, hRLTm154, hRNSm154, hRTRm154, hRWDm154, ⟨by decide, by decide⟩, fun h => absurd h (by decide), fun h => absurd h (by decide), fun h => absurd h (by decide)⟩
                · have r163 : (-2147483648) ≤ (m137 a0 9) ∧ (m137 a0 9) ≤ 2147483647 := zi_rd hIm137 hc0 zb_28_9
                  refine zw_ite (fun h164 => ?_) (fun h164 => ?_)
                  · refine zw_b (by omega) ?_
                    refine zw_some ?_
                    refine zw_ite (fun h165 => ?_) (fun h165 => ?_)
                    · exfalso; omega
                    · refine zw_bd (zw_eq (zu_call_at (zt_T n) (zm_85 n) (zdp_85 n) _ _ _ _ _ rfl (zr_85_0 n _ _ a0 1 m137)) ?_)
                      generalize hmm166 : zu_up m137 a0 4 1 = m166
                      have hIm166 := zi_up hmm166 hIm137 hc0 zb_28_4 (by omega) (by omega)
                      have hFm166 := zfr_up hmm166 hFm137 hc0 rfl
                      have hLm166 := zlw_tr hLm137 (zlw_fr (zfr_up hmm166 (zfr_rf [(28, 1), (28, 2), (28, 3), (28, 4), (28, 5), (28, 6), (28, 7), (28, 8), (28, 9), (28, 10), (28, 11), (28, 12), (28, 23), (28, 24), (28, 43), (105, 0)] _) hc0 rfl) rfl)
                      have hRC0m166 := zR_C0_fr (zdis_fr (zfr_up hmm166 (zfr_rf [(28, 5)] _) hc0 rfl) rfl) hRC0m137
                      have hRCRm166 := zR_CR_fr (zdis_fr (zfr_up hmm166 (zfr_rf [(28, 5)] _) hc0 rfl) rfl) hRCRm137
                      have hRKNm166 := zR_KN_fr (zdis_fr (zfr_up hmm166 (zfr_rf [(28, 5)] _) hc0 rfl) rfl) hRKNm137
                      have hRLTm166 := zR_LT_fr (zdis_fr (zfr_up hmm166 (zfr_rf [(28, 5)] _) hc0 rfl) rfl) hRLTm137
                      have hRNSm166 := zR_NS_fr (zdis_fr (zfr_up hmm166 (zfr_rf [(28, 5)] _) hc0 rfl) rfl) hRNSm137
                      have hRTRm166 := zR_TR_fr (zdis_fr (zfr_up hmm166 (zfr_rf [(28, 5)] _) hc0 rfl) rfl) hRTRm137
                      have hRWDm166 := zR_WD_fr (zdis_fr (zfr_up hmm166 (zfr_rf [(28, 5)] _) hc0 rfl) rfl) hRWDm137
                      have hRLRm166 := zLR_wr (zone_190 hc0) hmm166 (by decide)
                      have r167 : 0 ≤ (m166 a0 10) ∧ (m166 a0 10) ≤ 700 := zi_rd hIm166 hc0 zb_28_10
                      generalize hmm168 : zu_up m166 a0 5 (m166 a0 10) = m168
                      have hIm168 := zi_up hmm168 hIm166 hc0 zb_28_5 (by omega) (by omega)
                      have hFm168 := zfr_up hmm168 hFm166 hc0 rfl
                      have hLm168 := zlw_tr hLm166 (zlw_fr (zfr_up hmm168 (zfr_rf [(28, 1), (28, 2), (28, 3), (28, 4), (28, 5), (28, 6), (28, 7), (28, 8), (28, 9), (28, 10), (28, 11), (28, 12), (28, 23), (28, 24), (28, 43), (105, 0)] _) hc0 rfl) rfl)
                      have hRC0m168 := zR_C0_fr (zdis_fr (zfr_up hmm168 (zfr_rf [(28, 6)] _) hc0 rfl) rfl) hRC0m166
                      have hRCRm168 := zR_CR_fr (zdis_fr (zfr_up hmm168 (zfr_rf [(28, 6)] _) hc0 rfl) rfl) hRCRm166
                      have hRKNm168 := zR_KN_fr (zdis_fr (zfr_up hmm168 (zfr_rf [(28, 6)] _) hc0 rfl) rfl) hRKNm166
                      have hRLRm168 := zR_LR_fr (zdis_fr (zfr_up hmm168 (zfr_rf [(28, 6)] _) hc0 rfl) rfl) hRLRm166
                      have hRLTm168 := zR_LT_fr (zdis_fr (zfr_up hmm168 (zfr_rf [(28, 6)] _) hc0 rfl) rfl) hRLTm166
                      have hRNSm168 := zR_NS_fr (zdis_fr (zfr_up hmm168 (zfr_rf [(28, 6)] _) hc0 rfl) rfl) hRNSm166
                      have hRTRm168 := zR_TR_fr (zdis_fr (zfr_up hmm168 (zfr_rf [(28, 6)] _) hc0 rfl) rfl) hRTRm166
                      have hRWDm168 := zR_WD_fr (zdis_fr (zfr_up hmm168 (zfr_rf [(28, 6)] _) hc0 rfl) rfl) hRWDm166
                      refine zw_b (by omega) ?_
                      refine zw_some ?_
                      refine zw_b (by omega) ?_
                      have r169 : 0 ≤ (m168 a0 7) ∧ (m168 a0 7) ≤ 700 := zi_rd hIm168 hc0 zb_28_7
                      have e170 : (m168 a0 7) = (m137 a0 7) := (Eq.trans (zs_ne hmm168 (Or.inr (by decide))) (zs_ne hmm166 (Or.inr (by decide))))
                      have r171 : 0 ≤ (m168 a0 21) ∧ (m168 a0 21) ≤ 64 := zi_rd hIm168 hc0 zb_28_21
                      have e172 : (m168 a0 21) = (m0 a0 21) := (Eq.trans (zs_ne hmm168 (Or.inr (by decide))) (Eq.trans (zs_ne hmm166 (Or.inr (by decide))) (zfr_ap hfm137 hc0 rfl)))
                      have r173 : 0 ≤ (m168 a0 48) ∧ (m168 a0 48) ≤ 64 := zi_rd hIm168 hc0 zb_28_48
                      have e174 : (m168 a0 48) = (m0 a0 48) := (Eq.trans (zs_ne hmm168 (Or.inr (by decide))) (Eq.trans (zs_ne hmm166 (Or.inr (by decide))) (zfr_ap hfm137 hc0 rfl)))
                      have r175 : (-2147483648) ≤ (m168 a0 4) ∧ (m168 a0 4) ≤ 2147483647 := zi_rd hIm168 hc0 zb_28_4
                      have e176 : (m168 a0 4) = 1 := (Eq.trans (zs_ne hmm168 (Or.inr (by decide))) (zs_eq hmm166))
                      exact zw_some ⟨hIm168, hFm168, hLm168, hRC0m168, hRCRm168, hRKNm168, hRLRm168, hRLTm168, hRNSm168, hRTRm168, hRWDm168, ⟨by decide, by decide⟩, fun h => absurd h (by decide), fun h => absurd h (by decide), fun h => absurd h (by decide)⟩
                  · refine zw_b (by omega) ?_
                    refine zw_some ?_
                    refine zw_ite (fun h177 => ?_) (fun h177 => ?_)
                    · refine zw_bd (zw_mono (zk_89 n hIm137 hc0 hRNSm137 hRWDm137) (fun v179 m178 hqm178 => ?_))
                      obtain ⟨hIm178, hfm178, hvm178⟩ := hqm178
                      have hFm178 := zfr_tr hFm137 hfm178 rfl
                      have hLm178 := zlw_tr hLm137 (zlw_fr hfm178 rfl)
                      obtain ⟨hRNSm178, hRTRm178, hRWDm178, hvm178⟩ := hvm178
                      have hRC0m178 := zR_C0_fr (zdis_fr hfm178 rfl) hRC0m137
                      have hRCRm178 := zR_CR_fr (zdis_fr hfm178 rfl) hRCRm137
                      have hRKNm178 := zR_KN_fr (zdis_fr hfm178 rfl) hRKNm137
                      have hRLRm178 := zR_LR_fr (zdis_fr hfm178 rfl) hRLRm137
                      have hRLTm178 := zR_LT_fr (zdis_fr hfm178 rfl) hRLTm137
                      have s180 := hRNSm178 a0 hc0
                      have r181 : 0 ≤ (m178 a0 7) ∧ (m178 a0 7) ≤ 700 := zi_rd hIm178 hc0 zb_28_7
                      have r182 : 0 ≤ (m178 a0 8) ∧ (m178 a0 8) ≤ 6 := zi_rd hIm178 hc0 zb_28_8
                      refine zw_b (by omega) ?_
                      have r183 : 0 ≤ (m178 a0 21) ∧ (m178 a0 21) ≤ 64 := zi_rd hIm178 hc0 zb_28_21
                      have e184 : (m178 a0 21) = (m0 a0 21) := (Eq.trans (zfr_ap hfm178 hc0 rfl) (zfr_ap hfm137 hc0 rfl))
                      have r185 : 0 ≤ (m178 a0 48) ∧ (m178 a0 48) ≤ 64 := zi_rd hIm178 hc0 zb_28_48
                      have e186 : (m178 a0 48) = (m0 a0 48) := (Eq.trans (zfr_ap hfm178 hc0 rfl) (zfr_ap hfm137 hc0 rfl))
                      have r187 : (-2147483648) ≤ (m178 a0 4) ∧ (m178 a0 4) ≤ 2147483647 := zi_rd hIm178 hc0 zb_28_4
                      have e188 : (m178 a0 4) = (m137 a0 4) := (zfr_ap hfm178 hc0 rfl)
                      exact zw_some ⟨hIm178, hFm178, hLm178, hRC0m178, hRCRm178, hRKNm178, hRLRm178, hRLTm178, hRNSm178, hRTRm178, hRWDm178, ⟨by decide, by decide⟩, fun _ => by omega, fun _ => by omega, fun _ => by omega⟩
                    · exfalso; omega
              · refine zw_b (by omega) ?_
                have r189 : 0 ≤ (m137 a0 21) ∧ (m137 a0 21) ≤ 64 := zi_rd hIm137 hc0 zb_28_21
                have e190 : (m137 a0 21) = (m0 a0 21) := (zfr_ap hfm137 hc0 rfl)
                have r191 : 0 ≤ (m137 a0 48) ∧ (m137 a0 48) ≤ 64 := zi_rd hIm137 hc0 zb_28_48
                have e192 : (m137 a0 48) = (m0 a0 48) := (zfr_ap hfm137 hc0 rfl)
                exact zw_some ⟨hIm137, hFm137, hLm137, hRC0m137, hRCRm137, hRKNm137, hRLRm137, hRLTm137, hRNSm137, hRTRm137, hRWDm137, ⟨by decide, by decide⟩, fun h => absurd h (by decide), fun h => absurd h (by decide), fun h => absurd h (by decide)⟩
          · refine zw_bd (zw_mono (zk_101 n hIm0 hc0 ⟨by omega, by omega⟩ ⟨by omega, by omega⟩ hRCRm0 hRLRm0 hRNSm0 hRTRm0 hRWDm0) (fun v194 m193 hqm193 => ?_))
            obtain ⟨hIm193, hfm193, hvm193⟩ := hqm193
            have hFm193 := zfr_tr hFm0 hfm193 rfl
            have hLm193 := zlw_tr hLm0 (zlw_fr hfm193 rfl)
            obtain ⟨hRCRm193, hRLRm193, hRNSm193, hRTRm193, hRWDm193, hvm193⟩ := hvm193
            have hRC0m193 := zR_C0_fr (zdis_fr hfm193 rfl) hRC0m0
            have hRKNm193 := zR_KN_fr (zdis_fr hfm193 rfl) hRKNm0
            have hRLTm193 := zR_LT_fr (zdis_fr hfm193 rfl) hRLTm0
            have s195 := hRNSm193 a0 hc0
            have r196 : 0 ≤ (m193 a0 7) ∧ (m193 a0 7) ≤ 700 := zi_rd hIm193 hc0 zb_28_7
            have r197 : 0 ≤ (m193 a0 8) ∧ (m193 a0 8) ≤ 6 := zi_rd hIm193 hc0 zb_28_8
            have r198 : (-2147483648) ≤ (m193 a0 4) ∧ (m193 a0 4) ≤ 2147483647 := zi_rd hIm193 hc0 zb_28_4
            have y199 := (hvm193.1)
            have y200 := (hvm193.2.1)
            have y201 := zhid_mk (hvm193.2.2.1)
            have y202 := zhid_mk (hvm193.2.2.2)
            clear hvm193
            refine zw_ite (fun h203 => ?_) (fun h203 => ?_)
            · have s204 := (zhid_of y201) (by omega)
              have s205 := (zhid_of y202) (by omega)
              refine zw_bd (zw_eq (zu_call_at (zt_T n) (zm_93 n) (zdp_93 n) _ _ _ _ _ rfl (zr_93_0 n _ _ a0 59 m193)) ?_)
              refine zw_ite (fun h206 => ?_) (fun h206 => ?_)
              · refine zw_b (by omega) ?_
                refine zw_some ?_
                refine zw_ite (fun h207 => ?_) (fun h207 => ?_)
                · exfalso; omega
                · refine zw_bd (zw_eq (zu_call_at (zt_T n) (zm_85 n) (zdp_85 n) _ _ _ _ _ rfl (zr_85_0 n _ _ a0 1 m193)) ?_)
                  generalize hmm208 : zu_up m193 a0 4 1 = m208
                  have hIm208 := zi_up hmm208 hIm193 hc0 zb_28_4 (by omega) (by omega)
                  have hFm208 := zfr_up hmm208 hFm193 hc0 rfl
                  have hLm208 := zlw_tr hLm193 (zlw_fr (zfr_up hmm208 (zfr_rf [(28, 1), (28, 2), (28, 3), (28, 4), (28, 5), (28, 6), (28, 7), (28, 8), (28, 9), (28, 10), (28, 11), (28, 12), (28, 23), (28, 24), (28, 43), (105, 0)] _) hc0 rfl) rfl)
                  have hRC0m208 := zR_C0_fr (zdis_fr (zfr_up hmm208 (zfr_rf [(28, 5)] _) hc0 rfl) rfl) hRC0m193
                  have hRCRm208 := zR_CR_fr (zdis_fr (zfr_up hmm208 (zfr_rf [(28, 5)] _) hc0 rfl) rfl) hRCRm193
                  have hRKNm208 := zR_KN_fr (zdis_fr (zfr_up hmm208 (zfr_rf [(28, 5)] _) hc0 rfl) rfl) hRKNm193
                  have hRLTm208 := zR_LT_fr (zdis_fr (zfr_up hmm208 (zfr_rf [(28, 5)] _) hc0 rfl) rfl) hRLTm193
                  have hRNSm208 := zR_NS_fr (zdis_fr (zfr_up hmm208 (zfr_rf [(28, 5)] _) hc0 rfl) rfl) hRNSm193
                  have hRTRm208 := zR_TR_fr (zdis_fr (zfr_up hmm208 (zfr_rf [(28, 5)] _) hc0 rfl) rfl) hRTRm193
                  have hRWDm208 := zR_WD_fr (zdis_fr (zfr_up hmm208 (zfr_rf [(28, 5)] _) hc0 rfl) rfl) hRWDm193
                  have hRLRm208 := zLR_wr (zone_190 hc0) hmm208 (by decide)
                  have r209 : 0 ≤ (m208 a0 10) ∧ (m208 a0 10) ≤ 700 := zi_rd hIm208 hc0 zb_28_10
                  generalize hmm210 : zu_up m208 a0 5 (m208 a0 10) = m210
                  have hIm210 := zi_up hmm210 hIm208 hc0 zb_28_5 (by omega) (by omega)
                  have hFm210 := zfr_up hmm210 hFm208 hc0 rfl
                  have hLm210 := zlw_tr hLm208 (zlw_fr (zfr_up hmm210 (zfr_rf [(28, 1), (28, 2), (28, 3), (28, 4), (28, 5), (28, 6), (28, 7), (28, 8), (28, 9), (28, 10), (28, 11), (28, 12), (28, 23), (28, 24), (28, 43), (105, 0)] _) hc0 rfl) rfl)
                  have hRC0m210 := zR_C0_fr (zdis_fr (zfr_up hmm210 (zfr_rf [(28, 6)] _) hc0 rfl) rfl) hRC0m208
                  have hRCRm210 := zR_CR_fr (zdis_fr (zfr_up hmm210 (zfr_rf [(28, 6)] _) hc0 rfl) rfl) hRCRm208
                  have hRKNm210 := zR_KN_fr (zdis_fr (zfr_up hmm210 (zfr_rf [(28, 6)] _) hc0 rfl) rfl) hRKNm208
                  have hRLRm210 := zR_LR_fr (zdis_fr (zfr_up hmm210 (zfr_rf [(28, 6)] _) hc0 rfl) rfl) hRLRm208
                  have hRLTm210 := zR_LT_fr (zdis_fr (zfr_up hmm210 (zfr_rf [(28, 6)] _) hc0 rfl) rfl) hRLTm208
                  have hRNSm210 := zR_NS_fr (zdis_fr (zfr_up hmm210 (zfr_rf [(28, 6)] _) hc0 rfl) rfl) hRNSm208
                  have hRTRm210 := zR_TR_fr (zdis_fr (zfr_up hmm210 (zfr_rf [(28, 6)] _) hc0 rfl) rfl) hRTRm208
                  have hRWDm210 := zR_WD_fr (zdis_fr (zfr_up hmm210 (zfr_rf [(28, 6)] _) hc0 rfl) rfl) hRWDm208
                  refine zw_b (by omega) ?_
                  refine zw_some ?_
                  refine zw_b (by omega) ?_
                  have r211 : 0 ≤ (m210 a0 7) ∧ (m210 a0 7) ≤ 700 := zi_rd hIm210 hc0 zb_28_7
                  have e212 : (m210 a0 7) = (m193 a0 7) := (Eq.trans (zs_ne hmm210 (Or.inr (by decide))) (zs_ne hmm208 (Or.inr (by decide))))
                  have r213 : 0 ≤ (m210 a0 21) ∧ (m210 a0 21) ≤ 64 := zi_rd hIm210 hc0 zb_28_21
                  have e214 : (m210 a0 21) = (m0 a0 21) := (Eq.trans (zs_ne hmm210 (Or.inr (by decide))) (Eq.trans (zs_ne hmm208 (Or.inr (by decide))) (zfr_ap hfm193 hc0 rfl)))
                  have r215 : 0 ≤ (m210 a0 48) ∧ (m210 a0 48) ≤ 64 := zi_rd hIm210 hc0 zb_28_48
                  have e216 : (m210 a0 48) = (m0 a0 48) := (Eq.trans (zs_ne hmm210 (Or.inr (by decide))) (Eq.trans (zs_ne hmm208 (Or.inr (by decide))) (zfr_ap hfm193 hc0 rfl)))
                  have r217 : (-2147483648) ≤ (m210 a0 4) ∧ (m210 a0 4) ≤ 2147483647 := zi_rd hIm210 hc0 zb_28_4
                  have e218 : (m210 a0 4) = 1 := (Eq.trans (zs_ne hmm210 (Or.inr (by decide))) (zs_eq hmm208))
                  exact zw_some ⟨hIm210, hFm210, hLm210, hRC0m210, hRCRm210, hRKNm210, hRLRm210, hRLTm210, hRNSm210, hRTRm210, hRWDm210, ⟨by decide, by decide⟩, fun h => absurd h (by decide), fun h => absurd h (by decide), fun h => absurd h (by decide)⟩
              · have r219 : (-2147483648) ≤ (m193 a0 9) ∧ (m193 a0 9) ≤ 2147483647 := zi_rd hIm193 hc0 zb_28_9
                refine zw_ite (fun h220 => ?_) (fun h220 => ?_)
                · refine zw_b (by omega) ?_
                  refine zw_some ?_
                  refine zw_ite (fun h221 => ?_) (fun h221 => ?_)
                  · exfalso; omega
                  · refine zw_bd (zw_eq (zu_call_at (zt_T n) (zm_85 n) (zdp_85 n) _ _ _ _ _ rfl (zr_85_0 n _ _ a0 1 m193)) ?_)
                    generalize hmm222 : zu_up m193 a0 4 1 = m222
                    have hIm222 := zi_up hmm222 hIm193 hc0 zb_28_4 (by omega) (by omega)
                    have hFm222 := zfr_up hmm222 hFm193 hc0 rfl
                    have hLm222 := zlw_tr hLm193 (zlw_fr (zfr_up hmm222 (zfr_rf [(28, 1), (28, 2), (28, 3), (28, 4), (28, 5), (28, 6), (28, 7), (28, 8), (28, 9), (28, 10), (28, 11), (28, 12), (28, 23), (28, 24), (28, 43), (105, 0)] _) hc0 rfl) rfl)
                    have hRC0m222 := zR_C0_fr (zdis_fr (zfr_up hmm222 (zfr_rf [(28, 5)] _) hc0 rfl) rfl) hRC0m193
                    have hRCRm222 := zR_CR_fr (zdis_fr (zfr_up hmm222 (zfr_rf [(28, 5)] _) hc0 rfl) rfl) hRCRm193
                    have hRKNm222 := zR_KN_fr (zdis_fr (zfr_up hmm222 (zfr_rf [(28, 5)] _) hc0 rfl) rfl) hRKNm193
                    have hRLTm222 := zR_LT_fr (zdis_fr (zfr_up hmm222 (zfr_rf [(28, 5)] _) hc0 rfl) rfl) hRLTm193
                    have hRNSm222 := zR_NS_fr (zdis_fr (zfr_up hmm222 (zfr_rf [(28, 5)] _) hc0 rfl) rfl) hRNSm193
                    have hRTRm222 := zR_TR_fr (zdis_fr (zfr_up hmm222 (zfr_rf [(28, 5)] _) hc0 rfl) rfl) hRTRm193
                    have hRWDm222 := zR_WD_fr (zdis_fr (zfr_up hmm222 (zfr_rf [(28, 5)] _) hc0 rfl) rfl) hRWDm193
                    have hRLRm222 := zLR_wr (zone_190 hc0) hmm222 (by decide)
                    have r223 : 0 ≤ (m222 a0 10) ∧ (m222 a0 10) ≤ 700 := zi_rd hIm222 hc0 zb_28_10
                    generalize hmm224 : zu_up m222 a0 5 (m222 a0 10) = m224
                    have hIm224 := zi_up hmm224 hIm222 hc0 zb_28_5 (by omega) (by omega)
                    have hFm224 := zfr_up hmm224 hFm222 hc0 rfl
                    have hLm224 := zlw_tr hLm222 (zlw_fr (zfr_up hmm224 (zfr_rf [(28, 1), (28, 2), (28, 3), (28, 4), (28, 5), (28, 6), (28, 7), (28, 8), (28, 9), (28, 10), (28, 11), (28, 12), (28, 23), (28, 24), (28, 43), (105, 0)] _) hc0 rfl) rfl)
                    have hRC0m224 := zR_C0_fr (zdis_fr (zfr_up hmm224 (zfr_rf [(28, 6)] _) hc0 rfl) rfl) hRC0m222
                    have hRCRm224 := zR_CR_fr (zdis_fr (zfr_up hmm224 (zfr_rf [(28, 6)] _) hc0 rfl) rfl) hRCRm222
                    have hRKNm224 := zR_KN_fr (zdis_fr (zfr_up hmm224 (zfr_rf [(28, 6)] _) hc0 rfl) rfl) hRKNm222
                    have hRLRm224 := zR_LR_fr (zdis_fr (zfr_up hmm224 (zfr_rf [(28, 6)] _) hc0 rfl) rfl) hRLRm222
                    have hRLTm224 := zR_LT_fr (zdis_fr (zfr_up hmm224 (zfr_rf [(28, 6)] _) hc0 rfl) rfl) hRLTm222
                    have hRNSm224 := zR_NS_fr (zdis_fr (zfr_up hmm224 (zfr_rf [(28, 6)] _) hc0 rfl) rfl) hRNSm222
                    have hRTRm224 := zR_TR_fr (zdis_fr (zfr_up hmm224 (zfr_rf [(28, 6)] _) hc0 rfl) rfl) hRTRm222
                    have hRWDm224 := zR_WD_fr (zdis_fr (zfr_up hmm224 (zfr_rf [(28, 6)] _) hc0 rfl) rfl) hRWDm222
                    refine zw_b (by omega) ?_
                    refine zw_some ?_
                    refine zw_b (by omega) ?_
                    have r225 : 0 ≤ (m224 a0 7) ∧ (m224 a0 7) ≤ 700 := zi_rd hIm224 hc0 zb_28_7
                    have e226 : (m224 a0 7) = (m193 a0 7) := (Eq.trans (zs_ne hmm224 (Or.inr (by decide))) (zs_ne hmm222 (Or.inr (by decide))))
                    have r227 : 0 ≤ (m224 a0 21) ∧ (m224 a0 21) ≤ 64 := zi_rd hIm224 hc0 zb_28_21
                    have e228 : (m224 a0 21) = (m0 a0 21) := (Eq.trans (zs_ne hmm224 (Or.inr (by decide))) (Eq.trans (zs_ne hmm222 (Or.inr (by decide))) (zfr_ap hfm193 hc0 rfl)))
                    have r229 : 0 ≤ (m224 a0 48) ∧ (m224 a0 48) ≤ 64 := zi_rd hIm224 hc0 zb_28_48
                    have e230 : (m224 a0 48) = (m0 a0 48) := (Eq.trans (zs_ne hmm224 (Or.inr (by decide))) (Eq.trans (zs_ne hmm222 (Or.inr (by decide))) (zfr_ap hfm193 hc0 rfl)))
                    have r231 : (-2147483648) ≤ (m224 a0 4) ∧ (m224 a0 4) ≤ 2147483647 := zi_rd hIm224 hc0 zb_28_4
                    have e232 : (m224 a0 4) = 1 := (Eq.trans (zs_ne hmm224 (Or.inr (by decide))) (zs_eq hmm222))
                    exact zw_some ⟨hIm224, hFm224, hLm224, hRC0m224, hRCRm224, hRKNm224, hRLRm224, hRLTm224, hRNSm224, hRTRm224, hRWDm224, ⟨by decide, by decide⟩, fun h => absurd h (by decide), fun h => absurd h (by decide), fun h => absurd h (by decide)⟩
                · refine zw_b (by omega) ?_
                  refine zw_some ?_
                  refine zw_ite (fun h233 => ?_) (fun h233 => ?_)
                  · refine zw_bd (zw_mono (zk_89 n hIm193 hc0 hRNSm193 hRWDm193) (fun v235 m234 hqm234 => ?_))
                    obtain ⟨hIm234, hfm234, hvm234⟩ := hqm234
                    have hFm234 := zfr_tr hFm193 hfm234 rfl
                    have hLm234 := zlw_tr hLm193 (zlw_fr hfm234 rfl)
                    obtain ⟨hRNSm234, hRTRm234, hRWDm234, hvm234⟩ := hvm234
                    have hRC0m234 := zR_C0_fr (zdis_fr hfm234 rfl) hRC0m193
                    have hRCRm234 := zR_CR_fr (zdis_fr hfm234 rfl) hRCRm193
                    have hRKNm234 := zR_KN_fr (zdis_fr hfm234 rfl) hRKNm193
                    have hRLRm234 := zR_LR_fr (zdis_fr hfm234 rfl) hRLRm193
                    have hRLTm234 := zR_LT_fr (zdis_fr hfm234 rfl) hRLTm193
                    have s236 := hRNSm234 a0 hc0
                    have r237 : 0 ≤ (m234 a0 7) ∧ (m234 a0 7) ≤ 700 := zi_rd hIm234 hc0 zb_28_7
                    have r238 : 0 ≤ (m234 a0 8) ∧ (m234 a0 8) ≤ 6 := zi_rd hIm234 hc0 zb_28_8
                    refine zw_b (by omega) ?_
                    have r239 : 0 ≤ (m234 a0 21) ∧ (m234 a0 21) ≤ 64 := zi_rd hIm234 hc0 zb_28_21
                    have e240 : (m234 a0 21) = (m0 a0 21) := (Eq.trans (zfr_ap hfm234 hc0 rfl) (zfr_ap hfm193 hc0 rfl))
                    have r241 : 0 ≤ (m234 a0 48) ∧ (m234 a0 48) ≤ 64 := zi_rd hIm234 hc0 zb_28_48
                    have e242 : (m234 a0 48) = (m0 a0 48) := (Eq.trans (zfr_ap hfm234 hc0 rfl) (zfr_ap hfm193 hc0 rfl))
                    have r243 : (-2147483648) ≤ (m234 a0 4) ∧ (m234 a0 4) ≤ 2147483647 := zi_rd hIm234 hc0 zb_28_4
                    have e244 : (m234 a0 4) = (m193 a0 4) := (zfr_ap hfm234 hc0 rfl)
                    exact zw_some ⟨hIm234, hFm234, hLm234, hRC0m234, hRCRm234, hRKNm234, hRLRm234, hRLTm234, hRNSm234, hRTRm234, hRWDm234, ⟨by decide, by decide⟩, fun _ => by omega, fun _ => by omega, fun _ => by omega⟩
                  · exfalso; omega
            · refine zw_b (by omega) ?_
              have r245 : 0 ≤ (m193 a0 21) ∧ (m193 a0 21) ≤ 64 := zi_rd hIm193 hc0 zb_28_21
              have e246 : (m193 a0 21) = (m0 a0 21) := (zfr_ap hfm193 hc0 rfl)
              have r247 : 0 ≤ (m193 a0 48) ∧ (m193 a0 48) ≤ 64 := zi_rd hIm193 hc0 zb_28_48
              have e248 : (m193 a0 48) = (m0 a0 48) := (zfr_ap hfm193 hc0 rfl)
              exact zw_some ⟨hIm193, hFm193, hLm193, hRC0m193, hRCRm193, hRKNm193, hRLRm193, hRLTm193, hRNSm193, hRTRm193, hRWDm193, ⟨by decide, by decide⟩, fun h => absurd h (by decide), fun h => absurd h (by decide), fun h => absurd h (by decide)⟩
        · have w249 := zu_w32_id (z := (m0 a0 9) - 1) (by omega) (by omega)
          have w250 := zu_w32_id (z := (zu_w32 ((m0 a0 9) - 1)) + 1) (by omega) (by omega)
          refine zw_bd (zw_mono (zk_100w n hIm0 hc0 ⟨by omega, by omega⟩ ⟨by omega, by omega⟩ ⟨by omega, by omega⟩ hRCRm0 hRLRm0 hRNSm0 hRTRm0 hRWDm0) (fun v252 m251 hqm251 => ?_))
          obtain ⟨hIm251, hfm251, hlm251, hvm251⟩ := hqm251
          have hFm251 := zfr_tr hFm0 hfm251 rfl
          have hLm251 := zlw_tr hLm0 hlm251
          obtain ⟨hRCRm251, hRLRm251, hRNSm251, hRTRm251, hRWDm251, hvm251⟩ := hvm251
          have hRC0m251 := zR_C0_fr (zdis_fr hfm251 rfl) hRC0m0
          have hRKNm251 := zR_KN_fr (zdis_fr hfm251 rfl) hRKNm0
          have hRLTm251 := zR_LT_fr (zdis_fr hfm251 rfl) hRLTm0
          have s253 := hRNSm251 a0 hc0
          have r254 : 0 ≤ (m251 a0 7) ∧ (m251 a0 7) ≤ 700 := zi_rd hIm251 hc0 zb_28_7
          have r255 : 0 ≤ (m251 a0 8) ∧ (m251 a0 8) ≤ 6 := zi_rd hIm251 hc0 zb_28_8
          have r256 : (-2147483648) ≤ (m251 a0 4) ∧ (m251 a0 4) ≤ 2147483647 := zi_rd hIm251 hc0 zb_28_4
          have y257 := (hvm251.1)
          have y258 := (hvm251.2.1)
          have y259 := zhid_mk (hvm251.2.2.1)
          have y260 := zhid_mk (hvm251.2.2.2)
          clear hvm251
          refine zw_ite (fun h261 => ?_) (fun h261 => ?_)
          · have s262 := (zhid_of y259) (by omega)
            have s263 := (zhid_of y260) (by omega)
            refine zw_bd (zw_eq (zu_call_at (zt_T n) (zm_93 n) (zdp_93 n) _ _ _ _ _ rfl (zr_93_0 n _ _ a0 59 m251)) ?_)
            refine zw_ite (fun h264 => ?_) (fun h264 => ?_)
            · refine zw_b (by omega) ?_
              refine zw_some ?_
              refine zw_ite (fun h265 => ?_) (fun h265 => ?_)
              · exfalso; omega
              · refine zw_bd (zw_eq (zu_call_at (zt_T n) (zm_85 n) (zdp_85 n) _ _ _ _ _ rfl (zr_85_0 n _ _ a0 1 m251)) ?_)
                generalize hmm266 : zu_up m251 a0 4 1 = m266
                have hIm266 := zi_up hmm266 hIm251 hc0 zb_28_4 (by omega) (by omega)
                have hFm266 := zfr_up hmm266 hFm251 hc0 rfl
                have hLm266 := zlw_tr hLm251 (zlw_fr (zfr_up hmm266 (zfr_rf [(28, 1), (28, 2), (28, 3), (28, 4), (28, 5), (28, 6), (28, 7), (28, 8), (28, 9), (28, 10), (28, 11), (28, 12), (28, 23), (28, 24), (28, 43), (105, 0)] _) hc0 rfl) rfl)
                have hRC0m266 := zR_C0_fr (zdis_fr (zfr_up hmm266 (zfr_rf [(28, 5)] _) hc0 rfl) rfl) hRC0m251
                have hRCRm266 := zR_CR_fr (zdis_fr (zfr_up hmm266 (zfr_rf [(28, 5)] _) hc0 rfl) rfl) hRCRm251
                have hRKNm266 := zR_KN_fr (zdis_fr (zfr_up hmm266 (zfr_rf [(28, 5)] _) hc0 rfl) rfl) hRKNm251
                have hRLTm266 := zR_LT_fr (zdis_fr (zfr_up hmm266 (zfr_rf [(28, 5)] _) hc0 rfl) rfl) hRLTm251
                have hRNSm266 := zR_NS_fr (zdis_fr (zfr_up hmm266 (zfr_rf [(28, 5)] _) hc0 rfl) rfl) hRNSm251
                have hRTRm266 := zR_TR_fr (zdis_fr (zfr_up hmm266 (zfr_rf [(28, 5)] _) hc0 rfl) rfl) hRTRm251
                have hRWDm266 := zR_WD_fr (zdis_fr (zfr_up hmm266 (zfr_rf [(28, 5)] _) hc0 rfl) rfl) hRWDm251
                have hRLRm266 := zLR_wr (zone_190 hc0) hmm266 (by decide)
                have r267 : 0 ≤ (m266 a0 10) ∧ (m266 a0 10) ≤ 700 := zi_rd hIm266 hc0 zb_28_10
                generalize hmm268 : zu_up m266 a0 5 (m266 a0 10) = m268
                have hIm268 := zi_up hmm268 hIm266 hc0 zb_28_5 (by omega) (by omega)
                have hFm268 := zfr_up hmm268 hFm266 hc0 rfl
                have hLm268 := zlw_tr hLm266 (zlw_fr (zfr_up hmm268 (zfr_rf [(28, 1), (28, 2), (28, 3), (28, 4), (28, 5), (28, 6), (28, 7), (28, 8), (28, 9), (28, 10), (28, 11), (28, 12), (28, 23), (28, 24), (28, 43), (105, 0)] _) hc0 rfl) rfl)
                have hRC0m268 := zR_C0_fr (zdis_fr (zfr_up hmm268 (zfr_rf [(28, 6)] _) hc0 rfl) rfl) hRC0m266
                have hRCRm268 := zR_CR_fr (zdis_fr (zfr_up hmm268 (zfr_rf [(28, 6)] _) hc0 rfl) rfl) hRCRm266
                have hRKNm268 := zR_KN_fr (zdis_fr (zfr_up hmm268 (zfr_rf [(28, 6)] _) hc0 rfl) rfl) hRKNm266
                have hRLRm268 := zR_LR_fr (zdis_fr (zfr_up hmm268 (zfr_rf [(28, 6)] _) hc0 rfl) rfl) hRLRm266
                have hRLTm268 := zR_LT_fr (zdis_fr (zfr_up hmm268 (zfr_rf [(28, 6)] _) hc0 rfl) rfl) hRLTm266
                have hRNSm268 := zR_NS_fr (zdis_fr (zfr_up hmm268 (zfr_rf [(28, 6)] _) hc0 rfl) rfl) hRNSm266
                have hRTRm268 := zR_TR_fr (zdis_fr (zfr_up hmm268 (zfr_rf [(28, 6)] _) hc0 rfl) rfl) hRTRm266
                have hRWDm268 := zR_WD_fr (zdis_fr (zfr_up hmm268 (zfr_rf [(28, 6)] _) hc0 rfl) rfl) hRWDm266
                refine zw_b (by omega) ?_
                refine zw_some ?_
                refine zw_b (by omega) ?_
                have r269 : 0 ≤ (m268 a0 7) ∧ (m268 a0 7) ≤ 700 := zi_rd hIm268 hc0 zb_28_7
                have e270 : (m268 a0 7) = (m251 a0 7) := (Eq.trans (zs_ne hmm268 (Or.inr (by decide))) (zs_ne hmm266 (Or.inr (by decide))))
                have r271 : 0 ≤ (m268 a0 21) ∧ (m268 a0 21) ≤ 64 := zi_rd hIm268 hc0 zb_28_21
                have e272 : (m268 a0 21) = (m0 a0 21) := (Eq.trans (zs_ne hmm268 (Or.inr (by decide))) (Eq.trans (zs_ne hmm266 (Or.inr (by decide))) (zfr_ap hfm251 hc0 rfl)))
                have r273 : 0 ≤ (m268 a0 48) ∧ (m268 a0 48) ≤ 64 := zi_rd hIm268 hc0 zb_28_48
                have e274 : (m268 a0 48) = (m0 a0 48) := (Eq.trans (zs_ne hmm268 (Or.inr (by decide))) (Eq.trans (zs_ne hmm266 (Or.inr (by decide))) (zfr_ap hfm251 hc0 rfl)))
                have r275 : (-2147483648) ≤ (m268 a0 4) ∧ (m268 a0 4) ≤ 2147483647 := zi_rd hIm268 hc0 zb_28_4
                have e276 : (m268 a0 4) = 1 := (Eq.trans (zs_ne hmm268 (Or.inr (by decide))) (zs_eq hmm266))
                exact zw_some ⟨hIm268, hFm268, hLm268, hRC0m268, hRCRm268, hRKNm268, hRLRm268, hRLTm268, hRNSm268, hRTRm268, hRWDm268, ⟨by decide, by decide⟩, fun h => absurd h (by decide), fun h => absurd h (by decide), fun h => absurd h (by decide)⟩
            · have r277 : (-2147483648) ≤ (m251 a0 9) ∧ (m251 a0 9) ≤ 2147483647 := zi_rd hIm251 hc0 zb_28_9
              refine zw_ite (fun h278 => ?_) (fun h278 => ?_)
              · refine zw_b (by omega) ?_
                refine zw_some ?_
                refine zw_ite (fun h279 => ?_) (fun h279 => ?_)
                · exfalso; omega
                · refine zw_bd (zw_eq (zu_call_at (zt_T n) (zm_85 n) (zdp_85 n) _ _ _ _ _ rfl (zr_85_0 n _ _ a0 1 m251)) ?_)
                  generalize hmm280 : zu_up m251 a0 4 1 = m280
                  have hIm280 := zi_up hmm280 hIm251 hc0 zb_28_4 (by omega) (by omega)
                  have hFm280 := zfr_up hmm280 hFm251 hc0 rfl
                  have hLm280 := zlw_tr hLm251 (zlw_fr (zfr_up hmm280 (zfr_rf [(28, 1), (28, 2), (28, 3), (28, 4), (28, 5), (28, 6), (28, 7), (28, 8), (28, 9), (28, 10), (28, 11), (28, 12), (28, 23), (28, 24), (28, 43), (105, 0)] _) hc0 rfl) rfl)
                  have hRC0m280 := zR_C0_fr (zdis_fr (zfr_up hmm280 (zfr_rf [(28, 5)] _) hc0 rfl) rfl) hRC0m251
                  have hRCRm280 := zR_CR_fr (zdis_fr (zfr_up hmm280 (zfr_rf [(28, 5)] _) hc0 rfl) rfl) hRCRm251
                  have hRKNm280 := zR_KN_fr (zdis_fr (zfr_up hmm280 (zfr_rf [(28, 5)] _) hc0 rfl) rfl) hRKNm251
                  have hRLTm280 := zR_LT_fr (zdis_fr (zfr_up hmm280 (zfr_rf [(28, 5)] _) hc0 rfl) rfl) hRLTm251
                  have hRNSm280 := zR_NS_fr (zdis_fr (zfr_up hmm280 (zfr_rf [(28, 5)] _) hc0 rfl) rfl) hRNSm251
                  have hRTRm280 := zR_TR_fr (zdis_fr (zfr_up hmm280 (zfr_rf [(28, 5)] _) hc0 rfl) rfl) hRTRm251
                  have hRWDm280 := zR_WD_fr (zdis_fr (zfr_up hmm280 (zfr_rf [(28, 5)] _) hc0 rfl) rfl) hRWDm251
                  have hRLRm280 := zLR_wr (zone_190 hc0) hmm280 (by decide)
                  have r281 : 0 ≤ (m280 a0 10) ∧ (m280 a0 10) ≤ 700 := zi_rd hIm280 hc0 zb_28_10
                  generalize hmm282 : zu_up m280 a0 5 (m280 a0 10) = m282
                  have hIm282 := zi_up hmm282 hIm280 hc0 zb_28_5 (by omega) (by omega)
                  have hFm282 := zfr_up hmm282 hFm280 hc0 rfl
                  have hLm282 := zlw_tr hLm280 (zlw_fr (zfr_up hmm282 (zfr_rf [(28, 1), (28, 2), (28, 3), (28, 4), (28, 5), (28, 6), (28, 7), (28, 8), (28, 9), (28, 10), (28, 11), (28, 12), (28, 23), (28, 24), (28, 43), (105, 0)] _) hc0 rfl) rfl)
                  have hRC0m282 := zR_C0_fr (zdis_fr (zfr_up hmm282 (zfr_rf [(28, 6)] _) hc0 rfl) rfl) hRC0m280
                  have hRCRm282 := zR_CR_fr (zdis_fr (zfr_up hmm282 (zfr_rf [(28, 6)] _) hc0 rfl) rfl) hRCRm280
                  have hRKNm282 := zR_KN_fr (zdis_fr (zfr_up hmm282 (zfr_rf [(28, 6)] _) hc0 rfl) rfl) hRKNm280
                  have hRLRm282 := zR_LR_fr (zdis_fr (zfr_up hmm282 (zfr_rf [(28, 6)] _) hc0 rfl) rfl) hRLRm280
                  have hRLTm282 := zR_LT_fr (zdis_fr (zfr_up hmm282 (zfr_rf [(28, 6)] _) hc0 rfl) rfl) hRLTm280
                  have hRNSm282 := zR_NS_fr (zdis_fr (zfr_up hmm282 (zfr_rf [(28, 6)] _) hc0 rfl) rfl) hRNSm280
                  have hRTRm282 := zR_TR_fr (zdis_fr (zfr_up hmm282 (zfr_rf [(28, 6)] _) hc0 rfl) rfl) hRTRm280
                  have hRWDm282 := zR_WD_fr (zdis_fr (zfr_up hmm282 (zfr_rf [(28, 6)] _) hc0 rfl) rfl) hRWDm280
                  refine zw_b (by omega) ?_
                  refine zw_some ?_
                  refine zw_b (by omega) ?_
                  have r283 : 0 ≤ (m282 a0 7) ∧ (m282 a0 7) ≤ 700 := zi_rd hIm282 hc0 zb_28_7
                  have e284 : (m282 a0 7) = (m251 a0 7) := (Eq.trans (zs_ne hmm282 (Or.inr (by decide))) (zs_ne hmm280 (Or.inr (by decide))))
                  have r285 : 0 ≤ (m282 a0 21) ∧ (m282 a0 21) ≤ 64 := zi_rd hIm282 hc0 zb_28_21
                  have e286 : (m282 a0 21) = (m0 a0 21) := (Eq.trans (zs_ne hmm282 (Or.inr (by decide))) (Eq.trans (zs_ne hmm280 (Or.inr (by decide))) (zfr_ap hfm251 hc0 rfl)))
                  have r287 : 0 ≤ (m282 a0 48) ∧ (m282 a0 48) ≤ 64 := zi_rd hIm282 hc0 zb_28_48
                  have e288 : (m282 a0 48) = (m0 a0 48) := (Eq.trans (zs_ne hmm282 (Or.inr (by decide))) (Eq.trans (zs_ne hmm280 (Or.inr (by decide))) (zfr_ap hfm251 hc0 rfl)))
                  have r289 : (-2147483648) ≤ (m282 a0 4) ∧ (m282 a0 4) ≤ 2147483647 := zi_rd hIm282 hc0 zb_28_4
                  have e290 : (m282 a0 4) = 1 := (Eq.trans (zs_ne hmm282 (Or.inr (by decide))) (zs_eq hmm280))
                  exact zw_some ⟨hIm282, hFm282, hLm282, hRC0m282, hRCRm282, hRKNm282, hRLRm282, hRLTm282, hRNSm282, hRTRm282, hRWDm282, ⟨by decide, by decide⟩, fun h => absurd h (by decide), fun h => absurd h (by decide), fun h => absurd h (by decide)⟩
              · refine zw_b (by omega) ?_
                refine zw_some ?_
                refine zw_ite (fun h291 => ?_) (fun h291 => ?_)
                · refine zw_bd (zw_mono (zk_89 n hIm251 hc0 hRNSm251 hRWDm251) (fun v293 m292 hqm292 => ?_))
                  obtain ⟨hIm292, hfm292, hvm292⟩ := hqm292
                  have hFm292 := zfr_tr hFm251 hfm292 rfl
                  have hLm292 := zlw_tr hLm251 (zlw_fr hfm292 rfl)
                  obtain ⟨hRNSm292, hRTRm292, hRWDm292, hvm292⟩ := hvm292
                  have hRC0m292 := zR_C0_fr (zdis_fr hfm292 rfl) hRC0m251
                  have hRCRm292 := zR_CR_fr (zdis_fr hfm292 rfl) hRCRm251
                  have hRKNm292 := zR_KN_fr (zdis_fr hfm292 rfl) hRKNm251
                  have hRLRm292 := zR_LR_fr (zdis_fr hfm292 rfl) hRLRm251
                  have hRLTm292 := zR_LT_fr (zdis_fr hfm292 rfl) hRLTm251
                  have s294 := hRNSm292 a0 hc0
                  have r295 : 0 ≤ (m292 a0 7) ∧ (m292 a0 7) ≤ 700 := zi_rd hIm292 hc0 zb_28_7
                  have r296 : 0 ≤ (m292 a0 8) ∧ (m292 a0 8) ≤ 6 := zi_rd hIm292 hc0 zb_28_8
                  refine zw_b (by omega) ?_
                  have r297 : 0 ≤ (m292 a0 21) ∧ (m292 a0 21) ≤ 64 := zi_rd hIm292 hc0 zb_28_21
                  have e298 : (m292 a0 21) = (m0 a0 21) := (Eq.trans (zfr_ap hfm292 hc0 rfl) (zfr_ap hfm251 hc0 rfl))
                  have r299 : 0 ≤ (m292 a0 48) ∧ (m292 a0 48) ≤ 64 := zi_rd hIm292 hc0 zb_28_48
                  have e300 : (m292 a0 48) = (m0 a0 48) := (Eq.trans (zfr_ap hfm292 hc0 rfl) (zfr_ap hfm251 hc0 rfl))
                  have r301 : (-2147483648) ≤ (m292 a0 4) ∧ (m292 a0 4) ≤ 2147483647 := zi_rd hIm292 hc0 zb_28_4
                  have e302 : (m292 a0 4) = (m251 a0 4) := (zfr_ap hfm292 hc0 rfl)
                  exact zw_some ⟨hIm292, hFm292, hLm292, hRC0m292, hRCRm292, hRKNm292, hRLRm292, hRLTm292, hRNSm292, hRTRm292, hRWDm292, ⟨by decide, by decide⟩, fun _ => by omega, fun _ => by omega, fun _ => by omega⟩
                · exfalso; omega
          · refine zw_b (by omega) ?_
            have r303 : 0 ≤ (m251 a0 21) ∧ (m251 a0 21) ≤ 64 := zi_rd hIm251 hc0 zb_28_21
            have e304 : (m251 a0 21) = (m0 a0 21) := (zfr_ap hfm251 hc0 rfl)
            have r305 : 0 ≤ (m251 a0 48) ∧ (m251 a0 48) ≤ 64 := zi_rd hIm251 hc0 zb_28_48
            have e306 : (m251 a0 48) = (m0 a0 48) := (zfr_ap hfm251 hc0 rfl)
            exact zw_some ⟨hIm251, hFm251, hLm251, hRC0m251, hRCRm251, hRKNm251, hRLRm251, hRLTm251, hRNSm251, hRTRm251, hRWDm251, ⟨by decide, by decide⟩, fun h => absurd h (by decide), fun h => absurd h (by decide), fun h => absurd h (by decide)⟩
      · refine zw_bd (zw_mono (zk_99 n hIm0 hc0 hRCRm0 hRLRm0 hRNSm0 hRTRm0 hRWDm0) (fun v308 m307 hqm307 => ?_))
        obtain ⟨hIm307, hfm307, hvm307⟩ := hqm307
        have hFm307 := zfr_tr hFm0 hfm307 rfl
        have hLm307 := zlw_tr hLm0 (zlw_fr hfm307 rfl)
        obtain ⟨hRCRm307, hRLRm307, hRNSm307, hRTRm307, hRWDm307, hvm307⟩ := hvm307
        have hRC0m307 := zR_C0_fr (zdis_fr hfm307 rfl) hRC0m0
        have hRKNm307 := zR_KN_fr (zdis_fr hfm307 rfl) hRKNm0
        have hRLTm307 := zR_LT_fr (zdis_fr hfm307 rfl) hRLTm0
        have s309 := hRNSm307 a0 hc0
        have r310 : 0 ≤ (m307 a0 7) ∧ (m307 a0 7) ≤ 700 := zi_rd hIm307 hc0 zb_28_7
        have r311 : 0 ≤ (m307 a0 8) ∧ (m307 a0 8) ≤ 6 := zi_rd hIm307 hc0 zb_28_8
        have r312 : (-2147483648) ≤ (m307 a0 4) ∧ (m307 a0 4) ≤ 2147483647 := zi_rd hIm307 hc0 zb_28_4
        have y313 := (hvm307.1)
        have y314 := (hvm307.2.1)
        have y315 := zhid_mk (hvm307.2.2.1)
        have y316 := zhid_mk (hvm307.2.2.2)
        clear hvm307
        refine zw_ite (fun h317 => ?_) (fun h317 => ?_)
        · have s318 := (zhid_of y315) (by omega)
          have s319 := (zhid_of y316) (by omega)
          refine zw_bd (zw_eq (zu_call_at (zt_T n) (zm_93 n) (zdp_93 n) _ _ _ _ _ rfl (zr_93_0 n _ _ a0 59 m307)) ?_)
          refine zw_ite (fun h320 => ?_) (fun h320 => ?_)
          · refine zw_b (by omega) ?_
            refine zw_some ?_
            refine zw_ite (fun h321 => ?_) (fun h321 => ?_)
            · exfalso; omega
            · refine zw_bd (zw_eq (zu_call_at (zt_T n) (zm_85 n) (zdp_85 n) _ _ _ _ _ rfl (zr_85_0 n _ _ a0 1 m307)) ?_)
              generalize hmm322 : zu_up m307 a0 4 1 = m322
              have hIm322 := zi_up hmm322 hIm307 hc0 zb_28_4 (by omega) (by omega)
              have hFm322 := zfr_up hmm322 hFm307 hc0 rfl
              have hLm322 := zlw_tr hLm307 (zlw_fr (zfr_up hmm322 (zfr_rf [(28, 1), (28, 2), (28, 3), (28, 4), (28, 5), (28, 6), (28, 7), (28, 8), (28, 9), (28, 10), (28, 11), (28, 12), (28, 23), (28, 24), (28, 43), (105, 0)] _) hc0 rfl) rfl)
              have hRC0m322 := zR_C0_fr (zdis_fr (zfr_up hmm322 (zfr_rf [(28, 5)] _) hc0 rfl) rfl) hRC0m307
              have hRCRm322 := zR_CR_fr (zdis_fr (zfr_up hmm322 (zfr_rf [(28, 5)] _) hc0 rfl) rfl) hRCRm307
              have hRKNm322 := zR_KN_fr (zdis_fr (zfr_up hmm322 (zfr_rf [(28, 5)] _) hc0 rfl) rfl) hRKNm307
              have hRLTm322 := zR_LT_fr (zdis_fr (zfr_up hmm322 (zfr_rf [(28, 5)] _) hc0 rfl) rfl) hRLTm307
              have hRNSm322 := zR_NS_fr (zdis_fr (zfr_up hmm322 (zfr_rf [(28, 5)] _) hc0 rfl) rfl) hRNSm307
              have hRTRm322 := zR_TR_fr (zdis_fr (zfr_up hmm322 (zfr_rf [(28, 5)] _) hc0 rfl) rfl) hRTRm307
              have hRWDm322 := zR_WD_fr (zdis_fr (zfr_up hmm322 (zfr_rf [(28, 5)] _) hc0 rfl) rfl) hRWDm307
              have hRLRm322 := zLR_wr (zone_190 hc0) hmm322 (by decide)
              have r323 : 0 ≤ (m322 a0 10) ∧ (m322 a0 10) ≤ 700 := zi_rd hIm322 hc0 zb_28_10
              generalize hmm324 : zu_up m322 a0 5 (m322 a0 10) = m324
              have hIm324 := zi_up hmm324 hIm322 hc0 zb_28_5 (by omega) (by omega)
              have hFm324 := zfr_up hmm324 hFm322 hc0 rfl
              have hLm324 := zlw_tr hLm322 (zlw_fr (zfr_up hmm324 (zfr_rf [(28, 1), (28, 2), (28, 3), (28, 4), (28, 5), (28, 6), (28, 7), (28, 8), (28, 9), (28, 10), (28, 11), (28, 12), (28, 23), (28, 24), (28, 43), (105, 0)] _) hc0 rfl) rfl)
              have hRC0m324 := zR_C0_fr (zdis_fr (zfr_up hmm324 (zfr_rf [(28, 6)] _) hc0 rfl) rfl) hRC0m322
              have hRCRm324 := zR_CR_fr (zdis_fr (zfr_up hmm324 (zfr_rf [(28, 6)] _) hc0 rfl) rfl) hRCRm322
              have hRKNm324 := zR_KN_fr (zdis_fr (zfr_up hmm324 (zfr_rf [(28, 6)] _) hc0 rfl) rfl) hRKNm322
              have hRLRm324 := zR_LR_fr (zdis_fr (zfr_up hmm324 (zfr_rf [(28, 6)] _) hc0 rfl) rfl) hRLRm322
              have hRLTm324 := zR_LT_fr (zdis_fr (zfr_up hmm324 (zfr_rf [(28, 6)] _) hc0 rfl) rfl) hRLTm322
              have hRNSm324 := zR_NS_fr (zdis_fr (zfr_up hmm324 (zfr_rf [(28, 6)] _) hc0 rfl) rfl) hRNSm322
              have hRTRm324 := zR_TR_fr (zdis_fr (zfr_up hmm324 (zfr_rf [(28, 6)] _) hc0 rfl) rfl) hRTRm322
              have hRWDm324 := zR_WD_fr (zdis_fr (zfr_up hmm324 (zfr_rf [(28, 6)] _) hc0 rfl) rfl) hRWDm322
              refine zw_b (by omega) ?_
              refine zw_some ?_
              refine zw_b (by omega) ?_
              have r325 : 0 ≤ (m324 a0 7) ∧ (m324 a0 7) ≤ 700 := zi_rd hIm324 hc0 zb_28_7
              have e326 : (m324 a0 7) = (m307 a0 7) := (Eq.trans (zs_ne hmm324 (Or.inr (by decide))) (zs_ne hmm322 (Or.inr (by decide))))
              have r327 : 0 ≤ (m324 a0 21) ∧ (m324 a0 21) ≤ 64 := zi_rd hIm324 hc0 zb_28_21
              have e328 : (m324 a0 21) = (m0 a0 21) := (Eq.trans (zs_ne hmm324 (Or.inr (by decide))) (Eq.trans (zs_ne hmm322 (Or.inr (by decide))) (zfr_ap hfm307 hc0 rfl)))
              have r329 : 0 ≤ (m324 a0 48) ∧ (m324 a0 48) ≤ 64 := zi_rd hIm324 hc0 zb_28_48
              have e330 : (m324 a0 48) = (m0 a0 48) := (Eq.trans (zs_ne hmm324 (Or.inr (by decide))) (Eq.trans (zs_ne hmm322 (Or.inr (by decide))) (zfr_ap hfm307 hc0 rfl)))
              have r331 : (-2147483648) ≤ (m324 a0 4) ∧ (m324 a0 4) ≤ 2147483647 := zi_rd hIm324 hc0 zb_28_4
              have e332 : (m324 a0 4) = 1 := (Eq.trans (zs_ne hmm324 (Or.inr (by decide))) (zs_eq hmm322))
              exact zw_some ⟨hIm324, hFm324, hLm324, hRC0m324, hRCRm324, hRKNm324, hRLRm324, hRLTm324, hRNSm324, hRTRm324, hRWDm324, ⟨by decide, by decide⟩, fun h => absurd h (by decide), fun h => absurd h (by decide), fun h => absurd h (by decide)⟩
          · have r333 : (-2147483648) ≤ (m307 a0 9) ∧ (m307 a0 9) ≤ 2147483647 := zi_rd hIm307 hc0 zb_28_9
            refine zw_ite (fun h334 => ?_) (fun h334 => ?_)
            · refine zw_b (by omega) ?_
              refine zw_some ?_
              refine zw_ite (fun h335 => ?_) (fun h335 => ?_)
              · exfalso; omega
              · refine zw_bd (zw_eq (zu_call_at (zt_T n) (zm_85 n) (zdp_85 n) _ _ _ _ _ rfl (zr_85_0 n _ _ a0 1 m307)) ?_)
                generalize hmm336 : zu_up m307 a0 4 1 = m336
                have hIm336 := zi_up hmm336 hIm307 hc0 zb_28_4 (by omega) (by omega)
                have hFm336 := zfr_up hmm336 hFm307 hc0 rfl
                have hLm336 := zlw_tr hLm307 (zlw_fr (zfr_up hmm336 (zfr_rf [(28, 1), (28, 2), (28, 3), (28, 4), (28, 5), (28, 6), (28, 7), (28, 8), (28, 9), (28, 10), (28, 11), (28, 12), (28, 23), (28, 24), (28, 43), (105, 0)] _) hc0 rfl) rfl)
                have hRC0m336 := zR_C0_fr (zdis_fr (zfr_up hmm336 (zfr_rf [(28, 5)] _) hc0 rfl) rfl) hRC0m307
                have hRCRm336 := zR_CR_fr (zdis_fr (zfr_up hmm336 (zfr_rf [(28, 5)] _) hc0 rfl) rfl) hRCRm307
                have hRKNm336 := zR_KN_fr (zdis_fr (zfr_up hmm336 (zfr_rf [(28, 5)] _) hc0 rfl) rfl) hRKNm307
                have hRLTm336 := zR_LT_fr (zdis_fr (zfr_up hmm336 (zfr_rf [(28, 5)] _) hc0 rfl) rfl) hRLTm307
                have hRNSm336 := zR_NS_fr (zdis_fr (zfr_up hmm336 (zfr_rf [(28, 5)] _) hc0 rfl) rfl) hRNSm307
                have hRTRm336 := zR_TR_fr (zdis_fr (zfr_up hmm336 (zfr_rf [(28, 5)] _) hc0 rfl) rfl) hRTRm307
                have hRWDm336 := zR_WD_fr (zdis_fr (zfr_up hmm336 (zfr_rf [(28, 5)] _) hc0 rfl) rfl) hRWDm307
                have hRLRm336 := zLR_wr (zone_190 hc0) hmm336 (by decide)
                have r337 : 0 ≤ (m336 a0 10) ∧ (m336 a0 10) ≤ 700 := zi_rd hIm336 hc0 zb_28_10
                generalize hmm338 : zu_up m336 a0 5 (m336 a0 10) = m338
                have hIm338 := zi_up hmm338 hIm336 hc0 zb_28_5 (by omega) (by omega)
                have hFm338 := zfr_up hmm338 hFm336 hc0 rfl
                have hLm338 := zlw_tr hLm336 (zlw_fr (zfr_up hmm338 (zfr_rf [(28, 1), (28, 2), (28, 3), (28, 4), (28, 5), (28, 6), (28, 7), (28, 8), (28, 9), (28, 10), (28, 11), (28, 12), (28, 23), (28, 24), (28, 43), (105, 0)] _) hc0 rfl) rfl)
                have hRC0m338 := zR_C0_fr (zdis_fr (zfr_up hmm338 (zfr_rf [(28, 6)] _) hc0 rfl) rfl) hRC0m336
                have hRCRm338 := zR_CR_fr (zdis_fr (zfr_up hmm338 (zfr_rf [(28, 6)] _) hc0 rfl) rfl) hRCRm336
                have hRKNm338 := zR_KN_fr (zdis_fr (zfr_up hmm338 (zfr_rf [(28, 6)] _) hc0 rfl) rfl) hRKNm336
                have hRLRm338 := zR_LR_fr (zdis_fr (zfr_up hmm338 (zfr_rf [(28, 6)] _) hc0 rfl) rfl) hRLRm336
                have hRLTm338 := zR_LT_fr (zdis_fr (zfr_up hmm338 (zfr_rf [(28, 6)] _) hc0 rfl) rfl) hRLTm336
                have hRNSm338 := zR_NS_fr (zdis_fr (zfr_up hmm338 (zfr_rf [(28, 6)] _) hc0 rfl) rfl) hRNSm336
                have hRTRm338 := zR_TR_fr (zdis_fr (zfr_up hmm338 (zfr_rf [(28, 6)] _) hc0 rfl) rfl) hRTRm336
                have hRWDm338 := zR_WD_fr (zdis_fr (zfr_up hmm338 (zfr_rf [(28, 6)] _) hc0 rfl) rfl) hRWDm336
                refine zw_b (by omega) ?_
                refine zw_some ?_
                refine zw_b (by omega) ?_
                have r339 : 0 ≤ (m338 a0 7) ∧ (m338 a0 7) ≤ 700 := zi_rd hIm338 hc0 zb_28_7
                have e340 : (m338 a0 7) = (m307 a0 7) := (Eq.trans (zs_ne hmm338 (Or.inr (by decide))) (zs_ne hmm336 (Or.inr (by decide))))
                have r341 : 0 ≤ (m338 a0 21) ∧ (m338 a0 21) ≤ 64 := zi_rd hIm338 hc0 zb_28_21
                have e342 : (m338 a0 21) = (m0 a0 21) := (Eq.trans (zs_ne hmm338 (Or.inr (by decide))) (Eq.trans (zs_ne hmm336 (Or.inr (by decide))) (zfr_ap hfm307 hc0 rfl)))
                have r343 : 0 ≤ (m338 a0 48) ∧ (m338 a0 48) ≤ 64 := zi_rd hIm338 hc0 zb_28_48
                have e344 : (m338 a0 48) = (m0 a0 48) := (Eq.trans (zs_ne hmm338 (Or.inr (by decide))) (Eq.trans (zs_ne hmm336 (Or.inr (by decide))) (zfr_ap hfm307 hc0 rfl)))
                have r345 : (-2147483648) ≤ (m338 a0 4) ∧ (m338 a0 4) ≤ 2147483647 := zi_rd hIm338 hc0 zb_28_4
                have e346 : (m338 a0 4) = 1 := (Eq.trans (zs_ne hmm338 (Or.inr (by decide))) (zs_eq hmm336))
                exact zw_some ⟨hIm338, hFm338, hLm338, hRC0m338, hRCRm338, hRKNm338, hRLRm338, hRLTm338, hRNSm338, hRTRm338, hRWDm338, ⟨by decide, by decide⟩, fun h => absurd h (by decide), fun h => absurd h (by decide), fun h => absurd h (by decide)⟩
            · refine zw_b (by omega) ?_
              refine zw_some ?_
              refine zw_ite (fun h347 => ?_) (fun h347 => ?_)
              · refine zw_bd (zw_mono (zk_89 n hIm307 hc0 hRNSm307 hRWDm307) (fun v349 m348 hqm348 => ?_))
                obtain ⟨hIm348, hfm348, hvm348⟩ := hqm348
                have hFm348 := zfr_tr hFm307 hfm348 rfl
                have hLm348 := zlw_tr hLm307 (zlw_fr hfm348 rfl)
                obtain ⟨hRNSm348, hRTRm348, hRWDm348, hvm348⟩ := hvm348
                have hRC0m348 := zR_C0_fr (zdis_fr hfm348 rfl) hRC0m307
                have hRCRm348 := zR_CR_fr (zdis_fr hfm348 rfl) hRCRm307
                have hRKNm348 := zR_KN_fr (zdis_fr hfm348 rfl) hRKNm307
                have hRLRm348 := zR_LR_fr (zdis_fr hfm348 rfl) hRLRm307
                have hRLTm348 := zR_LT_fr (zdis_fr hfm348 rfl) hRLTm307
                have s350 := hRNSm348 a0 hc0
                have r351 : 0 ≤ (m348 a0 7) ∧ (m348 a0 7) ≤ 700 := zi_rd hIm348 hc0 zb_28_7
                have r352 : 0 ≤ (m348 a0 8) ∧ (m348 a0 8) ≤ 6 := zi_rd hIm348 hc0 zb_28_8
                refine zw_b (by omega) ?_
                have r353 : 0 ≤ (m348 a0 21) ∧ (m348 a0 21) ≤ 64 := zi_rd hIm348 hc0 zb_28_21
                have e354 : (m348 a0 21) = (m0 a0 21) := (Eq.trans (zfr_ap hfm348 hc0 rfl) (zfr_ap hfm307 hc0 rfl))
                have r355 : 0 ≤ (m348 a0 48) ∧ (m348 a0 48) ≤ 64 := zi_rd hIm348 hc0 zb_28_48
                have e356 : (m348 a0 48) = (m0 a0 48) := (Eq.trans (zfr_ap hfm348 hc0 rfl) (zfr_ap hfm307 hc0 rfl))
                have r357 : (-2147483648) ≤ (m348 a0 4) ∧ (m348 a0 4) ≤ 2147483647 := zi_rd hIm348 hc0 zb_28_4
                have e358 : (m348 a0 4) = (m307 a0 4) := (zfr_ap hfm348 hc0 rfl)
                exact zw_some ⟨hIm348, hFm348, hLm348, hRC0m348, hRCRm348, hRKNm348, hRLRm348, hRLTm348, hRNSm348, hRTRm348, hRWDm348, ⟨by decide, by decide⟩, fun _ => by omega, fun _ => by omega, fun _ => by omega⟩
              · exfalso; omega
        · refine zw_b (by omega) ?_
          have r359 : 0 ≤ (m307 a0 21) ∧ (m307 a0 21) ≤ 64 := zi_rd hIm307 hc0 zb_28_21
          have e360 : (m307 a0 21) = (m0 a0 21) := (zfr_ap hfm307 hc0 rfl)
          have r361 : 0 ≤ (m307 a0 48) ∧ (m307 a0 48) ≤ 64 := zi_rd hIm307 hc0 zb_28_48
          have e362 : (m307 a0 48) = (m0 a0 48) := (zfr_ap hfm307 hc0 rfl)
          exact zw_some ⟨hIm307, hFm307, hLm307, hRC0m307, hRCRm307, hRKNm307, hRLRm307, hRLTm307, hRNSm307, hRTRm307, hRWDm307, ⟨by decide, by decide⟩, fun h => absurd h (by decide), fun h => absurd h (by decide), fun h => absurd h (by decide)⟩
    · refine zw_bd (zw_eq (zu_call_at (zt_T n) (zm_85 n) (zdp_85 n) _ _ _ _ _ rfl (zr_85_0 n _ _ a0 1 m0)) ?_)
      generalize hmm363 : zu_up m0 a0 4 1 = m363
      have hIm363 := zi_up hmm363 hIm0 hc0 zb_28_4 (by omega) (by omega)
      have hFm363 := zfr_up hmm363 hFm0 hc0 rfl
      have hLm363 := zlw_tr hLm0 (zlw_fr (zfr_up hmm363 (zfr_rf [(28, 1), (28, 2), (28, 3), (28, 4), (28, 5), (28, 6), (28, 7), (28, 8), (28, 9), (28, 10), (28, 11), (28, 12), (28, 23), (28, 24), (28, 43), (105, 0)] _) hc0 rfl) rfl)
      have hRC0m363 := zR_C0_fr (zdis_fr (zfr_up hmm363 (zfr_rf [(28, 5)] _) hc0 rfl) rfl) hRC0m0
      have hRCRm363 := zR_CR_fr (zdis_fr (zfr_up hmm363 (zfr_rf [(28, 5)] _) hc0 rfl) rfl) hRCRm0
      have hRKNm363 := zR_KN_fr (zdis_fr (zfr_up hmm363 (zfr_rf [(28, 5)] _) hc0 rfl) rfl) hRKNm0
      have hRLTm363 := zR_LT_fr (zdis_fr (zfr_up hmm363 (zfr_rf [(28, 5)] _) hc0 rfl) rfl) hRLTm0
      have hRNSm363 := zR_NS_fr (zdis_fr (zfr_up hmm363 (zfr_rf [(28, 5)] _) hc0 rfl) rfl) hRNSm0
      have hRTRm363 := zR_TR_fr (zdis_fr (zfr_up hmm363 (zfr_rf [(28, 5)] _) hc0 rfl) rfl) hRTRm0
      have hRWDm363 := zR_WD_fr (zdis_fr (zfr_up hmm363 (zfr_rf [(28, 5)] _) hc0 rfl) rfl) hRWDm0
      have hRLRm363 := zLR_wr (zone_190 hc0) hmm363 (by decide)
      have r364 : 0 ≤ (m363 a0 10) ∧ (m363 a0 10) ≤ 700 := zi_rd hIm363 hc0 zb_28_10
      generalize hmm365 : zu_up m363 a0 5 (m363 a0 10) = m365
      have hIm365 := zi_up hmm365 hIm363 hc0 zb_28_5 (by omega) (by omega)
      have hFm365 := zfr_up hmm365 hFm363 hc0 rfl
      have hLm365 := zlw_tr hLm363 (zlw_fr (zfr_up hmm365 (zfr_rf [(28, 1), (28, 2), (28, 3), (28, 4), (28, 5), (28, 6), (28, 7), (28, 8), (28, 9), (28, 10), (28, 11), (28, 12), (28, 23), (28, 24), (28, 43), (105, 0)] _) hc0 rfl) rfl)
      have hRC0m365 := zR_C0_fr (zdis_fr (zfr_up hmm365 (zfr_rf [(28, 6)] _) hc0 rfl) rfl) hRC0m363
      have hRCRm365 := zR_CR_fr (zdis_fr (zfr_up hmm365 (zfr_rf [(28, 6)] _) hc0 rfl) rfl) hRCRm363
      have hRKNm365 := zR_KN_fr (zdis_fr (zfr_up hmm365 (zfr_rf [(28, 6)] _) hc0 rfl) rfl) hRKNm363
      have hRLRm365 := zR_LR_fr (zdis_fr (zfr_up hmm365 (zfr_rf [(28, 6)] _) hc0 rfl) rfl) hRLRm363
      have hRLTm365 := zR_LT_fr (zdis_fr (zfr_up hmm365 (zfr_rf [(28, 6)] _) hc0 rfl) rfl) hRLTm363
      have hRNSm365 := zR_NS_fr (zdis_fr (zfr_up hmm365 (zfr_rf [(28, 6)] _) hc0 rfl) rfl) hRNSm363
      have hRTRm365 := zR_TR_fr (zdis_fr (zfr_up hmm365 (zfr_rf [(28, 6)] _) hc0 rfl) rfl) hRTRm363
      have hRWDm365 := zR_WD_fr (zdis_fr (zfr_up hmm365 (zfr_rf [(28, 6)] _) hc0 rfl) rfl) hRWDm363
      refine zw_b (by omega) ?_
      refine zw_some ?_
      refine zw_b (by omega) ?_
      have r366 : 0 ≤ (m365 a0 7) ∧ (m365 a0 7) ≤ 700 := zi_rd hIm365 hc0 zb_28_7
      have e367 : (m365 a0 7) = (m0 a0 7) := (Eq.trans (zs_ne hmm365 (Or.inr (by decide))) (zs_ne hmm363 (Or.inr (by decide))))
      have r368 : 0 ≤ (m365 a0 21) ∧ (m365 a0 21) ≤ 64 := zi_rd hIm365 hc0 zb_28_21
      have e369 : (m365 a0 21) = (m0 a0 21) := (Eq.trans (zs_ne hmm365 (Or.inr (by decide))) (zs_ne hmm363 (Or.inr (by decide))))
      have r370 : 0 ≤ (m365 a0 48) ∧ (m365 a0 48) ≤ 64 := zi_rd hIm365 hc0 zb_28_48
      have e371 : (m365 a0 48) = (m0 a0 48) := (Eq.trans (zs_ne hmm365 (Or.inr (by decide))) (zs_ne hmm363 (Or.inr (by decide))))
      have r372 : (-2147483648) ≤ (m365 a0 4) ∧ (m365 a0 4) ≤ 2147483647 := zi_rd hIm365 hc0 zb_28_4
      have e373 : (m365 a0 4) = 1 := (Eq.trans (zs_ne hmm365 (Or.inr (by decide))) (zs_eq hmm363))
      exact zw_some ⟨hIm365, hFm365, hLm365, hRC0m365, hRCRm365, hRKNm365, hRLRm365, hRLTm365, hRNSm365, hRTRm365, hRWDm365, ⟨by decide, by decide⟩, fun h => absurd h (by decide), fun h => absurd h (by decide), fun h => absurd h (by decide)⟩
