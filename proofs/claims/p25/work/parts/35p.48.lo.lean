/-! the lower half of the children's letters stays -/
def zlo (m0 m : zu_m) : Prop := ∀ i, 0 ≤ i → i < 4 → m 200 i = m0 200 i
theorem zlo_tr {a b c : zu_m} (h1 : zlo a b) (h2 : zlo b c) : zlo a c := fun i i0 i1 => (h2 i i0 i1).trans (h1 i i0 i1)
theorem zlo_fr {W : List (Nat × Nat)} {m m' : zu_m} (hf : zfr W m m') (hd : zdis W [(109, 0)] = true) : zlo m m' := fun i _ _ => zdis_fr hf hd 200 i (by rw [zq_200]; rfl)
theorem zlo_up {m0 m m' : zu_m} {p v : Int} (hm : zu_up m 200 p v = m') (h : zlo m0 m) (hp : 4 ≤ p) : zlo m0 m' := fun i i0 i1 => (zs_ne hm (Or.inr (by omega))).trans (h i i0 i1)
theorem zlo_ne {m0 m m' : zu_m} {a p v : Int} {c : Nat} (hm : zu_up m a p v = m') (h : zlo m0 m) (hc : zcls a = c) (hn : 109 ≠ c) : zlo m0 m' := fun i i0 i1 => (zs_ne hm (Or.inl (zc_ne zq_200 hc hn))).trans (h i i0 i1)
set_option maxHeartbeats 4000000 in
theorem zk_102k (n : Nat) {a0 : Int} {m0 : zu_m} (hIm0 : zi_I m0) (hc0 : zcls a0 = 28)   (he0 : 1 ≤ m0 a0 8 ∧ m0 a0 8 ≤ 1) (he1 : 5 ≤ m0 a0 9 ∧ m0 a0 9 ≤ 5)  (hRC0m0 : zR_C0 m0) (hRCRm0 : zR_CR m0) (hRLRm0 : zR_LR m0) (hRNSm0 : zR_NS m0) (hRTRm0 : zR_TR m0) (hRWDm0 : zR_WD m0) : zw (zu_call (zt_T n) 102 [(40, a0)] m0) (fun v m => zi_I m ∧ zfr [(28, 5), (28, 6), (28, 8), (28, 9), (28, 10), (28, 11), (28, 12), (28, 21), (28, 24), (28, 43), (109, 0), (110, 0), (111, 0), (112, 0), (113, 0)] m0 m ∧ zlo m0 m ∧ zR_C0 m ∧ zR_CR m ∧ zR_LR m ∧ zR_NS m ∧ zR_TR m ∧ zR_WD m ∧ (0 ≤ v ∧ v ≤ 1) ∧ ((m0 a0 7) ≤ (m a0 7)) ∧ (v = 1 → ((m a0 8) = 0 ∨ (m0 a0 7) < (m a0 7))) ∧ (v = 1 → (m a0 4) = (m0 a0 4))) := by
  have hFm0 : zfr [(28, 5), (28, 6), (28, 8), (28, 9), (28, 10), (28, 11), (28, 12), (28, 21), (28, 24), (28, 43), (109, 0), (110, 0), (111, 0), (112, 0), (113, 0)] m0 m0 := zfr_rf _ _
  have hLm0 : zlo m0 m0 := fun _ _ _ => rfl
  have r1 : 0 ≤ (m0 a0 7) ∧ (m0 a0 7) ≤ 700 := zi_rd hIm0 hc0 zb_28_7
  have r2 : (-2147483648) ≤ (m0 a0 4) ∧ (m0 a0 4) ≤ 2147483647 := zi_rd hIm0 hc0 zb_28_4
  have s3 := hRNSm0 a0 hc0
  refine zw_eq (zu_call_at (zt_T n) (zm_102 n) (zdp_102 n) _ _ _ _ _ rfl (zr_102_0 n _ _ a0 m0)) ?_
  have r4 : 0 ≤ (m0 a0 20) ∧ (m0 a0 20) ≤ 4 := zi_rd hIm0 hc0 zb_28_20
  refine zw_ite (fun h5 => ?_) (fun h5 => ?_)
  · refine zw_bd (zw_mono (zk_89 n hIm0 hc0 hRNSm0 hRWDm0) (fun v7 m6 hqm6 => ?_))
    obtain ⟨hIm6, hfm6, hvm6⟩ := hqm6
    have hFm6 := zfr_tr hFm0 hfm6 rfl
    have hLm6 := zlo_tr hLm0 (zlo_fr hfm6 rfl)
    obtain ⟨hRNSm6, hRTRm6, hRWDm6, hvm6⟩ := hvm6
    have hRC0m6 := zR_C0_fr (zdis_fr hfm6 rfl) hRC0m0
    have hRCRm6 := zR_CR_fr (zdis_fr hfm6 rfl) hRCRm0
    have hRLRm6 := zR_LR_fr (zdis_fr hfm6 rfl) hRLRm0
    have s8 := hRNSm6 a0 hc0
    have r9 : 0 ≤ (m6 a0 7) ∧ (m6 a0 7) ≤ 700 := zi_rd hIm6 hc0 zb_28_7
    have r10 : 0 ≤ (m6 a0 8) ∧ (m6 a0 8) ≤ 6 := zi_rd hIm6 hc0 zb_28_8
    refine zw_ite (fun h11 => ?_) (fun h11 => ?_)
    · have r12 : 0 ≤ (m6 a0 20) ∧ (m6 a0 20) ≤ 4 := zi_rd hIm6 hc0 zb_28_20
      have e13 : (m6 a0 20) = (m0 a0 20) := (zfr_ap hfm6 hc0 rfl)
      have r14 : (-2147483648) ≤ (m6 a0 9) ∧ (m6 a0 9) ≤ 2147483647 := zi_rd hIm6 hc0 zb_28_9
      refine zw_bd (zw_mono (zk_95 n hIm6 zq_200 ⟨by decide, by decide⟩ ⟨by omega, by omega⟩ ⟨by omega, by omega⟩) (fun v16 m15 hqm15 => ?_))
      obtain ⟨hIm15, hfm15, hvm15⟩ := hqm15
      have hFm15 := zfr_tr hFm6 hfm15 rfl
      have hLm15 := zlo_tr hLm6 (zlo_fr hfm15 rfl)
      have hRC0m15 := zR_C0_fr (zdis_fr hfm15 rfl) hRC0m6
      have hRCRm15 := zR_CR_fr (zdis_fr hfm15 rfl) hRCRm6
      have hRLRm15 := zR_LR_fr (zdis_fr hfm15 rfl) hRLRm6
      have hRNSm15 := zR_NS_fr (zdis_fr hfm15 rfl) hRNSm6
      have hRTRm15 := zR_TR_fr (zdis_fr hfm15 rfl) hRTRm6
      have hRWDm15 := zR_WD_fr (zdis_fr hfm15 rfl) hRWDm6
      have s17 := hRNSm15 a0 hc0
      refine zw_ite (fun h18 => ?_) (fun h18 => ?_)
      · have r19 : 0 ≤ (m15 a0 20) ∧ (m15 a0 20) ≤ 4 := zi_rd hIm15 hc0 zb_28_20
        have e20 : (m15 a0 20) = (m6 a0 20) := (zfr_ap hfm15 hc0 rfl)
        have w21 := zu_w32_id (z := 4 + (m15 a0 20)) (by omega) (by omega)
        have r22 : (-2147483648) ≤ (m15 a0 9) ∧ (m15 a0 9) ≤ 2147483647 := zi_rd hIm15 hc0 zb_28_9
        have e23 : (m15 a0 9) = (m6 a0 9) := (zfr_ap hfm15 hc0 rfl)
        have b24 : 0 ≤ (zu_w32 (4 + (m15 a0 20))) ∧ (zu_w32 (4 + (m15 a0 20))) < 8 := by omega
        refine zw_if b24 ?_
        generalize hmm25 : zu_up m15 200 (zu_w32 (4 + (m15 a0 20))) (m15 a0 9) = m25
        have hIm25 := zi_up hmm25 hIm15 zq_200 (zb_109 _) (by omega) (by omega)
        have hFm25 := zfr_up hmm25 hFm15 zq_200 rfl
        have hLm25 := zlo_up hmm25 hLm15 (by omega)
        have hRC0m25 := zR_C0_fr (zdis_fr (zfr_up hmm25 (zfr_rf [(109, 0)] _) zq_200 rfl) rfl) hRC0m15
        have hRCRm25 := zR_CR_fr (zdis_fr (zfr_up hmm25 (zfr_rf [(109, 0)] _) zq_200 rfl) rfl) hRCRm15
        have hRLRm25 := zR_LR_fr (zdis_fr (zfr_up hmm25 (zfr_rf [(109, 0)] _) zq_200 rfl) rfl) hRLRm15
        have hRNSm25 := zR_NS_fr (zdis_fr (zfr_up hmm25 (zfr_rf [(109, 0)] _) zq_200 rfl) rfl) hRNSm15
        have hRTRm25 := zR_TR_fr (zdis_fr (zfr_up hmm25 (zfr_rf [(109, 0)] _) zq_200 rfl) rfl) hRTRm15
        have hRWDm25 := zR_WD_fr (zdis_fr (zfr_up hmm25 (zfr_rf [(109, 0)] _) zq_200 rfl) rfl) hRWDm15
        have r28 : 0 ≤ (m25 a0 7) ∧ (m25 a0 7) ≤ 700 := zi_rd hIm25 hc0 zb_28_7
        have e29 : (m25 a0 7) = (m6 a0 7) := (Eq.trans (zs_ne hmm25 (Or.inl (zc_ne hc0 zq_200 (by decide)))) (zfr_ap hfm15 hc0 rfl))
        refine zw_bd (zw_mono (zk_89 n hIm25 hc0 hRNSm25 hRWDm25) (fun v27 m26 hqm26 => ?_))
        obtain ⟨hIm26, hfm26, hvm26⟩ := hqm26
        have hFm26 := zfr_tr hFm25 hfm26 rfl
        have hLm26 := zlo_tr hLm25 (zlo_fr hfm26 rfl)
        obtain ⟨hRNSm26, hRTRm26, hRWDm26, hvm26⟩ := hvm26
        have hRC0m26 := zR_C0_fr (zdis_fr hfm26 rfl) hRC0m25
        have hRCRm26 := zR_CR_fr (zdis_fr hfm26 rfl) hRCRm25
        have hRLRm26 := zR_LR_fr (zdis_fr hfm26 rfl) hRLRm25
        have s30 := hRNSm26 a0 hc0
        have r31 : 0 ≤ (m26 a0 7) ∧ (m26 a0 7) ≤ 700 := zi_rd hIm26 hc0 zb_28_7
        have r32 : 0 ≤ (m26 a0 8) ∧ (m26 a0 8) ≤ 6 := zi_rd hIm26 hc0 zb_28_8
        refine zw_bd (zw_eq (zu_call_at (zt_T n) (zm_96 n) (zdp_96 n) _ _ _ _ _ rfl (zr_96_0 n _ _ a0 m26)) ?_)
        refine zw_b (by omega) ?_
        generalize hmm33 : zu_up m26 a0 23 1 = m33
        have hIm33 := zi_up hmm33 hIm26 hc0 zb_28_23 (by omega) (by omega)
        have hFm33 := zfr_up hmm33 hFm26 hc0 rfl
        have hLm33 := zlo_ne hmm33 hLm26 hc0 (by decide)
        have hRC0m33 := zR_C0_fr (zdis_fr (zfr_up hmm33 (zfr_rf [(28, 24)] _) hc0 rfl) rfl) hRC0m26
        have hRLRm33 := zR_LR_fr (zdis_fr (zfr_up hmm33 (zfr_rf [(28, 24)] _) hc0 rfl) rfl) hRLRm26
        have hRNSm33 := zR_NS_fr (zdis_fr (zfr_up hmm33 (zfr_rf [(28, 24)] _) hc0 rfl) rfl) hRNSm26
        have hRTRm33 := zR_TR_fr (zdis_fr (zfr_up hmm33 (zfr_rf [(28, 24)] _) hc0 rfl) rfl) hRTRm26
        have hRWDm33 := zR_WD_fr (zdis_fr (zfr_up hmm33 (zfr_rf [(28, 24)] _) hc0 rfl) rfl) hRWDm26
        have hRCRm33 := zCR_cells (zone_190 hc0) hmm33 rfl hRCRm26
        have r34 : 1 ≤ (m33 a0 17) ∧ (m33 a0 17) ≤ 8 := zi_rd hIm33 hc0 zb_28_17
        have w35 := zu_w32_id (z := (m33 a0 17) - 1) (by omega) (by omega)
        refine zw_bd (zw_eq (zu_call_at (zt_T n) (zm_94 n) (zdp_94 n) _ _ _ _ _ rfl (zr_94_0 n _ _ a0 0 (zu_w32 ((m33 a0 17) - 1)) m33)) ?_)
        have r36 : 0 ≤ (m33 a0 8) ∧ (m33 a0 8) ≤ 6 := zi_rd hIm33 hc0 zb_28_8
        have e37 : (m33 a0 8) = (m26 a0 8) := (zs_ne hmm33 (Or.inr (by decide)))
        refine zw_ite (fun h38 => ?_) (fun h38 => ?_)
        · have s39 := (hRTRm26 a0 hc0).2.2 (by omega)
          have r40 : (-2147483648) ≤ (m33 a0 9) ∧ (m33 a0 9) ≤ 2147483647 := zi_rd hIm33 hc0 zb_28_9
          have e41 : (m33 a0 9) = (m26 a0 9) := (zs_ne hmm33 (Or.inr (by decide)))
          refine zw_bd (zw_eq (zu_call_at (zt_T n) (zm_83 n) (zdp_83 n) _ _ _ _ _ rfl (zr_83_0 n _ _ (m33 a0 9) 0 (zu_w32 ((m33 a0 17) - 1)) m33)) ?_)
          refine zw_ite (fun h42 => ?_) (fun h42 => ?_)
          · exfalso; omega
          · refine zw_ite (fun h43 => ?_) (fun h43 => ?_)
            · refine zw_b (by omega) ?_
              refine zw_some ?_
              refine zw_ite (fun h44 => ?_) (fun h44 => ?_)
              · exfalso; omega
              · refine zw_bd (zw_eq (zu_call_at (zt_T n) (zm_85 n) (zdp_85 n) _ _ _ _ _ rfl (zr_85_0 n _ _ a0 2 m33)) ?_)
                generalize hmm45 : zu_up m33 a0 4 2 = m45
                have hIm45 := zi_up hmm45 hIm33 hc0 zb_28_4 (by omega) (by omega)
                have hFm45 := zfr_up hmm45 hFm33 hc0 rfl
                have hLm45 := zlo_ne hmm45 hLm33 hc0 (by decide)
                have hRC0m45 := zR_C0_fr (zdis_fr (zfr_up hmm45 (zfr_rf [(28, 5)] _) hc0 rfl) rfl) hRC0m33
                have hRCRm45 := zR_CR_fr (zdis_fr (zfr_up hmm45 (zfr_rf [(28, 5)] _) hc0 rfl) rfl) hRCRm33
                have hRNSm45 := zR_NS_fr (zdis_fr (zfr_up hmm45 (zfr_rf [(28, 5)] _) hc0 rfl) rfl) hRNSm33
                have hRTRm45 := zR_TR_fr (zdis_fr (zfr_up hmm45 (zfr_rf [(28, 5)] _) hc0 rfl) rfl) hRTRm33
                have hRWDm45 := zR_WD_fr (zdis_fr (zfr_up hmm45 (zfr_rf [(28, 5)] _) hc0 rfl) rfl) hRWDm33
                have hRLRm45 := zLR_wr (zone_190 hc0) hmm45 (by decide)
                have r46 : 0 ≤ (m45 a0 10) ∧ (m45 a0 10) ≤ 700 := zi_rd hIm45 hc0 zb_28_10
                generalize hmm47 : zu_up m45 a0 5 (m45 a0 10) = m47
                have hIm47 := zi_up hmm47 hIm45 hc0 zb_28_5 (by omega) (by omega)
                have hFm47 := zfr_up hmm47 hFm45 hc0 rfl
                have hLm47 := zlo_ne hmm47 hLm45 hc0 (by decide)
                have hRC0m47 := zR_C0_fr (zdis_fr (zfr_up hmm47 (zfr_rf [(28, 6)] _) hc0 rfl) rfl) hRC0m45
                have hRCRm47 := zR_CR_fr (zdis_fr (zfr_up hmm47 (zfr_rf [(28, 6)] _) hc0 rfl) rfl) hRCRm45
                have hRLRm47 := zR_LR_fr (zdis_fr (zfr_up hmm47 (zfr_rf [(28, 6)] _) hc0 rfl) rfl) hRLRm45
                have hRNSm47 := zR_NS_fr (zdis_fr (zfr_up hmm47 (zfr_rf [(28, 6)] _) hc0 rfl) rfl) hRNSm45
                have hRTRm47 := zR_TR_fr (zdis_fr (zfr_up hmm47 (zfr_rf [(28, 6)] _) hc0 rfl) rfl) hRTRm45
                have hRWDm47 := zR_WD_fr (zdis_fr (zfr_up hmm47 (zfr_rf [(28, 6)] _) hc0 rfl) rfl) hRWDm45
                refine zw_b (by omega) ?_
                refine zw_some ?_
                refine zw_b (by omega) ?_
                refine zw_some ?_
                refine zw_ite (fun h48 => ?_) (fun h48 => ?_)
                · exfalso; omega
                · refine zw_b (by omega) ?_
                  refine zw_some ?_
                  refine zw_ite (fun h49 => ?_) (fun h49 => ?_)
                  · exfalso; omega
                  · refine zw_b (by omega) ?_
                    have r50 : 0 ≤ (m47 a0 7) ∧ (m47 a0 7) ≤ 700 := zi_rd hIm47 hc0 zb_28_7
                    have e51 : (m47 a0 7) = (m26 a0 7) := (Eq.trans (zs_ne hmm47 (Or.inr (by decide))) (Eq.trans (zs_ne hmm45 (Or.inr (by decide))) (zs_ne hmm33 (Or.inr (by decide)))))
                    have r52 : 0 ≤ (m47 a0 8) ∧ (m47 a0 8) ≤ 6 := zi_rd hIm47 hc0 zb_28_8
                    have e53 : (m47 a0 8) = (m33 a0 8) := (Eq.trans (zs_ne hmm47 (Or.inr (by decide))) (zs_ne hmm45 (Or.inr (by decide))))
                    have r54 : (-2147483648) ≤ (m47 a0 4) ∧ (m47 a0 4) ≤ 2147483647 := zi_rd hIm47 hc0 zb_28_4
                    have e55 : (m47 a0 4) = 2 := (Eq.trans (zs_ne hmm47 (Or.inr (by decide))) (zs_eq hmm45))
                    exact zw_some ⟨hIm47, hFm47, hLm47, hRC0m47, hRCRm47, hRLRm47, hRNSm47, hRTRm47, hRWDm47, ⟨by decide, by decide⟩, by omega, fun h => absurd h (by decide), fun h => absurd h (by decide)⟩
            · refine zw_b (by omega) ?_
              refine zw_some ?_
              refine zw_ite (fun h56 => ?_) (fun h56 => ?_)
              · generalize hmm57 : zu_up m33 a0 11 (m33 a0 9) = m57
                have hIm57 := zi_up hmm57 hIm33 hc0 zb_28_11 (by omega) (by omega)
                have hFm57 := zfr_up hmm57 hFm33 hc0 rfl
                have hLm57 := zlo_ne hmm57 hLm33 hc0 (by decide)
                have hRC0m57 := zR_C0_fr (zdis_fr (zfr_up hmm57 (zfr_rf [(28, 12)] _) hc0 rfl) rfl) hRC0m33
                have hRCRm57 := zR_CR_fr (zdis_fr (zfr_up hmm57 (zfr_rf [(28, 12)] _) hc0 rfl) rfl) hRCRm33
                have hRLRm57 := zR_LR_fr (zdis_fr (zfr_up hmm57 (zfr_rf [(28, 12)] _) hc0 rfl) rfl) hRLRm33
                have hRNSm57 := zR_NS_fr (zdis_fr (zfr_up hmm57 (zfr_rf [(28, 12)] _) hc0 rfl) rfl) hRNSm33
                have hRTRm57 := zR_TR_fr (zdis_fr (zfr_up hmm57 (zfr_rf [(28, 12)] _) hc0 rfl) rfl) hRTRm33
                have hRWDm57 := zR_WD_fr (zdis_fr (zfr_up hmm57 (zfr_rf [(28, 12)] _) hc0 rfl) rfl) hRWDm33
                have r60 : 0 ≤ (m57 a0 7) ∧ (m57 a0 7) ≤ 700 := zi_rd hIm57 hc0 zb_28_7
                have e61 : (m57 a0 7) = (m26 a0 7) := (Eq.trans (zs_ne hmm57 (Or.inr (by decide))) (zs_ne hmm33 (Or.inr (by decide))))
                refine zw_bd (zw_mono (zk_89 n hIm57 hc0 hRNSm57 hRWDm57) (fun v59 m58 hqm58 => ?_))
                obtain ⟨hIm58, hfm58, hvm58⟩ := hqm58
                have hFm58 := zfr_tr hFm57 hfm58 rfl
                have hLm58 := zlo_tr hLm57 (zlo_fr hfm58 rfl)
                obtain ⟨hRNSm58, hRTRm58, hRWDm58, hvm58⟩ := hvm58
                have hRC0m58 := zR_C0_fr (zdis_fr hfm58 rfl) hRC0m57
                have hRCRm58 := zR_CR_fr (zdis_fr hfm58 rfl) hRCRm57
                have hRLRm58 := zR_LR_fr (zdis_fr hfm58 rfl) hRLRm57
                have s62 := hRNSm58 a0 hc0
                have r63 : 0 ≤ (m58 a0 7) ∧ (m58 a0 7) ≤ 700 := zi_rd hIm58 hc0 zb_28_7
                have r64 : 0 ≤ (m58 a0 8) ∧ (m58 a0 8) ≤ 6 := zi_rd hIm58 hc0 zb_28_8
                refine zw_b (by omega) ?_
                refine zw_some ?_
                refine zw_ite (fun h65 => ?_) (fun h65 => ?_)
                · have r66 : (-2147483648) ≤ (m58 a0 11) ∧ (m58 a0 11) ≤ 2147483647 := zi_rd hIm58 hc0 zb_28_11
                  have e67 : (m58 a0 11) = (m33 a0 9) := (Eq.trans (zfr_ap hfm58 hc0 rfl) (zs_eq hmm57))
                  have r68 : 0 ≤ (m58 a0 10) ∧ (m58 a0 10) ≤ 700 := zi_rd hIm58 hc0 zb_28_10
                  generalize hmm69 : zu_up m58 a0 42 (m58 a0 10) = m69
                  have hIm69 := zi_up hmm69 hIm58 hc0 zb_28_42 (by omega) (by omega)
                  have hFm69 := zfr_up hmm69 hFm58 hc0 rfl
                  have hLm69 := zlo_ne hmm69 hLm58 hc0 (by decide)
                  have hRC0m69 := zR_C0_fr (zdis_fr (zfr_up hmm69 (zfr_rf [(28, 43)] _) hc0 rfl) rfl) hRC0m58
                  have hRCRm69 := zR_CR_fr (zdis_fr (zfr_up hmm69 (zfr_rf [(28, 43)] _) hc0 rfl) rfl) hRCRm58
                  have hRLRm69 := zR_LR_fr (zdis_fr (zfr_up hmm69 (zfr_rf [(28, 43)] _) hc0 rfl) rfl) hRLRm58
                  have hRNSm69 := zR_NS_fr (zdis_fr (zfr_up hmm69 (zfr_rf [(28, 43)] _) hc0 rfl) rfl) hRNSm58
                  have hRTRm69 := zR_TR_fr (zdis_fr (zfr_up hmm69 (zfr_rf [(28, 43)] _) hc0 rfl) rfl) hRTRm58
                  have hRWDm69 := zR_WD_fr (zdis_fr (zfr_up hmm69 (zfr_rf [(28, 43)] _) hc0 rfl) rfl) hRWDm58
                  have r70 : 1 ≤ (m69 a0 18) ∧ (m69 a0 18) ≤ 6 := zi_rd hIm69 hc0 zb_28_18
                  have w71 := zu_w32_id (z := (m69 a0 18) - 1) (by omega) (by omega)
                  refine zw_bd (zw_eq (zu_call_at (zt_T n) (zm_94 n) (zdp_94 n) _ _ _ _ _ rfl (zr_94_0 n _ _ a0 0 (zu_w32 ((m69 a0 18) - 1)) m69)) ?_)
                  have r72 : 0 ≤ (m69 a0 8) ∧ (m69 a0 8) ≤ 6 := zi_rd hIm69 hc0 zb_28_8
                  have e73 : (m69 a0 8) = (m58 a0 8) := (zs_ne hmm69 (Or.inr (by decide)))
                  refine zw_ite (fun h74 => ?_) (fun h74 => ?_)
                  · have s75 := (hRTRm58 a0 hc0).2.2 (by omega)
                    have r76 : (-2147483648) ≤ (m69 a0 9) ∧ (m69 a0 9) ≤ 2147483647 := zi_rd hIm69 hc0 zb_28_9
                    have e77 : (m69 a0 9) = (m58 a0 9) := (zs_ne hmm69 (Or.inr (by decide)))
                    refine zw_bd (zw_eq (zu_call_at (zt_T n) (zm_83 n) (zdp_83 n) _ _ _ _ _ rfl (zr_83_0 n _ _ (m69 a0 9) 0 (zu_w32 ((m69 a0 18) - 1)) m69)) ?_)
                    refine zw_ite (fun h78 => ?_) (fun h78 => ?_)
                    · exfalso; omega
                    · refine zw_ite (fun h79 => ?_) (fun h79 => ?_)
                      · refine zw_b (by omega) ?_
                        refine zw_some ?_
                        refine zw_ite (fun h80 => ?_) (fun h80 => ?_)
                        · exfalso; omega
                        · refine zw_bd (zw_eq (zu_call_at (zt_T n) (zm_85 n) (zdp_85 n) _ _ _ _ _ rfl (zr_85_0 n _ _ a0 2 m69)) ?_)
                          generalize hmm81 : zu_up m69 a0 4 2 = m81
                          have hIm81 := zi_up hmm81 hIm69 hc0 zb_28_4 (by omega) (by omega)
                          have hFm81 := zfr_up hmm81 hFm69 hc0 rfl
                          have hLm81 := zlo_ne hmm81 hLm69 hc0 (by decide)
                          have hRC0m81 := zR_C0_fr (zdis_fr (zfr_up hmm81 (zfr_rf [(28, 5)] _) hc0 rfl) rfl) hRC0m69
                          have hRCRm81 := zR_CR_fr (zdis_fr (zfr_up hmm81 (zfr_rf [(28, 5)] _) hc0 rfl) rfl) hRCRm69
                          have hRNSm81 := zR_NS_fr (zdis_fr (zfr_up hmm81 (zfr_rf [(28, 5)] _) hc0 rfl) rfl) hRNSm69
                          have hRTRm81 := zR_TR_fr (zdis_fr (zfr_up hmm81 (zfr_rf [(28, 5)] _) hc0 rfl) rfl) hRTRm69
                          have hRWDm81 := zR_WD_fr (zdis_fr (zfr_up hmm81 (zfr_rf [(28, 5)] _) hc0 rfl) rfl) hRWDm69
                          have hRLRm81 := zLR_wr (zone_190 hc0) hmm81 (by decide)
                          have r82 : 0 ≤ (m81 a0 10) ∧ (m81 a0 10) ≤ 700 := zi_rd hIm81 hc0 zb_28_10
                          have e83 : (m81 a0 10) = (m58 a0 10) := (Eq.trans (zs_ne hmm81 (Or.inr (by decide))) (zs_ne hmm69 (Or.inr (by decide))))
                          generalize hmm84 : zu_up m81 a0 5 (m81 a0 10) = m84
                          have hIm84 := zi_up hmm84 hIm81 hc0 zb_28_5 (by omega) (by omega)
                          have hFm84 := zfr_up hmm84 hFm81 hc0 rfl
                          have hLm84 := zlo_ne hmm84 hLm81 hc0 (by decide)
                          have hRC0m84 := zR_C0_fr (zdis_fr (zfr_up hmm84 (zfr_rf [(28, 6)] _) hc0 rfl) rfl) hRC0m81
                          have hRCRm84 := zR_CR_fr (zdis_fr (zfr_up hmm84 (zfr_rf [(28, 6)] _) hc0 rfl) rfl) hRCRm81
                          have hRLRm84 := zR_LR_fr (zdis_fr (zfr_up hmm84 (zfr_rf [(28, 6)] _) hc0 rfl) rfl) hRLRm81
                          have hRNSm84 := zR_NS_fr (zdis_fr (zfr_up hmm84 (zfr_rf [(28, 6)] _) hc0 rfl) rfl) hRNSm81
                          have hRTRm84 := zR_TR_fr (zdis_fr (zfr_up hmm84 (zfr_rf [(28, 6)] _) hc0 rfl) rfl) hRTRm81
                          have hRWDm84 := zR_WD_fr (zdis_fr (zfr_up hmm84 (zfr_rf [(28, 6)] _) hc0 rfl) rfl) hRWDm81
                          refine zw_b (by omega) ?_
                          refine zw_some ?_
                          refine zw_b (by omega) ?_
                          refine zw_some ?_
                          refine zw_ite (fun h85 => ?_) (fun h85 => ?_)
                          · exfalso; omega
                          · refine zw_b (by omega) ?_
                            refine zw_some ?_
                            refine zw_ite (fun h86 => ?_) (fun h86 => ?_)
                            · exfalso; omega
                            · refine zw_b (by omega) ?_
                              have r87 : 0 ≤ (m84 a0 7) ∧ (m84 a0 7) ≤ 700 := zi_rd hIm84 hc0 zb_28_7
                              have e88 : (m84 a0 7) = (m58 a0 7) := (Eq.trans (zs_ne hmm84 (Or.inr (by decide))) (Eq.trans (zs_ne hmm81 (Or.inr (by decide))) (zs_ne hmm69 (Or.inr (by decide)))))
                              have r89 : 0 ≤ (m84 a0 8) ∧ (m84 a0 8) ≤ 6 := zi_rd hIm84 hc0 zb_28_8
                              have e90 : (m84 a0 8) = (m69 a0 8) := (Eq.trans (zs_ne hmm84 (Or.inr (by decide))) (zs_ne hmm81 (Or.inr (by decide))))
                              have r91 : (-2147483648) ≤ (m84 a0 4) ∧ (m84 a0 4) ≤ 2147483647 := zi_rd hIm84 hc0 zb_28_4
                              have e92 : (m84 a0 4) = 2 := (Eq.trans (zs_ne hmm84 (Or.inr (by decide))) (zs_eq hmm81))
                              exact zw_some ⟨hIm84, hFm84, hLm84, hRC0m84, hRCRm84, hRLRm84, hRNSm84, hRTRm84, hRWDm84, ⟨by decide, by decide⟩, by omega, fun h => absurd h (by decide), fun h => absurd h (by decide)⟩
                      · refine zw_b (by omega) ?_
                        refine zw_some ?_
                        refine zw_ite (fun h93 => ?_) (fun h93 => ?_)
                        · generalize hmm94 : zu_up m69 a0 11 (m69 a0 9) = m94
                          have hIm94 := zi_up hmm94 hIm69 hc0 zb_28_11 (by omega) (by omega)
                          have hFm94 := zfr_up hmm94 hFm69 hc0 rfl
                          have hLm94 := zlo_ne hmm94 hLm69 hc0 (by decide)
                          have hRC0m94 := zR_C0_fr (zdis_fr (zfr_up hmm94 (zfr_rf [(28, 12)] _) hc0 rfl) rfl) hRC0m69
                          have hRCRm94 := zR_CR_fr (zdis_fr (zfr_up hmm94 (zfr_rf [(28, 12)] _) hc0 rfl) rfl) hRCRm69
                          have hRLRm94 := zR_LR_fr (zdis_fr (zfr_up hmm94 (zfr_rf [(28, 12)] _) hc0 rfl) rfl) hRLRm69
                          have hRNSm94 := zR_NS_fr (zdis_fr (zfr_up hmm94 (zfr_rf [(28, 12)] _) hc0 rfl) rfl) hRNSm69
                          have hRTRm94 := zR_TR_fr (zdis_fr (zfr_up hmm94 (zfr_rf [(28, 12)] _) hc0 rfl) rfl) hRTRm69
                          have hRWDm94 := zR_WD_fr (zdis_fr (zfr_up hmm94 (zfr_rf [(28, 12)] _) hc0 rfl) rfl) hRWDm69
                          have r97 : 0 ≤ (m94 a0 7) ∧ (m94 a0 7) ≤ 700 := zi_rd hIm94 hc0 zb_28_7
                          have e98 : (m94 a0 7) = (m58 a0 7) := (Eq.trans (zs_ne hmm94 (Or.inr (by decide))) (zs_ne hmm69 (Or.inr (by decide))))
                          refine zw_bd (zw_mono (zk_89 n hIm94 hc0 hRNSm94 hRWDm94) (fun v96 m95 hqm95 => ?_))
                          obtain ⟨hIm95, hfm95, hvm95⟩ := hqm95
                          have hFm95 := zfr_tr hFm94 hfm95 rfl
                          have hLm95 := zlo_tr hLm94 (zlo_fr hfm95 rfl)
                          obtain ⟨hRNSm95, hRTRm95, hRWDm95, hvm95⟩ := hvm95
                          have hRC0m95 := zR_C0_fr (zdis_fr hfm95 rfl) hRC0m94
                          have hRCRm95 := zR_CR_fr (zdis_fr hfm95 rfl) hRCRm94
                          have hRLRm95 := zR_LR_fr (zdis_fr hfm95 rfl) hRLRm94
                          have s99 := hRNSm95 a0 hc0
                          have r100 : 0 ≤ (m95 a0 7) ∧ (m95 a0 7) ≤ 700 := zi_rd hIm95 hc0 zb_28_7
                          have r101 : 0 ≤ (m95 a0 8) ∧ (m95 a0 8) ≤ 6 := zi_rd hIm95 hc0 zb_28_8
                          refine zw_b (by omega) ?_
                          refine zw_some ?_
                          refine zw_ite (fun h102 => ?_) (fun h102 => ?_)
                          · have r103 : 1 ≤ (m95 a0 17) ∧ (m95 a0 17) ≤ 8 := zi_rd hIm95 hc0 zb_28_17
                            have e104 : (m95 a0 17) = (m33 a0 17) := (Eq.trans (zfr_ap hfm95 hc0 rfl) (Eq.trans (zs_ne hmm94 (Or.inr (by decide))) (Eq.trans (zs_ne hmm69 (Or.inr (by decide))) (Eq.trans (zfr_ap hfm58 hc0 rfl) (zs_ne hmm57 (Or.inr (by decide)))))))
                            have r105 : (-2147483648) ≤ (m95 a0 11) ∧ (m95 a0 11) ≤ 2147483647 := zi_rd hIm95 hc0 zb_28_11
                            have e106 : (m95 a0 11) = (m69 a0 9) := (Eq.trans (zfr_ap hfm95 hc0 rfl) (zs_eq hmm94))
                            have p107 := zmul_bd (x := (m95 a0 17)) (y := (m95 a0 11)) (a := 1) (b := 0) (A := 8) (B := 5) (by omega) (by omega) (by omega) (by omega) (by omega) (by omega)
                            have w108 := zu_w32_id (z := (m95 a0 17) * (m95 a0 11)) (by omega) (by omega)
                            have w109 := zu_w32_id (z := (zu_w32 ((m95 a0 17) * (m95 a0 11))) + (m58 a0 11)) (by omega) (by omega)
                            have r110 : 1 ≤ (m95 a0 18) ∧ (m95 a0 18) ≤ 6 := zi_rd hIm95 hc0 zb_28_18
                            have e111 : (m95 a0 18) = (m69 a0 18) := (Eq.trans (zfr_ap hfm95 hc0 rfl) (zs_ne hmm94 (Or.inr (by decide))))
                            have hgl : (zu_w32 ((zu_w32 ((m95 a0 17) * (m95 a0 11))) + (m58 a0 11))) < (m95 a0 17) * (m95 a0 18) := zcell_lt2 (n := (m95 a0 11)) (x := (m58 a0 11)) rfl (by omega) (by omega) (by omega) (by omega) (by omega)
                            generalize hmm112 : zu_up m95 a0 11 (zu_w32 ((zu_w32 ((m95 a0 17) * (m95 a0 11))) + (m58 a0 11))) = m112
                            have hIm112 := zi_up hmm112 hIm95 hc0 zb_28_11 (by omega) (by omega)
                            have hFm112 := zfr_up hmm112 hFm95 hc0 rfl
                            have hLm112 := zlo_ne hmm112 hLm95 hc0 (by decide)
                            have hRC0m112 := zR_C0_fr (zdis_fr (zfr_up hmm112 (zfr_rf [(28, 12)] _) hc0 rfl) rfl) hRC0m95
                            have hRCRm112 := zR_CR_fr (zdis_fr (zfr_up hmm112 (zfr_rf [(28, 12)] _) hc0 rfl) rfl) hRCRm95
                            have hRLRm112 := zR_LR_fr (zdis_fr (zfr_up hmm112 (zfr_rf [(28, 12)] _) hc0 rfl) rfl) hRLRm95
                            have hRNSm112 := zR_NS_fr (zdis_fr (zfr_up hmm112 (zfr_rf [(28, 12)] _) hc0 rfl) rfl) hRNSm95
                            have hRTRm112 := zR_TR_fr (zdis_fr (zfr_up hmm112 (zfr_rf [(28, 12)] _) hc0 rfl) rfl) hRTRm95
                            have hRWDm112 := zR_WD_fr (zdis_fr (zfr_up hmm112 (zfr_rf [(28, 12)] _) hc0 rfl) rfl) hRWDm95
                            refine zw_b (by omega) ?_
                            refine zw_some ?_
                            refine zw_ite (fun h113 => ?_) (fun h113 => ?_)
                            · have r114 : (-2147483648) ≤ (m112 a0 11) ∧ (m112 a0 11) ≤ 2147483647 := zi_rd hIm112 hc0 zb_28_11
                              have e115 : (m112 a0 11) = (zu_w32 ((zu_w32 ((m95 a0 17) * (m95 a0 11))) + (m58 a0 11))) := (zs_eq hmm112)
                              have b116 : 0 ≤ (zu_w32 (4 + (m15 a0 20))) ∧ (zu_w32 (4 + (m15 a0 20))) < 8 := by omega
                              refine zw_if b116 ?_
                              generalize hmm117 : zu_up m112 201 (zu_w32 (4 + (m15 a0 20))) (m112 a0 11) = m117
                              have hIm117 := zi_up hmm117 hIm112 zq_201 (zb_110 _) (by omega) (by omega)
                              have hFm117 := zfr_up hmm117 hFm112 zq_201 rfl
                              have hLm117 := zlo_ne hmm117 hLm112 zq_201 (by decide)
                              have hRLRm117 := zR_LR_fr (zdis_fr (zfr_up hmm117 (zfr_rf [(110, 0)] _) zq_201 rfl) rfl) hRLRm112
                              have hRNSm117 := zR_NS_fr (zdis_fr (zfr_up hmm117 (zfr_rf [(110, 0)] _) zq_201 rfl) rfl) hRNSm112
                              have hRTRm117 := zR_TR_fr (zdis_fr (zfr_up hmm117 (zfr_rf [(110, 0)] _) zq_201 rfl) rfl) hRTRm112
                              have hRWDm117 := zR_WD_fr (zdis_fr (zfr_up hmm117 (zfr_rf [(110, 0)] _) zq_201 rfl) rfl) hRWDm112
                              have r118 : 0 ≤ (m112 a0 20) ∧ (m112 a0 20) ≤ 4 := zi_rd hIm112 hc0 zb_28_20
                              have e119 : (m112 a0 20) = (m15 a0 20) := (Eq.trans (zs_ne hmm112 (Or.inr (by decide))) (Eq.trans (zfr_ap hfm95 hc0 rfl) (Eq.trans (zs_ne hmm94 (Or.inr (by decide))) (Eq.trans (zs_ne hmm69 (Or.inr (by decide))) (Eq.trans (zfr_ap hfm58 hc0 rfl) (Eq.trans (zs_ne hmm57 (Or.inr (by decide))) (Eq.trans (zs_ne hmm33 (Or.inr (by decide))) (Eq.trans (zfr_ap hfm26 hc0 rfl) (zs_ne hmm25 (Or.inl (zc_ne hc0 zq_200 (by decide))))))))))))
                              have hRC0m117 := zC0_hi hmm117 (by omega) hRC0m112
                              have hRCRm117 := zCR_hi (zone_190 hc0) hmm117 (by omega) hRCRm112
                              refine zw_bd (zw_eq (zu_call_at (zt_T n) (zm_94 n) (zdp_94 n) _ _ _ _ _ rfl (zr_94_0 n _ _ a0 1 15 m117)) ?_)
                              have r120 : 0 ≤ (m117 a0 8) ∧ (m117 a0 8) ≤ 6 := zi_rd hIm117 hc0 zb_28_8
                              have e121 : (m117 a0 8) = (m95 a0 8) := (Eq.trans (zs_ne hmm117 (Or.inl (zc_ne hc0 zq_201 (by decide)))) (zs_ne hmm112 (Or.inr (by decide))))
                              refine zw_ite (fun h122 => ?_) (fun h122 => ?_)
                              · have s123 := (hRTRm95 a0 hc0).2.2 (by omega)
                                have r124 : (-2147483648) ≤ (m117 a0 9) ∧ (m117 a0 9) ≤ 2147483647 := zi_rd hIm117 hc0 zb_28_9
                                have e125 : (m117 a0 9) = (m95 a0 9) := (Eq.trans (zs_ne hmm117 (Or.inl (zc_ne hc0 zq_201 (by decide)))) (zs_ne hmm112 (Or.inr (by decide))))
                                refine zw_bd (zw_eq (zu_call_at (zt_T n) (zm_83 n) (zdp_83 n) _ _ _ _ _ rfl (zr_83_0 n _ _ (m117 a0 9) 1 15 m117)) ?_)
                                refine zw_ite (fun h126 => ?_) (fun h126 => ?_)
                                · refine zw_b (by omega) ?_
                                  refine zw_some ?_
                                  refine zw_ite (fun h127 => ?_) (fun h127 => ?_)
                                  · exfalso; omega
                                  · refine zw_bd (zw_eq (zu_call_at (zt_T n) (zm_85 n) (zdp_85 n) _ _ _ _ _ rfl (zr_85_0 n _ _ a0 2 m117)) ?_)
                                    generalize hmm128 : zu_up m117 a0 4 2 = m128
                                    have hIm128 := zi_up hmm128 hIm117 hc0 zb_28_4 (by omega) (by omega)
                                    have hFm128 := zfr_up hmm128 hFm117 hc0 rfl
                                    have hLm128 := zlo_ne hmm128 hLm117 hc0 (by decide)
                                    have hRC0m128 := zR_C0_fr (zdis_fr (zfr_up hmm128 (zfr_rf [(28, 5)] _) hc0 rfl) rfl) hRC0m117
                                    have hRCRm128 := zR_CR_fr (zdis_fr (zfr_up hmm128 (zfr_rf [(28, 5)] _) hc0 rfl) rfl) hRCRm117
                                    have hRNSm128 := zR_NS_fr (zdis_fr (zfr_up hmm128 (zfr_rf [(28, 5)] _) hc0 rfl) rfl) hRNSm117
                                    have hRTRm128 := zR_TR_fr (zdis_fr (zfr_up hmm128 (zfr_rf [(28, 5)] _) hc0 rfl) rfl) hRTRm117
                                    have hRWDm128 := zR_WD_fr (zdis_fr (zfr_up hmm128 (zfr_rf [(28, 5)] _) hc0 rfl) rfl) hRWDm117
                                    have hRLRm128 := zLR_wr (zone_190 hc0) hmm128 (by decide)
                                    have r129 : 0 ≤ (m128 a0 10) ∧ (m128 a0 10) ≤ 700 := zi_rd hIm128 hc0 zb_28_10
                                    generalize hmm130 : zu_up m128 a0 5 (m128 a0 10) = m130
                                    have hIm130 := zi_up hmm130 hIm128 hc0 zb_28_5 (by omega) (by omega)
                                    have hFm130 := zfr_up hmm130 hFm128 hc0 rfl
                                    have hLm130 := zlo_ne hmm130 hLm128 hc0 (by decide)
                                    have hRC0m130 := zR_C0_fr (zdis_fr (zfr_up hmm130 (zfr_rf [(28, 6)] _) hc0 rfl) rfl) hRC0m128
                                    have hRCRm130 := zR_CR_fr (zdis_fr (zfr_up hmm130 (zfr_rf [(28, 6)] _) hc0 rfl) rfl) hRCRm128
                                    have hRLRm130 := zR_LR_fr (zdis_fr (zfr_up hmm130 (zfr_rf [(28, 6)] _) hc0 rfl) rfl) hRLRm128
                                    have hRNSm130 := zR_NS_fr (zdis_fr (zfr_up hmm130 (zfr_rf [(28, 6)] _) hc0 rfl) rfl) hRNSm128
                                    have hRTRm130 := zR_TR_fr (zdis_fr (zfr_up hmm130 (zfr_rf [(28, 6)] _) hc0 rfl) rfl) hRTRm128
                                    have hRWDm130 := zR_WD_fr (zdis_fr (zfr_up hmm130 (zfr_rf [(28, 6)] _) hc0 rfl) rfl) hRWDm128
                                    refine zw_b (by omega) ?_
                                    refine zw_some ?_
                                    refine zw_b (by omega) ?_
                                    refine zw_some ?_
                                    refine zw_ite (fun h131 => ?_) (fun h131 => ?_)
                                    · exfalso; omega
                                    · refine zw_b (by omega) ?_
                                      have r132 : 0 ≤ (m130 a0 7) ∧ (m130 a0 7) ≤ 700 := zi_rd hIm130 hc0 zb_28_7
                                      have e133 : (m130 a0 7) = (m95 a0 7) := (Eq.trans (zs_ne hmm130 (Or.inr (by decide))) (Eq.trans (zs_ne hmm128 (Or.inr (by decide))) (Eq.trans (zs_ne hmm117 (Or.inl (zc_ne hc0 zq_201 (by decide)))) (zs_ne hmm112 (Or.inr (by decide))))))
                                      have r134 : 0 ≤ (m130 a0 8) ∧ (m130 a0 8) ≤ 6 := zi_rd hIm130 hc0 zb_28_8
                                      have e135 : (m130 a0 8) = (m117 a0 8) := (Eq.trans (zs_ne hmm130 (Or.inr (by decide))) (zs_ne hmm128 (Or.inr (by decide))))
                                      have r136 : (-2147483648) ≤ (m130 a0 4) ∧ (m130 a0 4) ≤ 2147483647 := zi_rd hIm130 hc0 zb_28_4
                                      have e137 : (m130 a0 4) = 2 := (Eq.trans (zs_ne hmm130 (Or.inr (by decide))) (zs_eq hmm128))
                                      exact zw_some ⟨hIm130, hFm130, hLm130, hRC0m130, hRCRm130, hRLRm130, hRNSm130, hRTRm130, hRWDm130, ⟨by decide, by decide⟩, by omega, fun h => absurd h (by decide), fun h => absurd h (by decide)⟩
                                · refine zw_ite (fun h138 => ?_) (fun h138 => ?_)
                                  · refine zw_b (by omega) ?_
                                    refine zw_some ?_
                                    refine zw_ite (fun h139 => ?_) (fun h139 => ?_)
                                    · exfalso; omega
                                    · refine zw_bd (zw_eq (zu_call_at (zt_T n) (zm_85 n) (zdp_85 n) _ _ _ _ _ rfl (zr_85_0 n _ _ a0 2 m117)) ?_)
                                      generalize hmm140 : zu_up m117 a0 4 2 = m140
                                      have hIm140 := zi_up hmm140 hIm117 hc0 zb_28_4 (by omega) (by omega)
                                      have hFm140 := zfr_up hmm140 hFm117 hc0 rfl
                                      have hLm140 := zlo_ne hmm140 hLm117 hc0 (by decide)
                                      have hRC0m140 := zR_C0_fr (zdis_fr (zfr_up hmm140 (zfr_rf [(28, 5)] _) hc0 rfl) rfl) hRC0m117
                                      have hRCRm140 := zR_CR_fr (zdis_fr (zfr_up hmm140 (zfr_rf [(28, 5)] _) hc0 rfl) rfl) hRCRm117
                                      have hRNSm140 := zR_NS_fr (zdis_fr (zfr_up hmm140 (zfr_rf [(28, 5)] _) hc0 rfl) rfl) hRNSm117
                                      have hRTRm140 := zR_TR_fr (zdis_fr (zfr_up hmm140 (zfr_rf [(28, 5)] _) hc0 rfl) rfl) hRTRm117
                                      have hRWDm140 := zR_WD_fr (zdis_fr (zfr_up hmm140 (zfr_rf [(28, 5)] _) hc0 rfl) rfl) hRWDm117
                                      have hRLRm140 := zLR_wr (zone_190 hc0) hmm140 (by decide)
                                      have r141 : 0 ≤ (m140 a0 10) ∧ (m140 a0 10) ≤ 700 := zi_rd hIm140 hc0 zb_28_10
                                      generalize hmm142 : zu_up m140 a0 5 (m140 a0 10) = m142
                                      have hIm142 := zi_up hmm142 hIm140 hc0 zb_28_5 (by omega) (by omega)
                                      have hFm142 := zfr_up hmm142 hFm140 hc0 rfl
                                      have hLm142 := zlo_ne hmm142 hLm140 hc0 (by decide)
                                      have hRC0m142 := zR_C0_fr (zdis_fr (zfr_up hmm142 (zfr_rf [(28, 6)] _) hc0 rfl) rfl) hRC0m140
                                      have hRCRm142 := zR_CR_fr (zdis_fr (zfr_up hmm142 (zfr_rf [(28, 6)] _) hc0 rfl) rfl) hRCRm140
                                      have hRLRm142 := zR_LR_fr (zdis_fr (zfr_up hmm142 (zfr_rf [(28, 6)] _) hc0 rfl) rfl) hRLRm140
                                      have hRNSm142 := zR_NS_fr (zdis_fr (zfr_up hmm142 (zfr_rf [(28, 6)] _) hc0 rfl) rfl) hRNSm140
                                      have hRTRm142 := zR_TR_fr (zdis_fr (zfr_up hmm142 (zfr_rf [(28, 6)] _) hc0 rfl) rfl) hRTRm140
                                      have hRWDm142 := zR_WD_fr (zdis_fr (zfr_up hmm142 (zfr_rf [(28, 6)] _) hc0 rfl) rfl) hRWDm140
                                      refine zw_b (by omega) ?_
                                      refine zw_some ?_
                                      refine zw_b (by omega) ?_
                                      refine zw_some ?_
                                      refine zw_ite (fun h143 => ?_) (fun h143 => ?_)
                                      · exfalso; omega
                                      · refine zw_b (by omega) ?_
                                        have r144 : 0 ≤ (m142 a0 7) ∧ (m142 a0 7) ≤ 700 := zi_rd hIm142 hc0 zb_28_7
                                        have e145 : (m142 a0 7) = (m95 a0 7) := (Eq.trans (zs_ne hmm142 (Or.inr (by decide))) (Eq.trans (zs_ne hmm140 (Or.inr (by decide))) (Eq.trans (zs_ne hmm117 (Or.inl (zc_ne hc0 zq_201 (by decide)))) (zs_ne hmm112 (Or.inr (by decide))))))
                                        have r146 : 0 ≤ (m142 a0 8) ∧ (m142 a0 8) ≤ 6 := zi_rd hIm142 hc0 zb_28_8
                                        have e147 : (m142 a0 8) = (m117 a0 8) := (Eq.trans (zs_ne hmm142 (Or.inr (by decide))) (zs_ne hmm140 (Or.inr (by decide))))
                                        have r148 : (-2147483648) ≤ (m142 a0 4) ∧ (m142 a0 4) ≤ 2147483647 := zi_rd hIm142 hc0 zb_28_4
                                        have e149 : (m142 a0 4) = 2 := (Eq.trans (zs_ne hmm142 (Or.inr (by decide))) (zs_eq hmm140))
                                        exact zw_some ⟨hIm142, hFm142, hLm142, hRC0m142, hRCRm142, hRLRm142, hRNSm142, hRTRm142, hRWDm142, ⟨by decide, by decide⟩, by omega, fun h => absurd h (by decide), fun h => absurd h (by decide)⟩
                                  · refine zw_b (by omega) ?_
                                    refine zw_some ?_
                                    refine zw_ite (fun h150 => ?_) (fun h150 => ?_)
                                    · generalize hmm151 : zu_up m117 a0 11 (m117 a0 9) = m151
                                      have hIm151 := zi_up hmm151 hIm117 hc0 zb_28_11 (by omega) (by omega)
                                      have hFm151 := zfr_up hmm151 hFm117 hc0 rfl
                                      have hLm151 := zlo_ne hmm151 hLm117 hc0 (by decide)
                                      have hRC0m151 := zR_C0_fr (zdis_fr (zfr_up hmm151 (zfr_rf [(28, 12)] _) hc0 rfl) rfl) hRC0m117
                                      have hRCRm151 := zR_CR_fr (zdis_fr (zfr_up hmm151 (zfr_rf [(28, 12)] _) hc0 rfl) rfl) hRCRm117
                                      have hRLRm151 := zR_LR_fr (zdis_fr (zfr_up hmm151 (zfr_rf [(28, 12)] _) hc0 rfl) rfl) hRLRm117
                                      have hRNSm151 := zR_NS_fr (zdis_fr (zfr_up hmm151 (zfr_rf [(28, 12)] _) hc0 rfl) rfl) hRNSm117
                                      have hRTRm151 := zR_TR_fr (zdis_fr (zfr_up hmm151 (zfr_rf [(28, 12)] _) hc0 rfl) rfl) hRTRm117
                                      have hRWDm151 := zR_WD_fr (zdis_fr (zfr_up hmm151 (zfr_rf [(28, 12)] _) hc0 rfl) rfl) hRWDm117
                                      have r154 : 0 ≤ (m151 a0 7) ∧ (m151 a0 7) ≤ 700 := zi_rd hIm151 hc0 zb_28_7
                                      have e155 : (m151 a0 7) = (m95 a0 7) := (Eq.trans (zs_ne hmm151 (Or.inr (by decide))) (Eq.trans (zs_ne hmm117 (Or.inl (zc_ne hc0 zq_201 (by decide)))) (zs_ne hmm112 (Or.inr (by decide)))))
                                      refine zw_bd (zw_mono (zk_89 n hIm151 hc0 hRNSm151 hRWDm151) (fun v153 m152 hqm152 => ?_))
                                      obtain ⟨hIm152, hfm152, hvm152⟩ := hqm152
                                      have hFm152 := zfr_tr hFm151 hfm152 rfl
                                      have hLm152 := zlo_tr hLm151 (zlo_fr hfm152 rfl)
                                      obtain ⟨hRNSm152, hRTRm152, hRWDm152, hvm152⟩ := hvm152
                                      have hRC0m152 := zR_C0_fr (zdis_fr hfm152 rfl) hRC0m151
                                      have hRCRm152 := zR_CR_fr (zdis_fr hfm152 rfl) hRCRm151
                                      have hRLRm152 := zR_LR_fr (zdis_fr hfm152 rfl) hRLRm151
                                      have s156 := hRNSm152 a0 hc0
                                      have r157 : 0 ≤ (m152 a0 7) ∧ (m152 a0 7) ≤ 700 := zi_rd hIm152 hc0 zb_28_7
                                      have r158 : 0 ≤ (m152 a0 8) ∧ (m152 a0 8) ≤ 6 := zi_rd hIm152 hc0 zb_28_8
                                      refine zw_b (by omega) ?_
                                      refine zw_some ?_
                                      refine zw_ite (fun h159 => ?_) (fun h159 => ?_)
                                      · have r160 : (-2147483648) ≤ (m152 a0 11) ∧ (m152 a0 11) ≤ 2147483647 := zi_rd hIm152 hc0 zb_28_11
                                        have e161 : (m152 a0 11) = (m117 a0 9) := (Eq.trans (zfr_ap hfm152 hc0 rfl) (zs_eq hmm151))
                                        have b162 : 0 ≤ (zu_w32 (4 + (m15 a0 20))) ∧ (zu_w32 (4 + (m15 a0 20))) < 8 := by omega
                                        refine zw_if b162 ?_
                                        generalize hmm163 : zu_up m152 202 (zu_w32 (4 + (m15 a0 20))) (m152 a0 11) = m163
                                        have hIm163 := zi_up hmm163 hIm152 zq_202 (zb_111 _) (by omega) (by omega)
                                        have hFm163 := zfr_up hmm163 hFm152 zq_202 rfl
                                        have hLm163 := zlo_ne hmm163 hLm152 zq_202 (by decide)
                                        have hRC0m163 := zR_C0_fr (zdis_fr (zfr_up hmm163 (zfr_rf [(111, 0)] _) zq_202 rfl) rfl) hRC0m152
                                        have hRCRm163 := zR_CR_fr (zdis_fr (zfr_up hmm163 (zfr_rf [(111, 0)] _) zq_202 rfl) rfl) hRCRm152
                                        have hRLRm163 := zR_LR_fr (zdis_fr (zfr_up hmm163 (zfr_rf [(111, 0)] _) zq_202 rfl) rfl) hRLRm152
                                        have hRNSm163 := zR_NS_fr (zdis_fr (zfr_up hmm163 (zfr_rf [(111, 0)] _) zq_202 rfl) rfl) hRNSm152
                                        have hRTRm163 := zR_TR_fr (zdis_fr (zfr_up hmm163 (zfr_rf [(111, 0)] _) zq_202 rfl) rfl) hRTRm152
                                        have hRWDm163 := zR_WD_fr (zdis_fr (zfr_up hmm163 (zfr_rf [(111, 0)] _) zq_202 rfl) rfl) hRWDm152
                                        refine zw_bd (zw_eq (zu_call_at (zt_T n) (zm_94 n) (zdp_94 n) _ _ _ _ _ rfl (zr_94_0 n _ _ a0 0 3 m163)) ?_)
                                        have r164 : 0 ≤ (m163 a0 8) ∧ (m163 a0 8) ≤ 6 := zi_rd hIm163 hc0 zb_28_8
                                        have e165 : (m163 a0 8) = (m152 a0 8) := (zs_ne hmm163 (Or.inl (zc_ne hc0 zq_202 (by decide))))
                                        refine zw_ite (fun h166 => ?_) (fun h166 => ?_)
                                        · have s167 := (hRTRm152 a0 hc0).2.2 (by omega)
                                          have r168 : (-2147483648) ≤ (m163 a0 9) ∧ (m163 a0 9) ≤ 2147483647 := zi_rd hIm163 hc0 zb_28_9
                                          have e169 : (m163 a0 9) = (m152 a0 9) := (zs_ne hmm163 (Or.inl (zc_ne hc0 zq_202 (by decide))))
                                          refine zw_bd (zw_eq (zu_call_at (zt_T n) (zm_83 n) (zdp_83 n) _ _ _ _ _ rfl (zr_83_0 n _ _ (m163 a0 9) 0 3 m163)) ?_)
                                          refine zw_ite (fun h170 => ?_) (fun h170 => ?_)
                                          · exfalso; omega
                                          · refine zw_ite (fun h171 => ?_) (fun h171 => ?_)
                                            · refine zw_b (by omega) ?_
                                              refine zw_some ?_
                                              refine zw_ite (fun h172 => ?_) (fun h172 => ?_)
                                              · exfalso; omega
                                              · refine zw_bd (zw_eq (zu_call_at (zt_T n) (zm_85 n) (zdp_85 n) _ _ _ _ _ rfl (zr_85_0 n _ _ a0 2 m163)) ?_)
                                                generalize hmm173 : zu_up m163 a0 4 2 = m173
                                                have hIm173 := zi_up hmm173 hIm163 hc0 zb_28_4 (by omega) (by omega)
                                                have hFm173 := zfr_up hmm173 hFm163 hc0 rfl
                                                have hLm173 := zlo_ne hmm173 hLm163 hc0 (by decide)
                                                have hRC0m173 := zR_C0_fr (zdis_fr (zfr_up hmm173 (zfr_rf [(28, 5)] _) hc0 rfl) rfl) hRC0m163
                                                have hRCRm173 := zR_CR_fr (zdis_fr (zfr_up hmm173 (zfr_rf [(28, 5)] _) hc0 rfl) rfl) hRCRm163
                                                have hRNSm173 := zR_NS_fr (zdis_fr (zfr_up hmm173 (zfr_rf [(28, 5)] _) hc0 rfl) rfl) hRNSm163
                                                have hRTRm173 := zR_TR_fr (zdis_fr (zfr_up hmm173 (zfr_rf [(28, 5)] _) hc0 rfl) rfl) hRTRm163
                                                have hRWDm173 := zR_WD_fr (zdis_fr (zfr_up hmm173 (zfr_rf [(28, 5)] _) hc0 rfl) rfl) hRWDm163
                                                have hRLRm173 := zLR_wr (zone_190 hc0) hmm173 (by decide)
                                                have r174 : 0 ≤ (m173 a0 10) ∧ (m173 a0 10) ≤ 700 := zi_rd hIm173 hc0 zb_28_10
                                                generalize hmm175 : zu_up m173 a0 5 (m173 a0 10) = m175
                                                have hIm175 := zi_up hmm175 hIm173 hc0 zb_28_5 (by omega) (by omega)
                                                have hFm175 := zfr_up hmm175 hFm173 hc0 rfl
                                                have hLm175 := zlo_ne hmm175 hLm173 hc0 (by decide)
                                                have hRC0m175 := zR_C0_fr (zdis_fr (zfr_up hmm175 (zfr_rf [(28, 6)] _) hc0 rfl) rfl) hRC0m173
                                                have hRCRm175 := zR_CR_fr (zdis_fr (zfr_up hmm175 (zfr_rf [(28, 6)] _) hc0 rfl) rfl) hRCRm173
                                                have hRLRm175 := zR_LR_fr (zdis_fr (zfr_up hmm175 (zfr_rf [(28, 6)] _) hc0 rfl) rfl) hRLRm173
                                                have hRNSm175 := zR_NS_fr (zdis_fr (zfr_up hmm175 (zfr_rf [(28, 6)] _) hc0 rfl) rfl) hRNSm173
                                                have hRTRm175 := zR_TR_fr (zdis_fr (zfr_up hmm175 (zfr_rf [(28, 6)] _) hc0 rfl) rfl) hRTRm173
                                                have hRWDm175 := zR_WD_fr (zdis_fr (zfr_up hmm175 (zfr_rf [(28, 6)] _) hc0 rfl) rfl) hRWDm173
                                                refine zw_b (by omega) ?_
                                                refine zw_some ?_
                                                refine zw_b (by omega) ?_
                                                refine zw_some ?_
                                                refine zw_ite (fun h176 => ?_) (fun h176 => ?_)
                                                · exfalso; omega
                                                · refine zw_b (by omega) ?_
                                                  have r177 : 0 ≤ (m175 a0 7) ∧ (m175 a0 7) ≤ 700 := zi_rd hIm175 hc0 zb_28_7
                                                  have e178 : (m175 a0 7) = (m152 a0 7) := (Eq.trans (zs_ne hmm175 (Or.inr (by decide))) (Eq.trans (zs_ne hmm173 (Or.inr (by decide))) (zs_ne hmm163 (Or.inl (zc_ne hc0 zq_202 (by decide))))))
                                                  have r179 : 0 ≤ (m175 a0 8) ∧ (m175 a0 8) ≤ 6 := zi_rd hIm175 hc0 zb_28_8
                                                  have e180 : (m175 a0 8) = (m163 a0 8) := (Eq.trans (zs_ne hmm175 (Or.inr (by decide))) (zs_ne hmm173 (Or.inr (by decide))))
                                                  have r181 : (-2147483648) ≤ (m175 a0 4) ∧ (m175 a0 4) ≤ 2147483647 := zi_rd hIm175 hc0 zb_28_4
                                                  have e182 : (m175 a0 4) = 2 := (Eq.trans (zs_ne hmm175 (Or.inr (by decide))) (zs_eq hmm173))
                                                  exact zw_some ⟨hIm175, hFm175, hLm175, hRC0m175, hRCRm175, hRLRm175, hRNSm175, hRTRm175, hRWDm175, ⟨by decide, by decide⟩, by omega, fun h => absurd h (by decide), fun h => absurd h (by decide)⟩
                                            · refine zw_b (by omega) ?_
                                              refine zw_some ?_
                                              refine zw_ite (fun h183 => ?_) (fun h183 => ?_)
                                              · generalize hmm184 : zu_up m163 a0 11 (m163 a0 9) = m184
                                                have hIm184 := zi_up hmm184 hIm163 hc0 zb_28_11 (by omega) (by omega)
                                                have hFm184 := zfr_up hmm184 hFm163 hc0 rfl
                                                have hLm184 := zlo_ne hmm184 hLm163 hc0 (by decide)
                                                have hRC0m184 := zR_C0_fr (zdis_fr (zfr_up hmm184 (zfr_rf [(28, 12)] _) hc0 rfl) rfl) hRC0m163
                                                have hRCRm184 := zR_CR_fr (zdis_fr (zfr_up hmm184 (zfr_rf [(28, 12)] _) hc0 rfl) rfl) hRCRm163
                                                have hRLRm184 := zR_LR_fr (zdis_fr (zfr_up hmm184 (zfr_rf [(28, 12)] _) hc0 rfl) rfl) hRLRm163
                                                have hRNSm184 := zR_NS_fr (zdis_fr (zfr_up hmm184 (zfr_rf [(28, 12)] _) hc0 rfl) rfl) hRNSm163
                                                have hRTRm184 := zR_TR_fr (zdis_fr (zfr_up hmm184 (zfr_rf [(28, 12)] _) hc0 rfl) rfl) hRTRm163
                                                have hRWDm184 := zR_WD_fr (zdis_fr (zfr_up hmm184 (zfr_rf [(28, 12)] _) hc0 rfl) rfl) hRWDm163
                                                have r187 : 0 ≤ (m184 a0 7) ∧ (m184 a0 7) ≤ 700 := zi_rd hIm184 hc0 zb_28_7
                                                have e188 : (m184 a0 7) = (m152 a0 7) := (Eq.trans (zs_ne hmm184 (Or.inr (by decide))) (zs_ne hmm163 (Or.inl (zc_ne hc0 zq_202 (by decide)))))
                                                refine zw_bd (zw_mono (zk_89 n hIm184 hc0 hRNSm184 hRWDm184) (fun v186 m185 hqm185 => ?_))
                                                obtain ⟨hIm185, hfm185, hvm185⟩ := hqm185
                                                have hFm185 := zfr_tr hFm184 hfm185 rfl
                                                have hLm185 := zlo_tr hLm184 (zlo_fr hfm185 rfl)
                                                obtain ⟨hRNSm185, hRTRm185, hRWDm185, hvm185⟩ := hvm185
                                                have hRC0m185 := zR_C0_fr (zdis_fr hfm185 rfl) hRC0m184
                                                have hRCRm185 := zR_CR_fr (zdis_fr hfm185 rfl) hRCRm184
                                                have hRLRm185 := zR_LR_fr (zdis_fr hfm185 rfl) hRLRm184
                                                have s189 := hRNSm185 a0 hc0
                                                have r190 : 0 ≤ (m185 a0 7) ∧ (m185 a0 7) ≤ 700 := zi_rd hIm185 hc0 zb_28_7
                                                have r191 : 0 ≤ (m185 a0 8) ∧ (m185 a0 8) ≤ 6 := zi_rd hIm185 hc0 zb_28_8
                                                refine zw_b (by omega) ?_
                                                refine zw_some ?_
                                                refine zw_ite (fun h192 => ?_) (fun h192 => ?_)
                                                · have r193 : (-2147483648) ≤ (m185 a0 11) ∧ (m185 a0 11) ≤ 2147483647 := zi_rd hIm185 hc0 zb_28_11
                                                  have e194 : (m185 a0 11) = (m163 a0 9) := (Eq.trans (zfr_ap hfm185 hc0 rfl) (zs_eq hmm184))
                                                  have b195 : 0 ≤ (zu_w32 (4 + (m15 a0 20))) ∧ (zu_w32 (4 + (m15 a0 20))) < 8 := by omega
                                                  refine zw_if b195 ?_
                                                  generalize hmm196 : zu_up m185 203 (zu_w32 (4 + (m15 a0 20))) (m185 a0 11) = m196
                                                  have hIm196 := zi_up hmm196 hIm185 zq_203 (zb_112 _) (by omega) (by omega)
                                                  have hFm196 := zfr_up hmm196 hFm185 zq_203 rfl
                                                  have hLm196 := zlo_ne hmm196 hLm185 zq_203 (by decide)
                                                  have hRC0m196 := zR_C0_fr (zdis_fr (zfr_up hmm196 (zfr_rf [(112, 0)] _) zq_203 rfl) rfl) hRC0m185
                                                  have hRCRm196 := zR_CR_fr (zdis_fr (zfr_up hmm196 (zfr_rf [(112, 0)] _) zq_203 rfl) rfl) hRCRm185
                                                  have hRLRm196 := zR_LR_fr (zdis_fr (zfr_up hmm196 (zfr_rf [(112, 0)] _) zq_203 rfl) rfl) hRLRm185
                                                  have hRNSm196 := zR_NS_fr (zdis_fr (zfr_up hmm196 (zfr_rf [(112, 0)] _) zq_203 rfl) rfl) hRNSm185
                                                  have hRTRm196 := zR_TR_fr (zdis_fr (zfr_up hmm196 (zfr_rf [(112, 0)] _) zq_203 rfl) rfl) hRTRm185
                                                  have hRWDm196 := zR_WD_fr (zdis_fr (zfr_up hmm196 (zfr_rf [(112, 0)] _) zq_203 rfl) rfl) hRWDm185
                                                  refine zw_bd (zw_eq (zu_call_at (zt_T n) (zm_94 n) (zdp_94 n) _ _ _ _ _ rfl (zr_94_0 n _ _ a0 0 99 m196)) ?_)
                                                  have r197 : 0 ≤ (m196 a0 8) ∧ (m196 a0 8) ≤ 6 := zi_rd hIm196 hc0 zb_28_8
                                                  have e198 : (m196 a0 8) = (m185 a0 8) := (zs_ne hmm196 (Or.inl (zc_ne hc0 zq_203 (by decide))))
                                                  refine zw_ite (fun h199 => ?_) (fun h199 => ?_)
                                                  · have s200 := (hRTRm185 a0 hc0).2.2 (by omega)
                                                    have r201 : (-2147483648) ≤ (m196 a0 9) ∧ (m196 a0 9) ≤ 2147483647 := zi_rd hIm196 hc0 zb_28_9
                                                    have e202 : (m196 a0 9) = (m185 a0 9) := (zs_ne hmm196 (Or.inl (zc_ne hc0 zq_203 (by decide))))
                                                    refine zw_bd (zw_eq (zu_call_at (zt_T n) (zm_83 n) (zdp_83 n) _ _ _ _ _ rfl (zr_83_0 n _ _ (m196 a0 9) 0 99 m196)) ?_)
                                                    refine zw_ite (fun h203 => ?_) (fun h203 => ?_)
                                                    · exfalso; omega
                                                    · refine zw_ite (fun h204 => ?_) (fun h204 => ?_)
                                                      · refine zw_b (by omega) ?_
                                                        refine zw_some ?_
                                                        refine zw_ite (fun h205 => ?_) (fun h205 => ?_)
                                                        · exfalso; omega
                                                        · refine zw_bd (zw_eq (zu_call_at (zt_T n) (zm_85 n) (zdp_85 n) _ _ _ _ _ rfl (zr_85_0 n _ _ a0 2 m196)) ?_)
                                                          generalize hmm206 : zu_up m196 a0 4 2 = m206
                                                          have hIm206 := zi_up hmm206 hIm196 hc0 zb_28_4 (by omega) (by omega)
                                                          have hFm206 := zfr_up hmm206 hFm196 hc0 rfl
                                                          have hLm206 := zlo_ne hmm206 hLm196 hc0 (by decide)
                                                          have hRC0m206 := zR_C0_fr (zdis_fr (zfr_up hmm206 (zfr_rf [(28, 5)] _) hc0 rfl) rfl) hRC0m196
                                                          have hRCRm206 := zR_CR_fr (zdis_fr (zfr_up hmm206 (zfr_rf [(28, 5)] _) hc0 rfl) rfl) hRCRm196
                                                          have hRNSm206 := zR_NS_fr (zdis_fr (zfr_up hmm206 (zfr_rf [(28, 5)] _) hc0 rfl) rfl) hRNSm196
                                                          have hRTRm206 := zR_TR_fr (zdis_fr (zfr_up hmm206 (zfr_rf [(28, 5)] _) hc0 rfl) rfl) hRTRm196
                                                          have hRWDm206 := zR_WD_fr (zdis_fr (zfr_up hmm206 (zfr_rf [(28, 5)] _) hc0 rfl) rfl) hRWDm196
                                                          have hRLRm206 := zLR_wr (zone_190 hc0) hmm206 (by decide)
                                                          have r207 : 0 ≤ (m206 a0 10) ∧ (m206 a0 10) ≤ 700 := zi_rd hIm206 hc0 zb_28_10
                                                          generalize hmm208 : zu_up m206 a0 5 (m206 a0 10) = m208
                                                          have hIm208 := zi_up hmm208 hIm206 hc0 zb_28_5 (by omega) (by omega)
                                                          have hFm208 := zfr_up hmm208 hFm206 hc0 rfl
                                                          have hLm208 := zlo_ne hmm208 hLm206 hc0 (by decide)
                                                          have hRC0m208 := zR_C0_fr (zdis_fr (zfr_up hmm208 (zfr_rf [(28, 6)] _) hc0 rfl) rfl) hRC0m206
                                                          have hRCRm208 := zR_CR_fr (zdis_fr (zfr_up hmm208 (zfr_rf [(28, 6)] _) hc0 rfl) rfl) hRCRm206
                                                          have hRLRm208 := zR_LR_fr (zdis_fr (zfr_up hmm208 (zfr_rf [(28, 6)] _) hc0 rfl) rfl) hRLRm206
                                                          have hRNSm208 := zR_NS_fr (zdis_fr (zfr_up hmm208 (zfr_rf [(28, 6)] _) hc0 rfl) rfl) hRNSm206
                                                          have hRTRm208 := zR_TR_fr (zdis_fr (zfr_up hmm208 (zfr_rf [(28, 6)] _) hc0 rfl) rfl) hRTRm206
                                                          have hRWDm208 := zR_WD_fr (zdis_fr (zfr_up hmm208 (zfr_rf [(28, 6)] _) hc0 rfl) rfl) hRWDm206
                                                          refine zw_b (by omega) ?_
                                                          refine zw_some ?_
                                                          refine zw_b (by omega) ?_
                                                          refine zw_some ?_
                                                          refine zw_ite (fun h209 => ?_) (fun h209 => ?_)
                                                          · exfalso; omega
                                                          · refine zw_b (by omega) ?_
                                                            have r210 : 0 ≤ (m208 a0 7) ∧ (m208 a0 7) ≤ 700 := zi_rd hIm208 hc0 zb_28_7
                                                            have e211 : (m208 a0 7) = (m185 a0 7) := (Eq.trans (zs_ne hmm208 (Or.inr (by decide))) (Eq.trans (zs_ne hmm206 (Or.inr (by decide))) (zs_ne hmm196 (Or.inl (zc_ne hc0 zq_203 (by decide))))))
                                                            have r212 : 0 ≤ (m208 a0 8) ∧ (m208 a0 8) ≤ 6 := zi_rd hIm208 hc0 zb_28_8
                                                            have e213 : (m208 a0 8) = (m196 a0 8) := (Eq.trans (zs_ne hmm208 (Or.inr (by decide))) (zs_ne hmm206 (Or.inr (by decide))))
                                                            have r214 : (-2147483648) ≤ (m208 a0 4) ∧ (m208 a0 4) ≤ 2147483647 := zi_rd hIm208 hc0 zb_28_4
                                                            have e215 : (m208 a0 4) = 2 := (Eq.trans (zs_ne hmm208 (Or.inr (by decide))) (zs_eq hmm206))
                                                            exact zw_some ⟨hIm208, hFm208, hLm208, hRC0m208, hRCRm208, hRLRm208, hRNSm208, hRTRm208, hRWDm208, ⟨by decide, by decide⟩, by omega, fun h => absurd h (by decide), fun h => absurd h (by decide)⟩
                                                      · refine zw_b (by omega) ?_
                                                        refine zw_some ?_
                                                        refine zw_ite (fun h216 => ?_) (fun h216 => ?_)
                                                        · generalize hmm217 : zu_up m196 a0 11 (m196 a0 9) = m217
                                                          have hIm217 := zi_up hmm217 hIm196 hc0 zb_28_11 (by omega) (by omega)
                                                          have hFm217 := zfr_up hmm217 hFm196 hc0 rfl
                                                          have hLm217 := zlo_ne hmm217 hLm196 hc0 (by decide)
                                                          have hRC0m217 := zR_C0_fr (zdis_fr (zfr_up hmm217 (zfr_rf [(28, 12)] _) hc0 rfl) rfl) hRC0m196
                                                          have hRCRm217 := zR_CR_fr (zdis_fr (zfr_up hmm217 (zfr_rf [(28, 12)] _) hc0 rfl) rfl) hRCRm196
                                                          have hRLRm217 := zR_LR_fr (zdis_fr (zfr_up hmm217 (zfr_rf [(28, 12)] _) hc0 rfl) rfl) hRLRm196
                                                          have hRNSm217 := zR_NS_fr (zdis_fr (zfr_up hmm217 (zfr_rf [(28, 12)] _) hc0 rfl) rfl) hRNSm196
                                                          have hRTRm217 := zR_TR_fr (zdis_fr (zfr_up hmm217 (zfr_rf [(28, 12)] _) hc0 rfl) rfl) hRTRm196
                                                          have hRWDm217 := zR_WD_fr (zdis_fr (zfr_up hmm217 (zfr_rf [(28, 12)] _) hc0 rfl) rfl) hRWDm196
                                                          have r220 : 0 ≤ (m217 a0 7) ∧ (m217 a0 7) ≤ 700 := zi_rd hIm217 hc0 zb_28_7
                                                          have e221 : (m217 a0 7) = (m185 a0 7) := (Eq.trans (zs_ne hmm217 (Or.inr (by decide))) (zs_ne hmm196 (Or.inl (zc_ne hc0 zq_203 (by decide)))))
                                                          refine zw_bd (zw_mono (zk_89 n hIm217 hc0 hRNSm217 hRWDm217) (fun v219 m218 hqm218 => ?_))
                                                          obtain ⟨hIm218, hfm218, hvm218⟩ := hqm218
                                                          have hFm218 := zfr_tr hFm217 hfm218 rfl
                                                          have hLm218 := zlo_tr hLm217 (zlo_fr hfm218 rfl)
                                                          obtain ⟨hRNSm218, hRTRm218, hRWDm218, hvm218⟩ := hvm218
                                                          have hRC0m218 := zR_C0_fr (zdis_fr hfm218 rfl) hRC0m217
                                                          have hRCRm218 := zR_CR_fr (zdis_fr hfm218 rfl) hRCRm217
                                                          have hRLRm218 := zR_LR_fr (zdis_fr hfm218 rfl) hRLRm217
                                                          have s222 := hRNSm218 a0 hc0
                                                          have r223 : 0 ≤ (m218 a0 7) ∧ (m218 a0 7) ≤ 700 := zi_rd hIm218 hc0 zb_28_7
                                                          have r224 : 0 ≤ (m218 a0 8) ∧ (m218 a0 8) ≤ 6 := zi_rd hIm218 hc0 zb_28_8
                                                          refine zw_b (by omega) ?_
                                                          refine zw_some ?_
                                                          refine zw_ite (fun h225 => ?_) (fun h225 => ?_)
                                                          · have r226 : (-2147483648) ≤ (m218 a0 11) ∧ (m218 a0 11) ≤ 2147483647 := zi_rd hIm218 hc0 zb_28_11
                                                            have e227 : (m218 a0 11) = (m196 a0 9) := (Eq.trans (zfr_ap hfm218 hc0 rfl) (zs_eq hmm217))
                                                            have b228 : 0 ≤ (zu_w32 (4 + (m15 a0 20))) ∧ (zu_w32 (4 + (m15 a0 20))) < 8 := by omega
                                                            refine zw_if b228 ?_
                                                            generalize hmm229 : zu_up m218 204 (zu_w32 (4 + (m15 a0 20))) (m218 a0 11) = m229
                                                            have hIm229 := zi_up hmm229 hIm218 zq_204 (zb_113 _) (by omega) (by omega)
                                                            have hFm229 := zfr_up hmm229 hFm218 zq_204 rfl
                                                            have hLm229 := zlo_ne hmm229 hLm218 zq_204 (by decide)
                                                            have hRC0m229 := zR_C0_fr (zdis_fr (zfr_up hmm229 (zfr_rf [(113, 0)] _) zq_204 rfl) rfl) hRC0m218
                                                            have hRCRm229 := zR_CR_fr (zdis_fr (zfr_up hmm229 (zfr_rf [(113, 0)] _) zq_204 rfl) rfl) hRCRm218
                                                            have hRLRm229 := zR_LR_fr (zdis_fr (zfr_up hmm229 (zfr_rf [(113, 0)] _) zq_204 rfl) rfl) hRLRm218
                                                            have hRNSm229 := zR_NS_fr (zdis_fr (zfr_up hmm229 (zfr_rf [(113, 0)] _) zq_204 rfl) rfl) hRNSm218
                                                            have hRTRm229 := zR_TR_fr (zdis_fr (zfr_up hmm229 (zfr_rf [(113, 0)] _) zq_204 rfl) rfl) hRTRm218
                                                            have hRWDm229 := zR_WD_fr (zdis_fr (zfr_up hmm229 (zfr_rf [(113, 0)] _) zq_204 rfl) rfl) hRWDm218
                                                            have r230 : 0 ≤ (m229 a0 20) ∧ (m229 a0 20) ≤ 4 := zi_rd hIm229 hc0 zb_28_20
                                                            have e231 : (m229 a0 20) = (m112 a0 20) := (Eq.trans (zs_ne hmm229 (Or.inl (zc_ne hc0 zq_204 (by decide)))) (Eq.trans (zfr_ap hfm218 hc0 rfl) (Eq.trans (zs_ne hmm217 (Or.inr (by decide))) (Eq.trans (zs_ne hmm196 (Or.inl (zc_ne hc0 zq_203 (by decide)))) (Eq.trans (zfr_ap hfm185 hc0 rfl) (Eq.trans (zs_ne hmm184 (Or.inr (by decide))) (Eq.trans (zs_ne hmm163 (Or.inl (zc_ne hc0 zq_202 (by decide)))) (Eq.trans (zfr_ap hfm152 hc0 rfl) (Eq.trans (zs_ne hmm151 (Or.inr (by decide))) (zs_ne hmm117 (Or.inl (zc_ne hc0 zq_201 (by decide)))))))))))))
                                                            have w232 := zu_w32_id (z := (m229 a0 20) + 1) (by omega) (by omega)
                                                            generalize hmm233 : zu_up m229 a0 20 (zu_w32 ((m229 a0 20) + 1)) = m233
                                                            have hIm233 := zi_up hmm233 hIm229 hc0 zb_28_20 (by omega) (by omega)
                                                            have hFm233 := zfr_up hmm233 hFm229 hc0 rfl
                                                            have hLm233 := zlo_ne hmm233 hLm229 hc0 (by decide)
                                                            have hRC0m233 := zR_C0_fr (zdis_fr (zfr_up hmm233 (zfr_rf [(28, 21)] _) hc0 rfl) rfl) hRC0m229
                                                            have hRLRm233 := zR_LR_fr (zdis_fr (zfr_up hmm233 (zfr_rf [(28, 21)] _) hc0 rfl) rfl) hRLRm229
                                                            have hRNSm233 := zR_NS_fr (zdis_fr (zfr_up hmm233 (zfr_rf [(28, 21)] _) hc0 rfl) rfl) hRNSm229
                                                            have hRTRm233 := zR_TR_fr (zdis_fr (zfr_up hmm233 (zfr_rf [(28, 21)] _) hc0 rfl) rfl) hRTRm229
                                                            have hRWDm233 := zR_WD_fr (zdis_fr (zfr_up hmm233 (zfr_rf [(28, 21)] _) hc0 rfl) rfl) hRWDm229
                                                            have r234 : 0 ≤ (m229 201 (zu_w32 (4 + (m15 a0 20)))) ∧ (m229 201 (zu_w32 (4 + (m15 a0 20)))) ≤ 47 := zi_rd hIm229 zq_201 (zb_110 _)
                                                            have e235 : (m229 201 (zu_w32 (4 + (m15 a0 20)))) = (m112 a0 11) := (Eq.trans (zs_ne hmm229 (Or.inl (zc_ne zq_201 zq_204 (by decide)))) (Eq.trans (zfr_ap hfm218 zq_201 rfl) (Eq.trans (zs_ne hmm217 (Or.inl (zc_ne zq_201 hc0 (by decide)))) (Eq.trans (zs_ne hmm196 (Or.inl (zc_ne zq_201 zq_203 (by decide)))) (Eq.trans (zfr_ap hfm185 zq_201 rfl) (Eq.trans (zs_ne hmm184 (Or.inl (zc_ne zq_201 hc0 (by decide)))) (Eq.trans (zs_ne hmm163 (Or.inl (zc_ne zq_201 zq_202 (by decide)))) (Eq.trans (zfr_ap hfm152 zq_201 rfl) (Eq.trans (zs_ne hmm151 (Or.inl (zc_ne zq_201 hc0 (by decide)))) (zs_eq hmm117))))))))))
                                                            have r236 : 0 ≤ (m229 a0 23) ∧ (m229 a0 23) ≤ 1 := zi_rd hIm229 hc0 zb_28_23
                                                            have e237 : (m229 a0 23) = 1 := (Eq.trans (zs_ne hmm229 (Or.inl (zc_ne hc0 zq_204 (by decide)))) (Eq.trans (zfr_ap hfm218 hc0 rfl) (Eq.trans (zs_ne hmm217 (Or.inr (by decide))) (Eq.trans (zs_ne hmm196 (Or.inl (zc_ne hc0 zq_203 (by decide)))) (Eq.trans (zfr_ap hfm185 hc0 rfl) (Eq.trans (zs_ne hmm184 (Or.inr (by decide))) (Eq.trans (zs_ne hmm163 (Or.inl (zc_ne hc0 zq_202 (by decide)))) (Eq.trans (zfr_ap hfm152 hc0 rfl) (Eq.trans (zs_ne hmm151 (Or.inr (by decide))) (Eq.trans (zs_ne hmm117 (Or.inl (zc_ne hc0 zq_201 (by decide)))) (Eq.trans (zs_ne hmm112 (Or.inr (by decide))) (Eq.trans (zfr_ap hfm95 hc0 rfl) (Eq.trans (zs_ne hmm94 (Or.inr (by decide))) (Eq.trans (zs_ne hmm69 (Or.inr (by decide))) (Eq.trans (zfr_ap hfm58 hc0 rfl) (Eq.trans (zs_ne hmm57 (Or.inr (by decide))) (zs_eq hmm33)))))))))))))))))
                                                            have hRCRm233 := zCR_inc (p := (zu_w32 (4 + (m15 a0 20)))) (zone_190 hc0) hmm233 (by omega) (by omega) (by omega) (zlt_pr (by omega) hgl (zprod2 (Eq.trans (zs_ne hmm229 (Or.inl (zc_ne hc0 zq_204 (by decide)))) (Eq.trans (zfr_ap hfm218 hc0 rfl) (Eq.trans (zs_ne hmm217 (Or.inr (by decide))) (Eq.trans (zs_ne hmm196 (Or.inl (zc_ne hc0 zq_203 (by decide)))) (Eq.trans (zfr_ap hfm185 hc0 rfl) (Eq.trans (zs_ne hmm184 (Or.inr (by decide))) (Eq.trans (zs_ne hmm163 (Or.inl (zc_ne hc0 zq_202 (by decide)))) (Eq.trans (zfr_ap hfm152 hc0 rfl) (Eq.trans (zs_ne hmm151 (Or.inr (by decide))) (Eq.trans (zs_ne hmm117 (Or.inl (zc_ne hc0 zq_201 (by decide)))) (zs_ne hmm112 (Or.inr (by decide))))))))))))) (Eq.trans (zs_ne hmm229 (Or.inl (zc_ne hc0 zq_204 (by decide)))) (Eq.trans (zfr_ap hfm218 hc0 rfl) (Eq.trans (zs_ne hmm217 (Or.inr (by decide))) (Eq.trans (zs_ne hmm196 (Or.inl (zc_ne hc0 zq_203 (by decide)))) (Eq.trans (zfr_ap hfm185 hc0 rfl) (Eq.trans (zs_ne hmm184 (Or.inr (by decide))) (Eq.trans (zs_ne hmm163 (Or.inl (zc_ne hc0 zq_202 (by decide)))) (Eq.trans (zfr_ap hfm152 hc0 rfl) (Eq.trans (zs_ne hmm151 (Or.inr (by decide))) (Eq.trans (zs_ne hmm117 (Or.inl (zc_ne hc0 zq_201 (by decide)))) (zs_ne hmm112 (Or.inr (by decide))))))))))))))) hRCRm229
                                                            refine zw_b (by omega) ?_
                                                            have r238 : 0 ≤ (m233 a0 7) ∧ (m233 a0 7) ≤ 700 := zi_rd hIm233 hc0 zb_28_7
                                                            have e239 : (m233 a0 7) = (m218 a0 7) := (Eq.trans (zs_ne hmm233 (Or.inr (by decide))) (zs_ne hmm229 (Or.inl (zc_ne hc0 zq_204 (by decide)))))
                                                            have r240 : 0 ≤ (m233 a0 8) ∧ (m233 a0 8) ≤ 6 := zi_rd hIm233 hc0 zb_28_8
                                                            have e241 : (m233 a0 8) = (m218 a0 8) := (Eq.trans (zs_ne hmm233 (Or.inr (by decide))) (zs_ne hmm229 (Or.inl (zc_ne hc0 zq_204 (by decide)))))
                                                            have r242 : (-2147483648) ≤ (m233 a0 4) ∧ (m233 a0 4) ≤ 2147483647 := zi_rd hIm233 hc0 zb_28_4
                                                            have e243 : (m233 a0 4) = (m0 a0 4) := (Eq.trans (zs_ne hmm233 (Or.inr (by decide))) (Eq.trans (zs_ne hmm229 (Or.inl (zc_ne hc0 zq_204 (by decide)))) (Eq.trans (zfr_ap hfm218 hc0 rfl) (Eq.trans (zs_ne hmm217 (Or.inr (by decide))) (Eq.trans (zs_ne hmm196 (Or.inl (zc_ne hc0 zq_203 (by decide)))) (Eq.trans (zfr_ap hfm185 hc0 rfl) (Eq.trans (zs_ne hmm184 (Or.inr (by decide))) (Eq.trans (zs_ne hmm163 (Or.inl (zc_ne hc0 zq_202 (by decide)))) (Eq.trans (zfr_ap hfm152 hc0 rfl) (Eq.trans (zs_ne hmm151 (Or.inr (by decide))) (Eq.trans (zs_ne hmm117 (Or.inl (zc_ne hc0 zq_201 (by decide)))) (Eq.trans (zs_ne hmm112 (Or.inr (by decide))) (Eq.trans (zfr_ap hfm95 hc0 rfl) (Eq.trans (zs_ne hmm94 (Or.inr (by decide))) (Eq.trans (zs_ne hmm69 (Or.inr (by decide))) (Eq.trans (zfr_ap hfm58 hc0 rfl) (Eq.trans (zs_ne hmm57 (Or.inr (by decide))) (Eq.trans (zs_ne hmm33 (Or.inr (by decide))) (Eq.trans (zfr_ap hfm26 hc0 rfl) (Eq.trans (zs_ne hmm25 (Or.inl (zc_ne hc0 zq_200 (by decide)))) (Eq.trans (zfr_ap hfm15 hc0 rfl) (zfr_ap hfm6 hc0 rfl))))))))))))))))))))))
                                                            exact zw_some ⟨hIm233, hFm233, hLm233, hRC0m233, hRCRm233, hRLRm233, hRNSm233, hRTRm233, hRWDm233, ⟨by decide, by decide⟩, by omega, fun _ => by omega, fun _ => by omega⟩
                                                          · exfalso; omega
                                                        · exfalso; omega
                                                  · refine zw_bd (zw_eq (zu_call_at (zt_T n) (zm_85 n) (zdp_85 n) _ _ _ _ _ rfl (zr_85_0 n _ _ a0 1 m196)) ?_)
                                                    generalize hmm244 : zu_up m196 a0 4 1 = m244
                                                    have hIm244 := zi_up hmm244 hIm196 hc0 zb_28_4 (by omega) (by omega)
                                                    have hFm244 := zfr_up hmm244 hFm196 hc0 rfl
                                                    have hLm244 := zlo_ne hmm244 hLm196 hc0 (by decide)
                                                    have hRC0m244 := zR_C0_fr (zdis_fr (zfr_up hmm244 (zfr_rf [(28, 5)] _) hc0 rfl) rfl) hRC0m196
                                                    have hRCRm244 := zR_CR_fr (zdis_fr (zfr_up hmm244 (zfr_rf [(28, 5)] _) hc0 rfl) rfl) hRCRm196
                                                    have hRNSm244 := zR_NS_fr (zdis_fr (zfr_up hmm244 (zfr_rf [(28, 5)] _) hc0 rfl) rfl) hRNSm196
                                                    have hRTRm244 := zR_TR_fr (zdis_fr (zfr_up hmm244 (zfr_rf [(28, 5)] _) hc0 rfl) rfl) hRTRm196
                                                    have hRWDm244 := zR_WD_fr (zdis_fr (zfr_up hmm244 (zfr_rf [(28, 5)] _) hc0 rfl) rfl) hRWDm196
                                                    have hRLRm244 := zLR_wr (zone_190 hc0) hmm244 (by decide)
                                                    have r245 : 0 ≤ (m244 a0 10) ∧ (m244 a0 10) ≤ 700 := zi_rd hIm244 hc0 zb_28_10
                                                    generalize hmm246 : zu_up m244 a0 5 (m244 a0 10) = m246
                                                    have hIm246 := zi_up hmm246 hIm244 hc0 zb_28_5 (by omega) (by omega)
                                                    have hFm246 := zfr_up hmm246 hFm244 hc0 rfl
                                                    have hLm246 := zlo_ne hmm246 hLm244 hc0 (by decide)
                                                    have hRC0m246 := zR_C0_fr (zdis_fr (zfr_up hmm246 (zfr_rf [(28, 6)] _) hc0 rfl) rfl) hRC0m244
                                                    have hRCRm246 := zR_CR_fr (zdis_fr (zfr_up hmm246 (zfr_rf [(28, 6)] _) hc0 rfl) rfl) hRCRm244
                                                    have hRLRm246 := zR_LR_fr (zdis_fr (zfr_up hmm246 (zfr_rf [(28, 6)] _) hc0 rfl) rfl) hRLRm244
                                                    have hRNSm246 := zR_NS_fr (zdis_fr (zfr_up hmm246 (zfr_rf [(28, 6)] _) hc0 rfl) rfl) hRNSm244
                                                    have hRTRm246 := zR_TR_fr (zdis_fr (zfr_up hmm246 (zfr_rf [(28, 6)] _) hc0 rfl) rfl) hRTRm244
                                                    have hRWDm246 := zR_WD_fr (zdis_fr (zfr_up hmm246 (zfr_rf [(28, 6)] _) hc0 rfl) rfl) hRWDm244
                                                    refine zw_b (by omega) ?_
                                                    refine zw_some ?_
                                                    refine zw_b (by omega) ?_
                                                    refine zw_some ?_
                                                    refine zw_ite (fun h247 => ?_) (fun h247 => ?_)
                                                    · exfalso; omega
                                                    · refine zw_b (by omega) ?_
                                                      have r248 : 0 ≤ (m246 a0 7) ∧ (m246 a0 7) ≤ 700 := zi_rd hIm246 hc0 zb_28_7
                                                      have e249 : (m246 a0 7) = (m185 a0 7) := (Eq.trans (zs_ne hmm246 (Or.inr (by decide))) (Eq.trans (zs_ne hmm244 (Or.inr (by decide))) (zs_ne hmm196 (Or.inl (zc_ne hc0 zq_203 (by decide))))))
                                                      have r250 : 0 ≤ (m246 a0 8) ∧ (m246 a0 8) ≤ 6 := zi_rd hIm246 hc0 zb_28_8
                                                      have e251 : (m246 a0 8) = (m196 a0 8) := (Eq.trans (zs_ne hmm246 (Or.inr (by decide))) (zs_ne hmm244 (Or.inr (by decide))))
                                                      have r252 : (-2147483648) ≤ (m246 a0 4) ∧ (m246 a0 4) ≤ 2147483647 := zi_rd hIm246 hc0 zb_28_4
                                                      have e253 : (m246 a0 4) = 1 := (Eq.trans (zs_ne hmm246 (Or.inr (by decide))) (zs_eq hmm244))
                                                      exact zw_some ⟨hIm246, hFm246, hLm246, hRC0m246, hRCRm246, hRLRm246, hRNSm246, hRTRm246, hRWDm246, ⟨by decide, by decide⟩, by omega, fun h => absurd h (by decide), fun h => absurd h (by decide)⟩
                                                · exfalso; omega
                                              · exfalso; omega
                                        · refine zw_bd (zw_eq (zu_call_at (zt_T n) (zm_85 n) (zdp_85 n) _ _ _ _ _ rfl (zr_85_0 n _ _ a0 1 m163)) ?_)
                                          generalize hmm254 : zu_up m163 a0 4 1 = m254
                                          have hIm254 := zi_up hmm254 hIm163 hc0 zb_28_4 (by omega) (by omega)
                                          have hFm254 := zfr_up hmm254 hFm163 hc0 rfl
                                          have hLm254 := zlo_ne hmm254 hLm163 hc0 (by decide)
                                          have hRC0m254 := zR_C0_fr (zdis_fr (zfr_up hmm254 (zfr_rf [(28, 5)] _) hc0 rfl) rfl) hRC0m163
                                          have hRCRm254 := zR_CR_fr (zdis_fr (zfr_up hmm254 (zfr_rf [(28, 5)] _) hc0 rfl) rfl) hRCRm163
                                          have hRNSm254 := zR_NS_fr (zdis_fr (zfr_up hmm254 (zfr_rf [(28, 5)] _) hc0 rfl) rfl) hRNSm163
                                          have hRTRm254 := zR_TR_fr (zdis_fr (zfr_up hmm254 (zfr_rf [(28, 5)] _) hc0 rfl) rfl) hRTRm163
                                          have hRWDm254 := zR_WD_fr (zdis_fr (zfr_up hmm254 (zfr_rf [(28, 5)] _) hc0 rfl) rfl) hRWDm163
                                          have hRLRm254 := zLR_wr (zone_190 hc0) hmm254 (by decide)
                                          have r255 : 0 ≤ (m254 a0 10) ∧ (m254 a0 10) ≤ 700 := zi_rd hIm254 hc0 zb_28_10
                                          generalize hmm256 : zu_up m254 a0 5 (m254 a0 10) = m256
                                          have hIm256 := zi_up hmm256 hIm254 hc0 zb_28_5 (by omega) (by omega)
                                          have hFm256 := zfr_up hmm256 hFm254 hc0 rfl
                                          have hLm256 := zlo_ne hmm256 hLm254 hc0 (by decide)
                                          have hRC0m256 := zR_C0_fr (zdis_fr (zfr_up hmm256 (zfr_rf [(28, 6)] _) hc0 rfl) rfl) hRC0m254
                                          have hRCRm256 := zR_CR_fr (zdis_fr (zfr_up hmm256 (zfr_rf [(28, 6)] _) hc0 rfl) rfl) hRCRm254
                                          have hRLRm256 := zR_LR_fr (zdis_fr (zfr_up hmm256 (zfr_rf [(28, 6)] _) hc0 rfl) rfl) hRLRm254
                                          have hRNSm256 := zR_NS_fr (zdis_fr (zfr_up hmm256 (zfr_rf [(28, 6)] _) hc0 rfl) rfl) hRNSm254
                                          have hRTRm256 := zR_TR_fr (zdis_fr (zfr_up hmm256 (zfr_rf [(28, 6)] _) hc0 rfl) rfl) hRTRm254
                                          have hRWDm256 := zR_WD_fr (zdis_fr (zfr_up hmm256 (zfr_rf [(28, 6)] _) hc0 rfl) rfl) hRWDm254
                                          refine zw_b (by omega) ?_
                                          refine zw_some ?_
                                          refine zw_b (by omega) ?_
                                          refine zw_some ?_
                                          refine zw_ite (fun h257 => ?_) (fun h257 => ?_)
                                          · exfalso; omega
                                          · refine zw_b (by omega) ?_
                                            have r258 : 0 ≤ (m256 a0 7) ∧ (m256 a0 7) ≤ 700 := zi_rd hIm256 hc0 zb_28_7
                                            have e259 : (m256 a0 7) = (m152 a0 7) := (Eq.trans (zs_ne hmm256 (Or.inr (by decide))) (Eq.trans (zs_ne hmm254 (Or.inr (by decide))) (zs_ne hmm163 (Or.inl (zc_ne hc0 zq_202 (by decide))))))
                                            have r260 : 0 ≤ (m256 a0 8) ∧ (m256 a0 8) ≤ 6 := zi_rd hIm256 hc0 zb_28_8
                                            have e261 : (m256 a0 8) = (m163 a0 8) := (Eq.trans (zs_ne hmm256 (Or.inr (by decide))) (zs_ne hmm254 (Or.inr (by decide))))
                                            have r262 : (-2147483648) ≤ (m256 a0 4) ∧ (m256 a0 4) ≤ 2147483647 := zi_rd hIm256 hc0 zb_28_4
                                            have e263 : (m256 a0 4) = 1 := (Eq.trans (zs_ne hmm256 (Or.inr (by decide))) (zs_eq hmm254))
                                            exact zw_some ⟨hIm256, hFm256, hLm256, hRC0m256, hRCRm256, hRLRm256, hRNSm256, hRTRm256, hRWDm256, ⟨by decide, by decide⟩, by omega, fun h => absurd h (by decide), fun h => absurd h (by decide)⟩
                                      · exfalso; omega
                                    · exfalso; omega
                              · refine zw_bd (zw_eq (zu_call_at (zt_T n) (zm_85 n) (zdp_85 n) _ _ _ _ _ rfl (zr_85_0 n _ _ a0 1 m117)) ?_)
                                generalize hmm264 : zu_up m117 a0 4 1 = m264
                                have hIm264 := zi_up hmm264 hIm117 hc0 zb_28_4 (by omega) (by omega)
                                have hFm264 := zfr_up hmm264 hFm117 hc0 rfl
                                have hLm264 := zlo_ne hmm264 hLm117 hc0 (by decide)
                                have hRC0m264 := zR_C0_fr (zdis_fr (zfr_up hmm264 (zfr_rf [(28, 5)] _) hc0 rfl) rfl) hRC0m117
                                have hRCRm264 := zR_CR_fr (zdis_fr (zfr_up hmm264 (zfr_rf [(28, 5)] _) hc0 rfl) rfl) hRCRm117
                                have hRNSm264 := zR_NS_fr (zdis_fr (zfr_up hmm264 (zfr_rf [(28, 5)] _) hc0 rfl) rfl) hRNSm117
                                have hRTRm264 := zR_TR_fr (zdis_fr (zfr_up hmm264 (zfr_rf [(28, 5)] _) hc0 rfl) rfl) hRTRm117
                                have hRWDm264 := zR_WD_fr (zdis_fr (zfr_up hmm264 (zfr_rf [(28, 5)] _) hc0 rfl) rfl) hRWDm117
                                have hRLRm264 := zLR_wr (zone_190 hc0) hmm264 (by decide)
                                have r265 : 0 ≤ (m264 a0 10) ∧ (m264 a0 10) ≤ 700 := zi_rd hIm264 hc0 zb_28_10
                                generalize hmm266 : zu_up m264 a0 5 (m264 a0 10) = m266
                                have hIm266 := zi_up hmm266 hIm264 hc0 zb_28_5 (by omega) (by omega)
                                have hFm266 := zfr_up hmm266 hFm264 hc0 rfl
                                have hLm266 := zlo_ne hmm266 hLm264 hc0 (by decide)
                                have hRC0m266 := zR_C0_fr (zdis_fr (zfr_up hmm266 (zfr_rf [(28, 6)] _) hc0 rfl) rfl) hRC0m264
                                have hRCRm266 := zR_CR_fr (zdis_fr (zfr_up hmm266 (zfr_rf [(28, 6)] _) hc0 rfl) rfl) hRCRm264
                                have hRLRm266 := zR_LR_fr (zdis_fr (zfr_up hmm266 (zfr_rf [(28, 6)] _) hc0 rfl) rfl) hRLRm264
                                have hRNSm266 := zR_NS_fr (zdis_fr (zfr_up hmm266 (zfr_rf [(28, 6)] _) hc0 rfl) rfl) hRNSm264
                                have hRTRm266 := zR_TR_fr (zdis_fr (zfr_up hmm266 (zfr_rf [(28, 6)] _) hc0 rfl) rfl) hRTRm264
                                have hRWDm266 := zR_WD_fr (zdis_fr (zfr_up hmm266 (zfr_rf [(28, 6)] _) hc0 rfl) rfl) hRWDm264
                                refine zw_b (by omega) ?_
                                refine zw_some ?_
                                refine zw_b (by omega) ?_
                                refine zw_some ?_
                                refine zw_ite (fun h267 => ?_) (fun h267 => ?_)
                                · exfalso; omega
                                · refine zw_b (by omega) ?_
                                  have r268 : 0 ≤ (m266 a0 7) ∧ (m266 a0 7) ≤ 700 := zi_rd hIm266 hc0 zb_28_7
                                  have e269 : (m266 a0 7) = (m95 a0 7) := (Eq.trans (zs_ne hmm266 (Or.inr (by decide))) (Eq.trans (zs_ne hmm264 (Or.inr (by decide))) (Eq.trans (zs_ne hmm117 (Or.inl (zc_ne hc0 zq_201 (by decide)))) (zs_ne hmm112 (Or.inr (by decide))))))
                                  have r270 : 0 ≤ (m266 a0 8) ∧ (m266 a0 8) ≤ 6 := zi_rd hIm266 hc0 zb_28_8
                                  have e271 : (m266 a0 8) = (m117 a0 8) := (Eq.trans (zs_ne hmm266 (Or.inr (by decide))) (zs_ne hmm264 (Or.inr (by decide))))
                                  have r272 : (-2147483648) ≤ (m266 a0 4) ∧ (m266 a0 4) ≤ 2147483647 := zi_rd hIm266 hc0 zb_28_4
                                  have e273 : (m266 a0 4) = 1 := (Eq.trans (zs_ne hmm266 (Or.inr (by decide))) (zs_eq hmm264))
                                  exact zw_some ⟨hIm266, hFm266, hLm266, hRC0m266, hRCRm266, hRLRm266, hRNSm266, hRTRm266, hRWDm266, ⟨by decide, by decide⟩, by omega, fun h => absurd h (by decide), fun h => absurd h (by decide)⟩
                            · exfalso; omega
                          · exfalso; omega
                        · exfalso; omega
                  · refine zw_bd (zw_eq (zu_call_at (zt_T n) (zm_85 n) (zdp_85 n) _ _ _ _ _ rfl (zr_85_0 n _ _ a0 1 m69)) ?_)
                    generalize hmm274 : zu_up m69 a0 4 1 = m274
                    have hIm274 := zi_up hmm274 hIm69 hc0 zb_28_4 (by omega) (by omega)
                    have hFm274 := zfr_up hmm274 hFm69 hc0 rfl
                    have hLm274 := zlo_ne hmm274 hLm69 hc0 (by decide)
                    have hRC0m274 := zR_C0_fr (zdis_fr (zfr_up hmm274 (zfr_rf [(28, 5)] _) hc0 rfl) rfl) hRC0m69
                    have hRCRm274 := zR_CR_fr (zdis_fr (zfr_up hmm274 (zfr_rf [(28, 5)] _) hc0 rfl) rfl) hRCRm69
                    have hRNSm274 := zR_NS_fr (zdis_fr (zfr_up hmm274 (zfr_rf [(28, 5)] _) hc0 rfl) rfl) hRNSm69
                    have hRTRm274 := zR_TR_fr (zdis_fr (zfr_up hmm274 (zfr_rf [(28, 5)] _) hc0 rfl) rfl) hRTRm69
                    have hRWDm274 := zR_WD_fr (zdis_fr (zfr_up hmm274 (zfr_rf [(28, 5)] _) hc0 rfl) rfl) hRWDm69
                    have hRLRm274 := zLR_wr (zone_190 hc0) hmm274 (by decide)
                    have r275 : 0 ≤ (m274 a0 10) ∧ (m274 a0 10) ≤ 700 := zi_rd hIm274 hc0 zb_28_10
                    have e276 : (m274 a0 10) = (m58 a0 10) := (Eq.trans (zs_ne hmm274 (Or.inr (by decide))) (zs_ne hmm69 (Or.inr (by decide))))
                    generalize hmm277 : zu_up m274 a0 5 (m274 a0 10) = m277
                    have hIm277 := zi_up hmm277 hIm274 hc0 zb_28_5 (by omega) (by omega)
                    have hFm277 := zfr_up hmm277 hFm274 hc0 rfl
                    have hLm277 := zlo_ne hmm277 hLm274 hc0 (by decide)
                    have hRC0m277 := zR_C0_fr (zdis_fr (zfr_up hmm277 (zfr_rf [(28, 6)] _) hc0 rfl) rfl) hRC0m274
                    have hRCRm277 := zR_CR_fr (zdis_fr (zfr_up hmm277 (zfr_rf [(28, 6)] _) hc0 rfl) rfl) hRCRm274
                    have hRLRm277 := zR_LR_fr (zdis_fr (zfr_up hmm277 (zfr_rf [(28, 6)] _) hc0 rfl) rfl) hRLRm274
                    have hRNSm277 := zR_NS_fr (zdis_fr (zfr_up hmm277 (zfr_rf [(28, 6)] _) hc0 rfl) rfl) hRNSm274
                    have hRTRm277 := zR_TR_fr (zdis_fr (zfr_up hmm277 (zfr_rf [(28, 6)] _) hc0 rfl) rfl) hRTRm274
                    have hRWDm277 := zR_WD_fr (zdis_fr (zfr_up hmm277 (zfr_rf [(28, 6)] _) hc0 rfl) rfl) hRWDm274
                    refine zw_b (by omega) ?_
                    refine zw_some ?_
                    refine zw_b (by omega) ?_
                    refine zw_some ?_
                    refine zw_ite (fun h278 => ?_) (fun h278 => ?_)
                    · exfalso; omega
                    · refine zw_b (by omega) ?_
                      refine zw_some ?_
                      refine zw_ite (fun h279 => ?_) (fun h279 => ?_)
                      · exfalso; omega
                      · refine zw_b (by omega) ?_
                        have r280 : 0 ≤ (m277 a0 7) ∧ (m277 a0 7) ≤ 700 := zi_rd hIm277 hc0 zb_28_7
                        have e281 : (m277 a0 7) = (m58 a0 7) := (Eq.trans (zs_ne hmm277 (Or.inr (by decide))) (Eq.trans (zs_ne hmm274 (Or.inr (by decide))) (zs_ne hmm69 (Or.inr (by decide)))))
                        have r282 : 0 ≤ (m277 a0 8) ∧ (m277 a0 8) ≤ 6 := zi_rd hIm277 hc0 zb_28_8
                        have e283 : (m277 a0 8) = (m69 a0 8) := (Eq.trans (zs_ne hmm277 (Or.inr (by decide))) (zs_ne hmm274 (Or.inr (by decide))))
                        have r284 : (-2147483648) ≤ (m277 a0 4) ∧ (m277 a0 4) ≤ 2147483647 := zi_rd hIm277 hc0 zb_28_4
                        have e285 : (m277 a0 4) = 1 := (Eq.trans (zs_ne hmm277 (Or.inr (by decide))) (zs_eq hmm274))
                        exact zw_some ⟨hIm277, hFm277, hLm277, hRC0m277, hRCRm277, hRLRm277, hRNSm277, hRTRm277, hRWDm277, ⟨by decide, by decide⟩, by omega, fun h => absurd h (by decide), fun h => absurd h (by decide)⟩
                · exfalso; omega
              · exfalso; omega
        · refine zw_bd (zw_eq (zu_call_at (zt_T n) (zm_85 n) (zdp_85 n) _ _ _ _ _ rfl (zr_85_0 n _ _ a0 1 m33)) ?_)
          generalize hmm286 : zu_up m33 a0 4 1 = m286
          have hIm286 := zi_up hmm286 hIm33 hc0 zb_28_4 (by omega) (by omega)
          have hFm286 := zfr_up hmm286 hFm33 hc0 rfl
          have hLm286 := zlo_ne hmm286 hLm33 hc0 (by decide)
          have hRC0m286 := zR_C0_fr (zdis_fr (zfr_up hmm286 (zfr_rf [(28, 5)] _) hc0 rfl) rfl) hRC0m33
          have hRCRm286 := zR_CR_fr (zdis_fr (zfr_up hmm286 (zfr_rf [(28, 5)] _) hc0 rfl) rfl) hRCRm33
          have hRNSm286 := zR_NS_fr (zdis_fr (zfr_up hmm286 (zfr_rf [(28, 5)] _) hc0 rfl) rfl) hRNSm33
          have hRTRm286 := zR_TR_fr (zdis_fr (zfr_up hmm286 (zfr_rf [(28, 5)] _) hc0 rfl) rfl) hRTRm33
          have hRWDm286 := zR_WD_fr (zdis_fr (zfr_up hmm286 (zfr_rf [(28, 5)] _) hc0 rfl) rfl) hRWDm33
          have hRLRm286 := zLR_wr (zone_190 hc0) hmm286 (by decide)
          have r287 : 0 ≤ (m286 a0 10) ∧ (m286 a0 10) ≤ 700 := zi_rd hIm286 hc0 zb_28_10
          generalize hmm288 : zu_up m286 a0 5 (m286 a0 10) = m288
          have hIm288 := zi_up hmm288 hIm286 hc0 zb_28_5 (by omega) (by omega)
          have hFm288 := zfr_up hmm288 hFm286 hc0 rfl
          have hLm288 := zlo_ne hmm288 hLm286 hc0 (by decide)
          have hRC0m288 := zR_C0_fr (zdis_fr (zfr_up hmm288 (zfr_rf [(28, 6)] _) hc0 rfl) rfl) hRC0m286
          have hRCRm288 := zR_CR_fr (zdis_fr (zfr_up hmm288 (zfr_rf [(28, 6)] _) hc0 rfl) rfl) hRCRm286
          have hRLRm288 := zR_LR_fr (zdis_fr (zfr_up hmm288 (zfr_rf [(28, 6)] _) hc0 rfl) rfl) hRLRm286
          have hRNSm288 := zR_NS_fr (zdis_fr (zfr_up hmm288 (zfr_rf [(28, 6)] _) hc0 rfl) rfl) hRNSm286
          have hRTRm288 := zR_TR_fr (zdis_fr (zfr_up hmm288 (zfr_rf [(28, 6)] _) hc0 rfl) rfl) hRTRm286
          have hRWDm288 := zR_WD_fr (zdis_fr (zfr_up hmm288 (zfr_rf [(28, 6)] _) hc0 rfl) rfl) hRWDm286
          refine zw_b (by omega) ?_
          refine zw_some ?_
          refine zw_b (by omega) ?_
          refine zw_some ?_
          refine zw_ite (fun h289 => ?_) (fun h289 => ?_)
          · exfalso; omega
          · refine zw_b (by omega) ?_
            refine zw_some ?_
            refine zw_ite (fun h290 => ?_) (fun h290 => ?_)
            · exfalso; omega
            · refine zw_b (by omega) ?_
              have r291 : 0 ≤ (m288 a0 7) ∧ (m288 a0 7) ≤ 700 := zi_rd hIm288 hc0 zb_28_7
              have e292 : (m288 a0 7) = (m26 a0 7) := (Eq.trans (zs_ne hmm288 (Or.inr (by decide))) (Eq.trans (zs_ne hmm286 (Or.inr (by decide))) (zs_ne hmm33 (Or.inr (by decide)))))
              have r293 : 0 ≤ (m288 a0 8) ∧ (m288 a0 8) ≤ 6 := zi_rd hIm288 hc0 zb_28_8
              have e294 : (m288 a0 8) = (m33 a0 8) := (Eq.trans (zs_ne hmm288 (Or.inr (by decide))) (zs_ne hmm286 (Or.inr (by decide))))
              have r295 : (-2147483648) ≤ (m288 a0 4) ∧ (m288 a0 4) ≤ 2147483647 := zi_rd hIm288 hc0 zb_28_4
              have e296 : (m288 a0 4) = 1 := (Eq.trans (zs_ne hmm288 (Or.inr (by decide))) (zs_eq hmm286))
              exact zw_some ⟨hIm288, hFm288, hLm288, hRC0m288, hRCRm288, hRLRm288, hRNSm288, hRTRm288, hRWDm288, ⟨by decide, by decide⟩, by omega, fun h => absurd h (by decide), fun h => absurd h (by decide)⟩
      · refine zw_bd (zw_eq (zu_call_at (zt_T n) (zm_85 n) (zdp_85 n) _ _ _ _ _ rfl (zr_85_0 n _ _ a0 3 m15)) ?_)
        generalize hmm297 : zu_up m15 a0 4 3 = m297
        have hIm297 := zi_up hmm297 hIm15 hc0 zb_28_4 (by omega) (by omega)
        have hFm297 := zfr_up hmm297 hFm15 hc0 rfl
        have hLm297 := zlo_ne hmm297 hLm15 hc0 (by decide)
        have hRC0m297 := zR_C0_fr (zdis_fr (zfr_up hmm297 (zfr_rf [(28, 5)] _) hc0 rfl) rfl) hRC0m15
        have hRCRm297 := zR_CR_fr (zdis_fr (zfr_up hmm297 (zfr_rf [(28, 5)] _) hc0 rfl) rfl) hRCRm15
        have hRNSm297 := zR_NS_fr (zdis_fr (zfr_up hmm297 (zfr_rf [(28, 5)] _) hc0 rfl) rfl) hRNSm15
        have hRTRm297 := zR_TR_fr (zdis_fr (zfr_up hmm297 (zfr_rf [(28, 5)] _) hc0 rfl) rfl) hRTRm15
        have hRWDm297 := zR_WD_fr (zdis_fr (zfr_up hmm297 (zfr_rf [(28, 5)] _) hc0 rfl) rfl) hRWDm15
        have hRLRm297 := zLR_wr (zone_190 hc0) hmm297 (by decide)
        have r298 : 0 ≤ (m297 a0 10) ∧ (m297 a0 10) ≤ 700 := zi_rd hIm297 hc0 zb_28_10
        generalize hmm299 : zu_up m297 a0 5 (m297 a0 10) = m299
        have hIm299 := zi_up hmm299 hIm297 hc0 zb_28_5 (by omega) (by omega)
        have hFm299 := zfr_up hmm299 hFm297 hc0 rfl
        have hLm299 := zlo_ne hmm299 hLm297 hc0 (by decide)
        have hRC0m299 := zR_C0_fr (zdis_fr (zfr_up hmm299 (zfr_rf [(28, 6)] _) hc0 rfl) rfl) hRC0m297
        have hRCRm299 := zR_CR_fr (zdis_fr (zfr_up hmm299 (zfr_rf [(28, 6)] _) hc0 rfl) rfl) hRCRm297
        have hRLRm299 := zR_LR_fr (zdis_fr (zfr_up hmm299 (zfr_rf [(28, 6)] _) hc0 rfl) rfl) hRLRm297
        have hRNSm299 := zR_NS_fr (zdis_fr (zfr_up hmm299 (zfr_rf [(28, 6)] _) hc0 rfl) rfl) hRNSm297
        have hRTRm299 := zR_TR_fr (zdis_fr (zfr_up hmm299 (zfr_rf [(28, 6)] _) hc0 rfl) rfl) hRTRm297
        have hRWDm299 := zR_WD_fr (zdis_fr (zfr_up hmm299 (zfr_rf [(28, 6)] _) hc0 rfl) rfl) hRWDm297
        refine zw_b (by omega) ?_
        refine zw_some ?_
        refine zw_b (by omega) ?_
        have r300 : 0 ≤ (m299 a0 7) ∧ (m299 a0 7) ≤ 700 := zi_rd hIm299 hc0 zb_28_7
        have e301 : (m299 a0 7) = (m6 a0 7) := (Eq.trans (zs_ne hmm299 (Or.inr (by decide))) (Eq.trans (zs_ne hmm297 (Or.inr (by decide))) (zfr_ap hfm15 hc0 rfl)))
        have r302 : 0 ≤ (m299 a0 8) ∧ (m299 a0 8) ≤ 6 := zi_rd hIm299 hc0 zb_28_8
        have e303 : (m299 a0 8) = (m6 a0 8) := (Eq.trans (zs_ne hmm299 (Or.inr (by decide))) (Eq.trans (zs_ne hmm297 (Or.inr (by decide))) (zfr_ap hfm15 hc0 rfl)))
        have r304 : (-2147483648) ≤ (m299 a0 4) ∧ (m299 a0 4) ≤ 2147483647 := zi_rd hIm299 hc0 zb_28_4
        have e305 : (m299 a0 4) = 3 := (Eq.trans (zs_ne hmm299 (Or.inr (by decide))) (zs_eq hmm297))
        exact zw_some ⟨hIm299, hFm299, hLm299, hRC0m299, hRCRm299, hRLRm299, hRNSm299, hRTRm299, hRWDm299, ⟨by decide, by decide⟩, by omega, fun h => absurd h (by decide), fun h => absurd h (by decide)⟩
    · refine zw_bd (zw_eq (zu_call_at (zt_T n) (zm_85 n) (zdp_85 n) _ _ _ _ _ rfl (zr_85_0 n _ _ a0 1 m6)) ?_)
      generalize hmm306 : zu_up m6 a0 4 1 = m306
      have hIm306 := zi_up hmm306 hIm6 hc0 zb_28_4 (by omega) (by omega)
      have hFm306 := zfr_up hmm306 hFm6 hc0 rfl
      have hLm306 := zlo_ne hmm306 hLm6 hc0 (by decide)
      have hRC0m306 := zR_C0_fr (zdis_fr (zfr_up hmm306 (zfr_rf [(28, 5)] _) hc0 rfl) rfl) hRC0m6
      have hRCRm306 := zR_CR_fr (zdis_fr (zfr_up hmm306 (zfr_rf [(28, 5)] _) hc0 rfl) rfl) hRCRm6
      have hRNSm306 := zR_NS_fr (zdis_fr (zfr_up hmm306 (zfr_rf [(28, 5)] _) hc0 rfl) rfl) hRNSm6
      have hRTRm306 := zR_TR_fr (zdis_fr (zfr_up hmm306 (zfr_rf [(28, 5)] _) hc0 rfl) rfl) hRTRm6
      have hRWDm306 := zR_WD_fr (zdis_fr (zfr_up hmm306 (zfr_rf [(28, 5)] _) hc0 rfl) rfl) hRWDm6
      have hRLRm306 := zLR_wr (zone_190 hc0) hmm306 (by decide)
      have r307 : 0 ≤ (m306 a0 10) ∧ (m306 a0 10) ≤ 700 := zi_rd hIm306 hc0 zb_28_10
      generalize hmm308 : zu_up m306 a0 5 (m306 a0 10) = m308
      have hIm308 := zi_up hmm308 hIm306 hc0 zb_28_5 (by omega) (by omega)
      have hFm308 := zfr_up hmm308 hFm306 hc0 rfl
      have hLm308 := zlo_ne hmm308 hLm306 hc0 (by decide)
      have hRC0m308 := zR_C0_fr (zdis_fr (zfr_up hmm308 (zfr_rf [(28, 6)] _) hc0 rfl) rfl) hRC0m306
      have hRCRm308 := zR_CR_fr (zdis_fr (zfr_up hmm308 (zfr_rf [(28, 6)] _) hc0 rfl) rfl) hRCRm306
      have hRLRm308 := zR_LR_fr (zdis_fr (zfr_up hmm308 (zfr_rf [(28, 6)] _) hc0 rfl) rfl) hRLRm306
      have hRNSm308 := zR_NS_fr (zdis_fr (zfr_up hmm308 (zfr_rf [(28, 6)] _) hc0 rfl) rfl) hRNSm306
      have hRTRm308 := zR_TR_fr (zdis_fr (zfr_up hmm308 (zfr_rf [(28, 6)] _) hc0 rfl) rfl) hRTRm306
      have hRWDm308 := zR_WD_fr (zdis_fr (zfr_up hmm308 (zfr_rf [(28, 6)] _) hc0 rfl) rfl) hRWDm306
      refine zw_b (by omega) ?_
      refine zw_some ?_
      refine zw_b (by omega) ?_
      have r309 : 0 ≤ (m308 a0 7) ∧ (m308 a0 7) ≤ 700 := zi_rd hIm308 hc0 zb_28_7
      have e310 : (m308 a0 7) = (m6 a0 7) := (Eq.trans (zs_ne hmm308 (Or.inr (by decide))) (zs_ne hmm306 (Or.inr (by decide))))
      have r311 : 0 ≤ (m308 a0 8) ∧ (m308 a0 8) ≤ 6 := zi_rd hIm308 hc0 zb_28_8
      have e312 : (m308 a0 8) = (m6 a0 8) := (Eq.trans (zs_ne hmm308 (Or.inr (by decide))) (zs_ne hmm306 (Or.inr (by decide))))
      have r313 : (-2147483648) ≤ (m308 a0 4) ∧ (m308 a0 4) ≤ 2147483647 := zi_rd hIm308 hc0 zb_28_4
      have e314 : (m308 a0 4) = 1 := (Eq.trans (zs_ne hmm308 (Or.inr (by decide))) (zs_eq hmm306))
      exact zw_some ⟨hIm308, hFm308, hLm308, hRC0m308, hRCRm308, hRLRm308, hRNSm308, hRTRm308, hRWDm308, ⟨by decide, by decide⟩, by omega, fun h => absurd h (by decide), fun h => absurd h (by decide)⟩
  · refine zw_bd (zw_eq (zu_call_at (zt_T n) (zm_85 n) (zdp_85 n) _ _ _ _ _ rfl (zr_85_0 n _ _ a0 2 m0)) ?_)
    generalize hmm315 : zu_up m0 a0 4 2 = m315
    have hIm315 := zi_up hmm315 hIm0 hc0 zb_28_4 (by omega) (by omega)
    have hFm315 := zfr_up hmm315 hFm0 hc0 rfl
    have hLm315 := zlo_ne hmm315 hLm0 hc0 (by decide)
    have hRC0m315 := zR_C0_fr (zdis_fr (zfr_up hmm315 (zfr_rf [(28, 5)] _) hc0 rfl) rfl) hRC0m0
    have hRCRm315 := zR_CR_fr (zdis_fr (zfr_up hmm315 (zfr_rf [(28, 5)] _) hc0 rfl) rfl) hRCRm0
    have hRNSm315 := zR_NS_fr (zdis_fr (zfr_up hmm315 (zfr_rf [(28, 5)] _) hc0 rfl) rfl) hRNSm0
    have hRTRm315 := zR_TR_fr (zdis_fr (zfr_up hmm315 (zfr_rf [(28, 5)] _) hc0 rfl) rfl) hRTRm0
    have hRWDm315 := zR_WD_fr (zdis_fr (zfr_up hmm315 (zfr_rf [(28, 5)] _) hc0 rfl) rfl) hRWDm0
    have hRLRm315 := zLR_wr (zone_190 hc0) hmm315 (by decide)
    have r316 : 0 ≤ (m315 a0 10) ∧ (m315 a0 10) ≤ 700 := zi_rd hIm315 hc0 zb_28_10
    generalize hmm317 : zu_up m315 a0 5 (m315 a0 10) = m317
    have hIm317 := zi_up hmm317 hIm315 hc0 zb_28_5 (by omega) (by omega)
    have hFm317 := zfr_up hmm317 hFm315 hc0 rfl
    have hLm317 := zlo_ne hmm317 hLm315 hc0 (by decide)
    have hRC0m317 := zR_C0_fr (zdis_fr (zfr_up hmm317 (zfr_rf [(28, 6)] _) hc0 rfl) rfl) hRC0m315
    have hRCRm317 := zR_CR_fr (zdis_fr (zfr_up hmm317 (zfr_rf [(28, 6)] _) hc0 rfl) rfl) hRCRm315
    have hRLRm317 := zR_LR_fr (zdis_fr (zfr_up hmm317 (zfr_rf [(28, 6)] _) hc0 rfl) rfl) hRLRm315
    have hRNSm317 := zR_NS_fr (zdis_fr (zfr_up hmm317 (zfr_rf [(28, 6)] _) hc0 rfl) rfl) hRNSm315
    have hRTRm317 := zR_TR_fr (zdis_fr (zfr_up hmm317 (zfr_rf [(28, 6)] _) hc0 rfl) rfl) hRTRm315
    have hRWDm317 := zR_WD_fr (zdis_fr (zfr_up hmm317 (zfr_rf [(28, 6)] _) hc0 rfl) rfl) hRWDm315
    refine zw_b (by omega) ?_
    refine zw_some ?_
    refine zw_b (by omega) ?_
    have r318 : 0 ≤ (m317 a0 7) ∧ (m317 a0 7) ≤ 700 := zi_rd hIm317 hc0 zb_28_7
    have e319 : (m317 a0 7) = (m0 a0 7) := (Eq.trans (zs_ne hmm317 (Or.inr (by decide))) (zs_ne hmm315 (Or.inr (by decide))))
    have r320 : 0 ≤ (m317 a0 8) ∧ (m317 a0 8) ≤ 6 := zi_rd hIm317 hc0 zb_28_8
    have e321 : (m317 a0 8) = (m0 a0 8) := (Eq.trans (zs_ne hmm317 (Or.inr (by decide))) (zs_ne hmm315 (Or.inr (by decide))))
    have r322 : (-2147483648) ≤ (m317 a0 4) ∧ (m317 a0 4) ≤ 2147483647 := zi_rd hIm317 hc0 zb_28_4
    have e323 : (m317 a0 4) = 2 := (Eq.trans (zs_ne hmm317 (Or.inr (by decide))) (zs_eq hmm315))
    exact zw_some ⟨hIm317, hFm317, hLm317, hRC0m317, hRCRm317, hRLRm317, hRNSm317, hRTRm317, hRWDm317, ⟨by decide, by decide⟩, by omega, fun h => absurd h (by decide), fun h => absurd h (by decide)⟩
set_option maxHeartbeats 4000000 in
theorem zk_105k (n : Nat) {a0 : Int} {m0 : zu_m} (hIm0 : zi_I m0) (hc0 : zcls a0 = 28)   (he0 : 1 ≤ m0 a0 8 ∧ m0 a0 8 ≤ 6) (hxp0 : (m0 a0 21) = (m0 a0 48)) (hxp1 : (m0 a0 4) = 0) (hRC0m0 : zR_C0 m0) (hRCRm0 : zR_CR m0) (hRKNm0 : zR_KN m0) (hRLRm0 : zR_LR m0) (hRLTm0 : zR_LT m0) (hRNSm0 : zR_NS m0) (hRTRm0 : zR_TR m0) (hRWDm0 : zR_WD m0) : zw (zu_call (zt_T n) 105 [(40, a0)] m0) (fun v m => zi_I m ∧ zfr [(28, 5), (28, 6), (28, 8), (28, 9), (28, 10), (28, 11), (28, 12), (28, 18), (28, 19), (28, 20), (28, 21), (28, 22), (28, 23), (28, 24), (28, 43), (28, 46), (28, 47), (28, 48), (28, 49), (28, 50), (28, 51), (102, 0), (103, 0), (104, 0), (105, 0), (106, 0), (107, 0), (108, 0), (109, 0), (110, 0), (111, 0), (112, 0), (113, 0), (114, 0), (115, 0), (116, 0), (117, 0), (118, 0), (119, 0), (120, 0), (121, 0)] m0 m ∧ zlo m0 m ∧ zR_C0 m ∧ zR_CR m ∧ zR_KN m ∧ zR_LR m ∧ zR_LT m ∧ zR_NS m ∧ zR_TR m ∧ zR_WD m ∧ (0 ≤ v ∧ v ≤ 1) ∧ (v = 1 → (m0 a0 7) < (m a0 7)) ∧ (v = 1 → (m a0 21) = (m a0 48)) ∧ (v = 1 → (m a0 4) = (m0 a0 4))) := by
  have hFm0 : zfr [(28, 5), (28, 6), (28, 8), (28, 9), (28, 10), (28, 11), (28, 12), (28, 18), (28, 19), (28, 20), (28, 21), (28, 22), (28, 23), (28, 24), (28, 43), (28, 46), (28, 47), (28, 48), (28, 49), (28, 50), (28, 51), (102, 0), (103, 0), (104, 0), (105, 0), (106, 0), (107, 0), (108, 0), (109, 0), (110, 0), (111, 0), (112, 0), (113, 0), (114, 0), (115, 0), (116, 0), (117, 0), (118, 0), (119, 0), (120, 0), (121, 0)] m0 m0 := zfr_rf _ _
  have hLm0 : zlo m0 m0 := fun _ _ _ => rfl
  have r1 : 0 ≤ (m0 a0 7) ∧ (m0 a0 7) ≤ 700 := zi_rd hIm0 hc0 zb_28_7
  have r2 : (-2147483648) ≤ (m0 a0 4) ∧ (m0 a0 4) ≤ 2147483647 := zi_rd hIm0 hc0 zb_28_4
  have r3 : 0 ≤ (m0 a0 21) ∧ (m0 a0 21) ≤ 64 := zi_rd hIm0 hc0 zb_28_21
  have r4 : 0 ≤ (m0 a0 48) ∧ (m0 a0 48) ≤ 64 := zi_rd hIm0 hc0 zb_28_48
  have s5 := hRNSm0 a0 hc0
  refine zw_eq (zu_call_at (zt_T n) (zm_105 n) (zdp_105 n) _ _ _ _ _ rfl (zr_105_0 n _ _ a0 m0)) ?_
  refine zw_ite (fun h6 => ?_) (fun h6 => ?_)
  · refine zw_bd (zw_eq (zu_call_at (zt_T n) (zm_85 n) (zdp_85 n) _ _ _ _ _ rfl (zr_85_0 n _ _ a0 1 m0)) ?_)
    generalize hmm8 : zu_up m0 a0 4 1 = m8
    have hIm8 := zi_up hmm8 hIm0 hc0 zb_28_4 (by omega) (by omega)
    have hFm8 := zfr_up hmm8 hFm0 hc0 rfl
    have hLm8 := zlo_ne hmm8 hLm0 hc0 (by decide)
    have hRC0m8 := zR_C0_fr (zdis_fr (zfr_up hmm8 (zfr_rf [(28, 5)] _) hc0 rfl) rfl) hRC0m0
    have hRCRm8 := zR_CR_fr (zdis_fr (zfr_up hmm8 (zfr_rf [(28, 5)] _) hc0 rfl) rfl) hRCRm0
    have hRKNm8 := zR_KN_fr (zdis_fr (zfr_up hmm8 (zfr_rf [(28, 5)] _) hc0 rfl) rfl) hRKNm0
    have hRLTm8 := zR_LT_fr (zdis_fr (zfr_up hmm8 (zfr_rf [(28, 5)] _) hc0 rfl) rfl) hRLTm0
    have hRNSm8 := zR_NS_fr (zdis_fr (zfr_up hmm8 (zfr_rf [(28, 5)] _) hc0 rfl) rfl) hRNSm0
    have hRTRm8 := zR_TR_fr (zdis_fr (zfr_up hmm8 (zfr_rf [(28, 5)] _) hc0 rfl) rfl) hRTRm0
    have hRWDm8 := zR_WD_fr (zdis_fr (zfr_up hmm8 (zfr_rf [(28, 5)] _) hc0 rfl) rfl) hRWDm0
    have hRLRm8 := zLR_wr (zone_190 hc0) hmm8 (by decide)
    have r9 : 0 ≤ (m8 a0 10) ∧ (m8 a0 10) ≤ 700 := zi_rd hIm8 hc0 zb_28_10
    generalize hmm10 : zu_up m8 a0 5 (m8 a0 10) = m10
    have hIm10 := zi_up hmm10 hIm8 hc0 zb_28_5 (by omega) (by omega)
    have hFm10 := zfr_up hmm10 hFm8 hc0 rfl
    have hLm10 := zlo_ne hmm10 hLm8 hc0 (by decide)
    have hRC0m10 := zR_C0_fr (zdis_fr (zfr_up hmm10 (zfr_rf [(28, 6)] _) hc0 rfl) rfl) hRC0m8
    have hRCRm10 := zR_CR_fr (zdis_fr (zfr_up hmm10 (zfr_rf [(28, 6)] _) hc0 rfl) rfl) hRCRm8
    have hRKNm10 := zR_KN_fr (zdis_fr (zfr_up hmm10 (zfr_rf [(28, 6)] _) hc0 rfl) rfl) hRKNm8
    have hRLRm10 := zR_LR_fr (zdis_fr (zfr_up hmm10 (zfr_rf [(28, 6)] _) hc0 rfl) rfl) hRLRm8
    have hRLTm10 := zR_LT_fr (zdis_fr (zfr_up hmm10 (zfr_rf [(28, 6)] _) hc0 rfl) rfl) hRLTm8
    have hRNSm10 := zR_NS_fr (zdis_fr (zfr_up hmm10 (zfr_rf [(28, 6)] _) hc0 rfl) rfl) hRNSm8
    have hRTRm10 := zR_TR_fr (zdis_fr (zfr_up hmm10 (zfr_rf [(28, 6)] _) hc0 rfl) rfl) hRTRm8
    have hRWDm10 := zR_WD_fr (zdis_fr (zfr_up hmm10 (zfr_rf [(28, 6)] _) hc0 rfl) rfl) hRWDm8
    refine zw_b (by omega) ?_
    refine zw_some ?_
    refine zw_b (by omega) ?_
    have r11 : 0 ≤ (m10 a0 7) ∧ (m10 a0 7) ≤ 700 := zi_rd hIm10 hc0 zb_28_7
    have e12 : (m10 a0 7) = (m0 a0 7) := (Eq.trans (zs_ne hmm10 (Or.inr (by decide))) (zs_ne hmm8 (Or.inr (by decide))))
    have r13 : 0 ≤ (m10 a0 21) ∧ (m10 a0 21) ≤ 64 := zi_rd hIm10 hc0 zb_28_21
    have e14 : (m10 a0 21) = (m0 a0 21) := (Eq.trans (zs_ne hmm10 (Or.inr (by decide))) (zs_ne hmm8 (Or.inr (by decide))))
    have r15 : 0 ≤ (m10 a0 48) ∧ (m10 a0 48) ≤ 64 := zi_rd hIm10 hc0 zb_28_48
    have e16 : (m10 a0 48) = (m0 a0 48) := (Eq.trans (zs_ne hmm10 (Or.inr (by decide))) (zs_ne hmm8 (Or.inr (by decide))))
    have r17 : (-2147483648) ≤ (m10 a0 4) ∧ (m10 a0 4) ≤ 2147483647 := zi_rd hIm10 hc0 zb_28_4
    have e18 : (m10 a0 4) = 1 := (Eq.trans (zs_ne hmm10 (Or.inr (by decide))) (zs_eq hmm8))
    exact zw_some ⟨hIm10, hFm10, hLm10, hRC0m10, hRCRm10, hRKNm10, hRLRm10, hRLTm10, hRNSm10, hRTRm10, hRWDm10, ⟨by decide, by decide⟩, fun h => absurd h (by decide), fun h => absurd h (by decide), fun h => absurd h (by decide)⟩
  · have s7 := (hRTRm0 a0 hc0).2.1 (by omega)
    refine zw_ite (fun h19 => ?_) (fun h19 => ?_)
    · refine zw_ite (fun h20 => ?_) (fun h20 => ?_)
      · refine zw_ite (fun h21 => ?_) (fun h21 => ?_)
        · refine zw_ite (fun h22 => ?_) (fun h22 => ?_)
          · refine zw_ite (fun h23 => ?_) (fun h23 => ?_)
            · refine zw_ite (fun h24 => ?_) (fun h24 => ?_)
              · refine zw_bd (zw_mono (zk_104 n hIm0 hc0 ⟨by omega, by omega⟩ hRLRm0 hRNSm0 hRTRm0 hRWDm0) (fun v26 m25 hqm25 => ?_))
                obtain ⟨hIm25, hfm25, hvm25⟩ := hqm25
                have hFm25 := zfr_tr hFm0 hfm25 rfl
                have hLm25 := zlo_tr hLm0 (zlo_fr hfm25 rfl)
                obtain ⟨hRLRm25, hRNSm25, hRTRm25, hRWDm25, hvm25⟩ := hvm25
                have hRC0m25 := zR_C0_fr (zdis_fr hfm25 rfl) hRC0m0
                have hRCRm25 := zR_CR_fr (zdis_fr hfm25 rfl) hRCRm0
                have hRKNm25 := zR_KN_fr (zdis_fr hfm25 rfl) hRKNm0
                have hRLTm25 := zR_LT_fr (zdis_fr hfm25 rfl) hRLTm0
                have s27 := hRNSm25 a0 hc0
                have r28 : 0 ≤ (m25 a0 7) ∧ (m25 a0 7) ≤ 700 := zi_rd hIm25 hc0 zb_28_7
                have r29 : 0 ≤ (m25 a0 8) ∧ (m25 a0 8) ≤ 6 := zi_rd hIm25 hc0 zb_28_8
                have r30 : (-2147483648) ≤ (m25 a0 4) ∧ (m25 a0 4) ≤ 2147483647 := zi_rd hIm25 hc0 zb_28_4
                have y31 := (hvm25.1)
                have y32 := (hvm25.2.1)
                have y33 := zhid_mk (hvm25.2.2.1)
                have y34 := zhid_mk (hvm25.2.2.2)
                clear hvm25
                refine zw_ite (fun h35 => ?_) (fun h35 => ?_)
                · have s36 := (zhid_of y33) (by omega)
                  have s37 := (zhid_of y34) (by omega)
                  refine zw_bd (zw_eq (zu_call_at (zt_T n) (zm_93 n) (zdp_93 n) _ _ _ _ _ rfl (zr_93_0 n _ _ a0 59 m25)) ?_)
                  refine zw_ite (fun h38 => ?_) (fun h38 => ?_)
                  · refine zw_b (by omega) ?_
                    refine zw_some ?_
                    refine zw_ite (fun h39 => ?_) (fun h39 => ?_)
                    · exfalso; omega
                    · refine zw_bd (zw_eq (zu_call_at (zt_T n) (zm_85 n) (zdp_85 n) _ _ _ _ _ rfl (zr_85_0 n _ _ a0 1 m25)) ?_)
                      generalize hmm40 : zu_up m25 a0 4 1 = m40
                      have hIm40 := zi_up hmm40 hIm25 hc0 zb_28_4 (by omega) (by omega)
                      have hFm40 := zfr_up hmm40 hFm25 hc0 rfl
                      have hLm40 := zlo_ne hmm40 hLm25 hc0 (by decide)
                      have hRC0m40 := zR_C0_fr (zdis_fr (zfr_up hmm40 (zfr_rf [(28, 5)] _) hc0 rfl) rfl) hRC0m25
                      have hRCRm40 := zR_CR_fr (zdis_fr (zfr_up hmm40 (zfr_rf [(28, 5)] _) hc0 rfl) rfl) hRCRm25
                      have hRKNm40 := zR_KN_fr (zdis_fr (zfr_up hmm40 (zfr_rf [(28, 5)] _) hc0 rfl) rfl) hRKNm25
                      have hRLTm40 := zR_LT_fr (zdis_fr (zfr_up hmm40 (zfr_rf [(28, 5)] _) hc0 rfl) rfl) hRLTm25
                      have hRNSm40 := zR_NS_fr (zdis_fr (zfr_up hmm40 (zfr_rf [(28, 5)] _) hc0 rfl) rfl) hRNSm25
                      have hRTRm40 := zR_TR_fr (zdis_fr (zfr_up hmm40 (zfr_rf [(28, 5)] _) hc0 rfl) rfl) hRTRm25
                      have hRWDm40 := zR_WD_fr (zdis_fr (zfr_up hmm40 (zfr_rf [(28, 5)] _) hc0 rfl) rfl) hRWDm25
                      have hRLRm40 := zLR_wr (zone_190 hc0) hmm40 (by decide)
                      have r41 : 0 ≤ (m40 a0 10) ∧ (m40 a0 10) ≤ 700 := zi_rd hIm40 hc0 zb_28_10
                      generalize hmm42 : zu_up m40 a0 5 (m40 a0 10) = m42
                      have hIm42 := zi_up hmm42 hIm40 hc0 zb_28_5 (by omega) (by omega)
                      have hFm42 := zfr_up hmm42 hFm40 hc0 rfl
                      have hLm42 := zlo_ne hmm42 hLm40 hc0 (by decide)
                      have hRC0m42 := zR_C0_fr (zdis_fr (zfr_up hmm42 (zfr_rf [(28, 6)] _) hc0 rfl) rfl) hRC0m40
                      have hRCRm42 := zR_CR_fr (zdis_fr (zfr_up hmm42 (zfr_rf [(28, 6)] _) hc0 rfl) rfl) hRCRm40
                      have hRKNm42 := zR_KN_fr (zdis_fr (zfr_up hmm42 (zfr_rf [(28, 6)] _) hc0 rfl) rfl) hRKNm40
                      have hRLRm42 := zR_LR_fr (zdis_fr (zfr_up hmm42 (zfr_rf [(28, 6)] _) hc0 rfl) rfl) hRLRm40
                      have hRLTm42 := zR_LT_fr (zdis_fr (zfr_up hmm42 (zfr_rf [(28, 6)] _) hc0 rfl) rfl) hRLTm40
                      have hRNSm42 := zR_NS_fr (zdis_fr (zfr_up hmm42 (zfr_rf [(28, 6)] _) hc0 rfl) rfl) hRNSm40
                      have hRTRm42 := zR_TR_fr (zdis_fr (zfr_up hmm42 (zfr_rf [(28, 6)] _) hc0 rfl) rfl) hRTRm40
                      have hRWDm42 := zR_WD_fr (zdis_fr (zfr_up hmm42 (zfr_rf [(28, 6)] _) hc0 rfl) rfl) hRWDm40
                      refine zw_b (by omega) ?_
                      refine zw_some ?_
                      refine zw_b (by omega) ?_
                      have r43 : 0 ≤ (m42 a0 7) ∧ (m42 a0 7) ≤ 700 := zi_rd hIm42 hc0 zb_28_7
                      have e44 : (m42 a0 7) = (m25 a0 7) := (Eq.trans (zs_ne hmm42 (Or.inr (by decide))) (zs_ne hmm40 (Or.inr (by decide))))
                      have r45 : 0 ≤ (m42 a0 21) ∧ (m42 a0 21) ≤ 64 := zi_rd hIm42 hc0 zb_28_21
                      have e46 : (m42 a0 21) = (m0 a0 21) := (Eq.trans (zs_ne hmm42 (Or.inr (by decide))) (Eq.trans (zs_ne hmm40 (Or.inr (by decide))) (zfr_ap hfm25 hc0 rfl)))
                      have r47 : 0 ≤ (m42 a0 48) ∧ (m42 a0 48) ≤ 64 := zi_rd hIm42 hc0 zb_28_48
                      have e48 : (m42 a0 48) = (m0 a0 48) := (Eq.trans (zs_ne hmm42 (Or.inr (by decide))) (Eq.trans (zs_ne hmm40 (Or.inr (by decide))) (zfr_ap hfm25 hc0 rfl)))
                      have r49 : (-2147483648) ≤ (m42 a0 4) ∧ (m42 a0 4) ≤ 2147483647 := zi_rd hIm42 hc0 zb_28_4
                      have e50 : (m42 a0 4) = 1 := (Eq.trans (zs_ne hmm42 (Or.inr (by decide))) (zs_eq hmm40))
                      exact zw_some ⟨hIm42, hFm42, hLm42, hRC0m42, hRCRm42, hRKNm42, hRLRm42, hRLTm42, hRNSm42, hRTRm42, hRWDm42, ⟨by decide, by decide⟩, fun h => absurd h (by decide), fun h => absurd h (by decide), fun h => absurd h (by decide)⟩
                  · have r51 : (-2147483648) ≤ (m25 a0 9) ∧ (m25 a0 9) ≤ 2147483647 := zi_rd hIm25 hc0 zb_28_9
                    refine zw_ite (fun h52 => ?_) (fun h52 => ?_)
                    · refine zw_b (by omega) ?_
                      refine zw_some ?_
                      refine zw_ite (fun h53 => ?_) (fun h53 => ?_)
                      · exfalso; omega
                      · refine zw_bd (zw_eq (zu_call_at (zt_T n) (zm_85 n) (zdp_85 n) _ _ _ _ _ rfl (zr_85_0 n _ _ a0 1 m25)) ?_)
                        generalize hmm54 : zu_up m25 a0 4 1 = m54
                        have hIm54 := zi_up hmm54 hIm25 hc0 zb_28_4 (by omega) (by omega)
                        have hFm54 := zfr_up hmm54 hFm25 hc0 rfl
                        have hLm54 := zlo_ne hmm54 hLm25 hc0 (by decide)
                        have hRC0m54 := zR_C0_fr (zdis_fr (zfr_up hmm54 (zfr_rf [(28, 5)] _) hc0 rfl) rfl) hRC0m25
                        have hRCRm54 := zR_CR_fr (zdis_fr (zfr_up hmm54 (zfr_rf [(28, 5)] _) hc0 rfl) rfl) hRCRm25
                        have hRKNm54 := zR_KN_fr (zdis_fr (zfr_up hmm54 (zfr_rf [(28, 5)] _) hc0 rfl) rfl) hRKNm25
                        have hRLTm54 := zR_LT_fr (zdis_fr (zfr_up hmm54 (zfr_rf [(28, 5)] _) hc0 rfl) rfl) hRLTm25
                        have hRNSm54 := zR_NS_fr (zdis_fr (zfr_up hmm54 (zfr_rf [(28, 5)] _) hc0 rfl) rfl) hRNSm25
                        have hRTRm54 := zR_TR_fr (zdis_fr (zfr_up hmm54 (zfr_rf [(28, 5)] _) hc0 rfl) rfl) hRTRm25
                        have hRWDm54 := zR_WD_fr (zdis_fr (zfr_up hmm54 (zfr_rf [(28, 5)] _) hc0 rfl) rfl) hRWDm25
                        have hRLRm54 := zLR_wr (zone_190 hc0) hmm54 (by decide)
                        have r55 : 0 ≤ (m54 a0 10) ∧ (m54 a0 10) ≤ 700 := zi_rd hIm54 hc0 zb_28_10
                        generalize hmm56 : zu_up m54 a0 5 (m54 a0 10) = m56
                        have hIm56 := zi_up hmm56 hIm54 hc0 zb_28_5 (by omega) (by omega)
                        have hFm56 := zfr_up hmm56 hFm54 hc0 rfl
                        have hLm56 := zlo_ne hmm56 hLm54 hc0 (by decide)
                        have hRC0m56 := zR_C0_fr (zdis_fr (zfr_up hmm56 (zfr_rf [(28, 6)] _) hc0 rfl) rfl) hRC0m54
                        have hRCRm56 := zR_CR_fr (zdis_fr (zfr_up hmm56 (zfr_rf [(28, 6)] _) hc0 rfl) rfl) hRCRm54
                        have hRKNm56 := zR_KN_fr (zdis_fr (zfr_up hmm56 (zfr_rf [(28, 6)] _) hc0 rfl) rfl) hRKNm54
                        have hRLRm56 := zR_LR_fr (zdis_fr (zfr_up hmm56 (zfr_rf [(28, 6)] _) hc0 rfl) rfl) hRLRm54
                        have hRLTm56 := zR_LT_fr (zdis_fr (zfr_up hmm56 (zfr_rf [(28, 6)] _) hc0 rfl) rfl) hRLTm54
                        have hRNSm56 := zR_NS_fr (zdis_fr (zfr_up hmm56 (zfr_rf [(28, 6)] _) hc0 rfl) rfl) hRNSm54
                        have hRTRm56 := zR_TR_fr (zdis_fr (zfr_up hmm56 (zfr_rf [(28, 6)] _) hc0 rfl) rfl) hRTRm54
                        have hRWDm56 := zR_WD_fr (zdis_fr (zfr_up hmm56 (zfr_rf [(28, 6)] _) hc0 rfl) rfl) hRWDm54
                        refine zw_b (by omega) ?_
                        refine zw_some ?_
                        refine zw_b (by omega) ?_
                        have r57 : 0 ≤ (m56 a0 7) ∧ (m56 a0 7) ≤ 700 := zi_rd hIm56 hc0 zb_28_7
                        have e58 : (m56 a0 7) = (m25 a0 7) := (Eq.trans (zs_ne hmm56 (Or.inr (by decide))) (zs_ne hmm54 (Or.inr (by decide))))
                        have r59 : 0 ≤ (m56 a0 21) ∧ (m56 a0 21) ≤ 64 := zi_rd hIm56 hc0 zb_28_21
                        have e60 : (m56 a0 21) = (m0 a0 21) := (Eq.trans (zs_ne hmm56 (Or.inr (by decide))) (Eq.trans (zs_ne hmm54 (Or.inr (by decide))) (zfr_ap hfm25 hc0 rfl)))
                        have r61 : 0 ≤ (m56 a0 48) ∧ (m56 a0 48) ≤ 64 := zi_rd hIm56 hc0 zb_28_48
                        have e62 : (m56 a0 48) = (m0 a0 48) := (Eq.trans (zs_ne hmm56 (Or.inr (by decide))) (Eq.trans (zs_ne hmm54 (Or.inr (by decide))) (zfr_ap hfm25 hc0 rfl)))
                        have r63 : (-2147483648) ≤ (m56 a0 4) ∧ (m56 a0 4) ≤ 2147483647 := zi_rd hIm56 hc0 zb_28_4
                        have e64 : (m56 a0 4) = 1 := (Eq.trans (zs_ne hmm56 (Or.inr (by decide))) (zs_eq hmm54))
                        exact zw_some ⟨hIm56, hFm56, hLm56, hRC0m56, hRCRm56, hRKNm56, hRLRm56, hRLTm56, hRNSm56, hRTRm56, hRWDm56, ⟨by decide, by decide⟩, fun h => absurd h (by decide), fun h => absurd h (by decide), fun h => absurd h (by decide)⟩
                    · refine zw_b (by omega) ?_
                      refine zw_some ?_
                      refine zw_ite (fun h65 => ?_) (fun h65 => ?_)
                      · refine zw_bd (zw_mono (zk_89 n hIm25 hc0 hRNSm25 hRWDm25) (fun v67 m66 hqm66 => ?_))
                        obtain ⟨hIm66, hfm66, hvm66⟩ := hqm66
                        have hFm66 := zfr_tr hFm25 hfm66 rfl
                        have hLm66 := zlo_tr hLm25 (zlo_fr hfm66 rfl)
                        obtain ⟨hRNSm66, hRTRm66, hRWDm66, hvm66⟩ := hvm66
                        have hRC0m66 := zR_C0_fr (zdis_fr hfm66 rfl) hRC0m25
                        have hRCRm66 := zR_CR_fr (zdis_fr hfm66 rfl) hRCRm25
                        have hRKNm66 := zR_KN_fr (zdis_fr hfm66 rfl) hRKNm25
                        have hRLRm66 := zR_LR_fr (zdis_fr hfm66 rfl) hRLRm25
                        have hRLTm66 := zR_LT_fr (zdis_fr hfm66 rfl) hRLTm25
                        have s68 := hRNSm66 a0 hc0
                        have r69 : 0 ≤ (m66 a0 7) ∧ (m66 a0 7) ≤ 700 := zi_rd hIm66 hc0 zb_28_7
                        have r70 : 0 ≤ (m66 a0 8) ∧ (m66 a0 8) ≤ 6 := zi_rd hIm66 hc0 zb_28_8
                        refine zw_b (by omega) ?_
                        have r71 : 0 ≤ (m66 a0 21) ∧ (m66 a0 21) ≤ 64 := zi_rd hIm66 hc0 zb_28_21
                        have e72 : (m66 a0 21) = (m0 a0 21) := (Eq.trans (zfr_ap hfm66 hc0 rfl) (zfr_ap hfm25 hc0 rfl))
                        have r73 : 0 ≤ (m66 a0 48) ∧ (m66 a0 48) ≤ 64 := zi_rd hIm66 hc0 zb_28_48
                        have e74 : (m66 a0 48) = (m0 a0 48) := (Eq.trans (zfr_ap hfm66 hc0 rfl) (zfr_ap hfm25 hc0 rfl))
                        have r75 : (-2147483648) ≤ (m66 a0 4) ∧ (m66 a0 4) ≤ 2147483647 := zi_rd hIm66 hc0 zb_28_4
                        have e76 : (m66 a0 4) = (m25 a0 4) := (zfr_ap hfm66 hc0 rfl)
                        exact zw_some ⟨hIm66, hFm66, hLm66, hRC0m66, hRCRm66, hRKNm66, hRLRm66, hRLTm66, hRNSm66, hRTRm66, hRWDm66, ⟨by decide, by decide⟩, fun _ => by omega, fun _ => by omega, fun _ => by omega⟩
                      · exfalso; omega
                · refine zw_b (by omega) ?_
                  have r77 : 0 ≤ (m25 a0 21) ∧ (m25 a0 21) ≤ 64 := zi_rd hIm25 hc0 zb_28_21
                  have e78 : (m25 a0 21) = (m0 a0 21) := (zfr_ap hfm25 hc0 rfl)
                  have r79 : 0 ≤ (m25 a0 48) ∧ (m25 a0 48) ≤ 64 := zi_rd hIm25 hc0 zb_28_48
                  have e80 : (m25 a0 48) = (m0 a0 48) := (zfr_ap hfm25 hc0 rfl)
                  exact zw_some ⟨hIm25, hFm25, hLm25, hRC0m25, hRCRm25, hRKNm25, hRLRm25, hRLTm25, hRNSm25, hRTRm25, hRWDm25, ⟨by decide, by decide⟩, fun h => absurd h (by decide), fun h => absurd h (by decide), fun h => absurd h (by decide)⟩
              · refine zw_bd (zw_mono (zk_103 n hIm0 hc0 ⟨by omega, by omega⟩ ⟨by omega, by omega⟩ (by omega) (by omega) hRKNm0 hRLRm0 hRLTm0 hRNSm0 hRTRm0 hRWDm0) (fun v82 m81 hqm81 => ?_))
                obtain ⟨hIm81, hfm81, hvm81⟩ := hqm81
                have hFm81 := zfr_tr hFm0 hfm81 rfl
                have hLm81 := zlo_tr hLm0 (zlo_fr hfm81 rfl)
                obtain ⟨hRKNm81, hRLRm81, hRLTm81, hRNSm81, hRTRm81, hRWDm81, hvm81⟩ := hvm81
                have hRC0m81 := zR_C0_fr (zdis_fr hfm81 rfl) hRC0m0
                have hRCRm81 := zR_CR_fr (zdis_fr hfm81 rfl) hRCRm0
                have s83 := hRNSm81 a0 hc0
                have r84 : 0 ≤ (m81 a0 7) ∧ (m81 a0 7) ≤ 700 := zi_rd hIm81 hc0 zb_28_7
                have r85 : 0 ≤ (m81 a0 8) ∧ (m81 a0 8) ≤ 6 := zi_rd hIm81 hc0 zb_28_8
                have r86 : 0 ≤ (m81 a0 21) ∧ (m81 a0 21) ≤ 64 := zi_rd hIm81 hc0 zb_28_21
                have r87 : 0 ≤ (m81 a0 48) ∧ (m81 a0 48) ≤ 64 := zi_rd hIm81 hc0 zb_28_48
                have r88 : (-2147483648) ≤ (m81 a0 4) ∧ (m81 a0 4) ≤ 2147483647 := zi_rd hIm81 hc0 zb_28_4
                have y89 := (hvm81.1)
                have y90 := (hvm81.2.1)
                have y91 := zhid_mk (hvm81.2.2.1)
                have y92 := zhid_mk (hvm81.2.2.2.1)
                have y93 := zhid_mk (hvm81.2.2.2.2)
                clear hvm81
                refine zw_ite (fun h94 => ?_) (fun h94 => ?_)
                · have s95 := (zhid_of y91) (by omega)
                  have s96 := (zhid_of y92) (by omega)
                  have s97 := (zhid_of y93) (by omega)
                  refine zw_bd (zw_eq (zu_call_at (zt_T n) (zm_93 n) (zdp_93 n) _ _ _ _ _ rfl (zr_93_0 n _ _ a0 59 m81)) ?_)
                  refine zw_ite (fun h98 => ?_) (fun h98 => ?_)
                  · refine zw_b (by omega) ?_
                    refine zw_some ?_
                    refine zw_ite (fun h99 => ?_) (fun h99 => ?_)
                    · exfalso; omega
                    · refine zw_bd (zw_eq (zu_call_at (zt_T n) (zm_85 n) (zdp_85 n) _ _ _ _ _ rfl (zr_85_0 n _ _ a0 1 m81)) ?_)
                      generalize hmm100 : zu_up m81 a0 4 1 = m100
                      have hIm100 := zi_up hmm100 hIm81 hc0 zb_28_4 (by omega) (by omega)
                      have hFm100 := zfr_up hmm100 hFm81 hc0 rfl
                      have hLm100 := zlo_ne hmm100 hLm81 hc0 (by decide)
                      have hRC0m100 := zR_C0_fr (zdis_fr (zfr_up hmm100 (zfr_rf [(28, 5)] _) hc0 rfl) rfl) hRC0m81
                      have hRCRm100 := zR_CR_fr (zdis_fr (zfr_up hmm100 (zfr_rf [(28, 5)] _) hc0 rfl) rfl) hRCRm81
                      have hRKNm100 := zR_KN_fr (zdis_fr (zfr_up hmm100 (zfr_rf [(28, 5)] _) hc0 rfl) rfl) hRKNm81
                      have hRLTm100 := zR_LT_fr (zdis_fr (zfr_up hmm100 (zfr_rf [(28, 5)] _) hc0 rfl) rfl) hRLTm81
                      have hRNSm100 := zR_NS_fr (zdis_fr (zfr_up hmm100 (zfr_rf [(28, 5)] _) hc0 rfl) rfl) hRNSm81
                      have hRTRm100 := zR_TR_fr (zdis_fr (zfr_up hmm100 (zfr_rf [(28, 5)] _) hc0 rfl) rfl) hRTRm81
                      have hRWDm100 := zR_WD_fr (zdis_fr (zfr_up hmm100 (zfr_rf [(28, 5)] _) hc0 rfl) rfl) hRWDm81
                      have hRLRm100 := zLR_wr (zone_190 hc0) hmm100 (by decide)
                      have r101 : 0 ≤ (m100 a0 10) ∧ (m100 a0 10) ≤ 700 := zi_rd hIm100 hc0 zb_28_10
                      generalize hmm102 : zu_up m100 a0 5 (m100 a0 10) = m102
                      have hIm102 := zi_up hmm102 hIm100 hc0 zb_28_5 (by omega) (by omega)
                      have hFm102 := zfr_up hmm102 hFm100 hc0 rfl
                      have hLm102 := zlo_ne hmm102 hLm100 hc0 (by decide)
                      have hRC0m102 := zR_C0_fr (zdis_fr (zfr_up hmm102 (zfr_rf [(28, 6)] _) hc0 rfl) rfl) hRC0m100
                      have hRCRm102 := zR_CR_fr (zdis_fr (zfr_up hmm102 (zfr_rf [(28, 6)] _) hc0 rfl) rfl) hRCRm100
                      have hRKNm102 := zR_KN_fr (zdis_fr (zfr_up hmm102 (zfr_rf [(28, 6)] _) hc0 rfl) rfl) hRKNm100
                      have hRLRm102 := zR_LR_fr (zdis_fr (zfr_up hmm102 (zfr_rf [(28, 6)] _) hc0 rfl) rfl) hRLRm100
                      have hRLTm102 := zR_LT_fr (zdis_fr (zfr_up hmm102 (zfr_rf [(28, 6)] _) hc0 rfl) rfl) hRLTm100
                      have hRNSm102 := zR_NS_fr (zdis_fr (zfr_up hmm102 (zfr_rf [(28, 6)] _) hc0 rfl) rfl) hRNSm100
                      have hRTRm102 := zR_TR_fr (zdis_fr (zfr_up hmm102 (zfr_rf [(28, 6)] _) hc0 rfl) rfl) hRTRm100
                      have hRWDm102 := zR_WD_fr (zdis_fr (zfr_up hmm102 (zfr_rf [(28, 6)] _) hc0 rfl) rfl) hRWDm100
                      refine zw_b (by omega) ?_
                      refine zw_some ?_
                      refine zw_b (by omega) ?_
                      have r103 : 0 ≤ (m102 a0 7) ∧ (m102 a0 7) ≤ 700 := zi_rd hIm102 hc0 zb_28_7
                      have e104 : (m102 a0 7) = (m81 a0 7) := (Eq.trans (zs_ne hmm102 (Or.inr (by decide))) (zs_ne hmm100 (Or.inr (by decide))))
                      have r105 : 0 ≤ (m102 a0 21) ∧ (m102 a0 21) ≤ 64 := zi_rd hIm102 hc0 zb_28_21
                      have e106 : (m102 a0 21) = (m81 a0 21) := (Eq.trans (zs_ne hmm102 (Or.inr (by decide))) (zs_ne hmm100 (Or.inr (by decide))))
                      have r107 : 0 ≤ (m102 a0 48) ∧ (m102 a0 48) ≤ 64 := zi_rd hIm102 hc0 zb_28_48
                      have e108 : (m102 a0 48) = (m81 a0 48) := (Eq.trans (zs_ne hmm102 (Or.inr (by decide))) (zs_ne hmm100 (Or.inr (by decide))))
                      have r109 : (-2147483648) ≤ (m102 a0 4) ∧ (m102 a0 4) ≤ 2147483647 := zi_rd hIm102 hc0 zb_28_4
                      have e110 : (m102 a0 4) = 1 := (Eq.trans (zs_ne hmm102 (Or.inr (by decide))) (zs_eq hmm100))
                      exact zw_some ⟨hIm102, hFm102, hLm102, hRC0m102, hRCRm102, hRKNm102, hRLRm102, hRLTm102, hRNSm102, hRTRm102, hRWDm102, ⟨by decide, by decide⟩, fun h => absurd h (by decide), fun h => absurd h (by decide), fun h => absurd h (by decide)⟩
                  · have r111 : (-2147483648) ≤ (m81 a0 9) ∧ (m81 a0 9) ≤ 2147483647 := zi_rd hIm81 hc0 zb_28_9
                    refine zw_ite (fun h112 => ?_) (fun h112 => ?_)
                    · refine zw_b (by omega) ?_
                      refine zw_some ?_
                      refine zw_ite (fun h113 => ?_) (fun h113 => ?_)
                      · exfalso; omega
                      · refine zw_bd (zw_eq (zu_call_at (zt_T n) (zm_85 n) (zdp_85 n) _ _ _ _ _ rfl (zr_85_0 n _ _ a0 1 m81)) ?_)
                        generalize hmm114 : zu_up m81 a0 4 1 = m114
                        have hIm114 := zi_up hmm114 hIm81 hc0 zb_28_4 (by omega) (by omega)
                        have hFm114 := zfr_up hmm114 hFm81 hc0 rfl
                        have hLm114 := zlo_ne hmm114 hLm81 hc0 (by decide)
                        have hRC0m114 := zR_C0_fr (zdis_fr (zfr_up hmm114 (zfr_rf [(28, 5)] _) hc0 rfl) rfl) hRC0m81
                        have hRCRm114 := zR_CR_fr (zdis_fr (zfr_up hmm114 (zfr_rf [(28, 5)] _) hc0 rfl) rfl) hRCRm81
                        have hRKNm114 := zR_KN_fr (zdis_fr (zfr_up hmm114 (zfr_rf [(28, 5)] _) hc0 rfl) rfl) hRKNm81
                        have hRLTm114 := zR_LT_fr (zdis_fr (zfr_up hmm114 (zfr_rf [(28, 5)] _) hc0 rfl) rfl) hRLTm81
                        have hRNSm114 := zR_NS_fr (zdis_fr (zfr_up hmm114 (zfr_rf [(28, 5)] _) hc0 rfl) rfl) hRNSm81
                        have hRTRm114 := zR_TR_fr (zdis_fr (zfr_up hmm114 (zfr_rf [(28, 5)] _) hc0 rfl) rfl) hRTRm81
                        have hRWDm114 := zR_WD_fr (zdis_fr (zfr_up hmm114 (zfr_rf [(28, 5)] _) hc0 rfl) rfl) hRWDm81
                        have hRLRm114 := zLR_wr (zone_190 hc0) hmm114 (by decide)
                        have r115 : 0 ≤ (m114 a0 10) ∧ (m114 a0 10) ≤ 700 := zi_rd hIm114 hc0 zb_28_10
                        generalize hmm116 : zu_up m114 a0 5 (m114 a0 10) = m116
                        have hIm116 := zi_up hmm116 hIm114 hc0 zb_28_5 (by omega) (by omega)
                        have hFm116 := zfr_up hmm116 hFm114 hc0 rfl
                        have hLm116 := zlo_ne hmm116 hLm114 hc0 (by decide)
                        have hRC0m116 := zR_C0_fr (zdis_fr (zfr_up hmm116 (zfr_rf [(28, 6)] _) hc0 rfl) rfl) hRC0m114
                        have hRCRm116 := zR_CR_fr (zdis_fr (zfr_up hmm116 (zfr_rf [(28, 6)] _) hc0 rfl) rfl) hRCRm114
                        have hRKNm116 := zR_KN_fr (zdis_fr (zfr_up hmm116 (zfr_rf [(28, 6)] _) hc0 rfl) rfl) hRKNm114
                        have hRLRm116 := zR_LR_fr (zdis_fr (zfr_up hmm116 (zfr_rf [(28, 6)] _) hc0 rfl) rfl) hRLRm114
                        have hRLTm116 := zR_LT_fr (zdis_fr (zfr_up hmm116 (zfr_rf [(28, 6)] _) hc0 rfl) rfl) hRLTm114
                        have hRNSm116 := zR_NS_fr (zdis_fr (zfr_up hmm116 (zfr_rf [(28, 6)] _) hc0 rfl) rfl) hRNSm114
                        have hRTRm116 := zR_TR_fr (zdis_fr (zfr_up hmm116 (zfr_rf [(28, 6)] _) hc0 rfl) rfl) hRTRm114
                        have hRWDm116 := zR_WD_fr (zdis_fr (zfr_up hmm116 (zfr_rf [(28, 6)] _) hc0 rfl) rfl) hRWDm114
                        refine zw_b (by omega) ?_
                        refine zw_some ?_
                        refine zw_b (by omega) ?_
                        have r117 : 0 ≤ (m116 a0 7) ∧ (m116 a0 7) ≤ 700 := zi_rd hIm116 hc0 zb_28_7
                        have e118 : (m116 a0 7) = (m81 a0 7) := (Eq.trans (zs_ne hmm116 (Or.inr (by decide))) (zs_ne hmm114 (Or.inr (by decide))))
                        have r119 : 0 ≤ (m116 a0 21) ∧ (m116 a0 21) ≤ 64 := zi_rd hIm116 hc0 zb_28_21
                        have e120 : (m116 a0 21) = (m81 a0 21) := (Eq.trans (zs_ne hmm116 (Or.inr (by decide))) (zs_ne hmm114 (Or.inr (by decide))))
                        have r121 : 0 ≤ (m116 a0 48) ∧ (m116 a0 48) ≤ 64 := zi_rd hIm116 hc0 zb_28_48
                        have e122 : (m116 a0 48) = (m81 a0 48) := (Eq.trans (zs_ne hmm116 (Or.inr (by decide))) (zs_ne hmm114 (Or.inr (by decide))))
                        have r123 : (-2147483648) ≤ (m116 a0 4) ∧ (m116 a0 4) ≤ 2147483647 := zi_rd hIm116 hc0 zb_28_4
                        have e124 : (m116 a0 4) = 1 := (Eq.trans (zs_ne hmm116 (Or.inr (by decide))) (zs_eq hmm114))
                        exact zw_some ⟨hIm116, hFm116, hLm116, hRC0m116, hRCRm116, hRKNm116, hRLRm116, hRLTm116, hRNSm116, hRTRm116, hRWDm116, ⟨by decide, by decide⟩, fun h => absurd h (by decide), fun h => absurd h (by decide), fun h => absurd h (by decide)⟩
                    · refine zw_b (by omega) ?_
                      refine zw_some ?_
                      refine zw_ite (fun h125 => ?_) (fun h125 => ?_)
                      · refine zw_bd (zw_mono (zk_89 n hIm81 hc0 hRNSm81 hRWDm81) (fun v127 m126 hqm126 => ?_))
                        obtain ⟨hIm126, hfm126, hvm126⟩ := hqm126
                        have hFm126 := zfr_tr hFm81 hfm126 rfl
                        have hLm126 := zlo_tr hLm81 (zlo_fr hfm126 rfl)
                        obtain ⟨hRNSm126, hRTRm126, hRWDm126, hvm126⟩ := hvm126
                        have hRC0m126 := zR_C0_fr (zdis_fr hfm126 rfl) hRC0m81
                        have hRCRm126 := zR_CR_fr (zdis_fr hfm126 rfl) hRCRm81
                        have hRKNm126 := zR_KN_fr (zdis_fr hfm126 rfl) hRKNm81
                        have hRLRm126 := zR_LR_fr (zdis_fr hfm126 rfl) hRLRm81
                        have hRLTm126 := zR_LT_fr (zdis_fr hfm126 rfl) hRLTm81
                        have s128 := hRNSm126 a0 hc0
                        have r129 : 0 ≤ (m126 a0 7) ∧ (m126 a0 7) ≤ 700 := zi_rd hIm126 hc0 zb_28_7
                        have r130 : 0 ≤ (m126 a0 8) ∧ (m126 a0 8) ≤ 6 := zi_rd hIm126 hc0 zb_28_8
                        refine zw_b (by omega) ?_
                        have r131 : 0 ≤ (m126 a0 21) ∧ (m126 a0 21) ≤ 64 := zi_rd hIm126 hc0 zb_28_21
                        have e132 : (m126 a0 21) = (m81 a0 21) := (zfr_ap hfm126 hc0 rfl)
                        have r133 : 0 ≤ (m126 a0 48) ∧ (m126 a0 48) ≤ 64 := zi_rd hIm126 hc0 zb_28_48
                        have e134 : (m126 a0 48) = (m81 a0 48) := (zfr_ap hfm126 hc0 rfl)
                        have r135 : (-2147483648) ≤ (m126 a0 4) ∧ (m126 a0 4) ≤ 2147483647 := zi_rd hIm126 hc0 zb_28_4
                        have e136 : (m126 a0 4) = (m81 a0 4) := (zfr_ap hfm126 hc0 rfl)
                        exact zw_some ⟨hIm126, hFm126, hLm126, hRC0m126, hRCRm126, hRKNm126, hRLRm126, hRLTm126, hRNSm126, hRTRm126, hRWDm126, ⟨by decide, by decide⟩, fun _ => by omega, fun _ => by omega, fun _ => by omega⟩
                      · exfalso; omega
                · refine zw_b (by omega) ?_
                  exact zw_some ⟨hIm81, hFm81, hLm81, hRC0m81, hRCRm81, hRKNm81, hRLRm81, hRLTm81, hRNSm81, hRTRm81, hRWDm81, ⟨by decide, by decide⟩, fun h => absurd h (by decide), fun h => absurd h (by decide), fun h => absurd h (by decide)⟩
            · refine zw_bd (zw_mono (zk_102k n hIm0 hc0 ⟨by omega, by omega⟩ ⟨by omega, by omega⟩ hRC0m0 hRCRm0 hRLRm0 hRNSm0 hRTRm0 hRWDm0) (fun v138 m137 hqm137 => ?_))
              obtain ⟨hIm137, hfm137, hlm137, hvm137⟩ := hqm137
              have hFm137 := zfr_tr hFm0 hfm137 rfl
              have hLm137 := zlo_tr hLm0 hlm137
              obtain ⟨hRC0m137, hRCRm137, hRLRm137, hRNSm137, hRTRm137, hRWDm137, hvm137⟩ := hvm137
              have hRKNm137 := zR_KN_fr (zdis_fr hfm137 rfl) hRKNm0
              have hRLTm137 := zR_LT_fr (zdis_fr hfm137 rfl) hRLTm0
              have s139 := hRNSm137 a0 hc0
              have r140 : 0 ≤ (m137 a0 7) ∧ (m137 a0 7) ≤ 700 := zi_rd hIm137 hc0 zb_28_7
              have r141 : 0 ≤ (m137 a0 8) ∧ (m137 a0 8) ≤ 6 := zi_rd hIm137 hc0 zb_28_8
              have r142 : (-2147483648) ≤ (m137 a0 4) ∧ (m137 a0 4) ≤ 2147483647 := zi_rd hIm137 hc0 zb_28_4
              have y143 := (hvm137.1)
              have y144 := (hvm137.2.1)
              have y145 := zhid_mk (hvm137.2.2.1)
              have y146 := zhid_mk (hvm137.2.2.2)
              clear hvm137
              refine zw_ite (fun h147 => ?_) (fun h147 => ?_)
              · have s148 := (zhid_of y145) (by omega)
                have s149 := (zhid_of y146) (by omega)
                refine zw_bd (zw_eq (zu_call_at (zt_T n) (zm_93 n) (zdp_93 n) _ _ _ _ _ rfl (zr_93_0 n _ _ a0 59 m137)) ?_)
                refine zw_ite (fun h150 => ?_) (fun h150 => ?_)
                · refine zw_b (by omega) ?_
                  refine zw_some ?_
                  refine zw_ite (fun h151 => ?_) (fun h151 => ?_)
                  · exfalso; omega
                  · refine zw_bd (zw_eq (zu_call_at (zt_T n) (zm_85 n) (zdp_85 n) _ _ _ _ _ rfl (zr_85_0 n _ _ a0 1 m137)) ?_)
                    generalize hmm152 : zu_up m137 a0 4 1 = m152
                    have hIm152 := zi_up hmm152 hIm137 hc0 zb_28_4 (by omega) (by omega)
                    have hFm152 := zfr_up hmm152 hFm137 hc0 rfl
                    have hLm152 := zlo_ne hmm152 hLm137 hc0 (by decide)
                    have hRC0m152 := zR_C0_fr (zdis_fr (zfr_up hmm152 (zfr_rf [(28, 5)] _) hc0 rfl) rfl) hRC0m137
                    have hRCRm152 := zR_CR_fr (zdis_fr (zfr_up hmm152 (zfr_rf [(28, 5)] _) hc0 rfl) rfl) hRCRm137
                    have hRKNm152 := zR_KN_fr (zdis_fr (zfr_up hmm152 (zfr_rf [(28, 5)] _) hc0 rfl) rfl) hRKNm137
                    have hRLTm152 := zR_LT_fr (zdis_fr (zfr_up hmm152 (zfr_rf [(28, 5)] _) hc0 rfl) rfl) hRLTm137
                    have hRNSm152 := zR_NS_fr (zdis_fr (zfr_up hmm152 (zfr_rf [(28, 5)] _) hc0 rfl) rfl) hRNSm137
                    have hRTRm152 := zR_TR_fr (zdis_fr (zfr_up hmm152 (zfr_rf [(28, 5)] _) hc0 rfl) rfl) hRTRm137
                    have hRWDm152 := zR_WD_fr (zdis_fr (zfr_up hmm152 (zfr_rf [(28, 5)] _) hc0 rfl) rfl) hRWDm137
                    have hRLRm152 := zLR_wr (zone_190 hc0) hmm152 (by decide)
                    have r153 : 0 ≤ (m152 a0 10) ∧ (m152 a0 10) ≤ 700 := zi_rd hIm152 hc0 zb_28_10
                    generalize hmm154 : zu_up m152 a0 5 (m152 a0 10) = m154
                    have hIm154 := zi_up hmm154 hIm152 hc0 zb_28_5 (by omega) (by omega)
                    have hFm154 := zfr_up hmm154 hFm152 hc0 rfl
                    have hLm154 := zlo_ne hmm154 hLm152 hc0 (by decide)
                    have hRC0m154 := zR_C0_fr (zdis_fr (zfr_up hmm154 (zfr_rf [(28, 6)] _) hc0 rfl) rfl) hRC0m152
                    have hRCRm154 := zR_CR_fr (zdis_fr (zfr_up hmm154 (zfr_rf [(28, 6)] _) hc0 rfl) rfl) hRCRm152
                    have hRKNm154 := zR_KN_fr (zdis_fr (zfr_up hmm154 (zfr_rf [(28, 6)] _) hc0 rfl) rfl) hRKNm152
                    have hRLRm154 := zR_LR_fr (zdis_fr (zfr_up hmm154 (zfr_rf [(28, 6)] _) hc0 rfl) rfl) hRLRm152
                    have hRLTm154 := zR_LT_fr (zdis_fr (zfr_up hmm154 (zfr_rf [(28, 6)] _) hc0 rfl) rfl) hRLTm152
                    have hRNSm154 := zR_NS_fr (zdis_fr (zfr_up hmm154 (zfr_rf [(28, 6)] _) hc0 rfl) rfl) hRNSm152
                    have hRTRm154 := zR_TR_fr (zdis_fr (zfr_up hmm154 (zfr_rf [(28, 6)] _) hc0 rfl) rfl) hRTRm152
                    have hRWDm154 := zR_WD_fr (zdis_fr (zfr_up hmm154 (zfr_rf [(28, 6)] _) hc0 rfl) rfl) hRWDm152
                    refine zw_b (by omega) ?_
                    refine zw_some ?_
                    refine zw_b (by omega) ?_
                    have r155 : 0 ≤ (m154 a0 7) ∧ (m154 a0 7) ≤ 700 := zi_rd hIm154 hc0 zb_28_7
                    have e156 : (m154 a0 7) = (m137 a0 7) := (Eq.trans (zs_ne hmm154 (Or.inr (by decide))) (zs_ne hmm152 (Or.inr (by decide))))
                    have r157 : 0 ≤ (m154 a0 21) ∧ (m154 a0 21) ≤ 64 := zi_rd hIm154 hc0 zb_28_21
                    have e158 : (m154 a0 21) = (m0 a0 21) := (Eq.trans (zs_ne hmm154 (Or.inr (by decide))) (Eq.trans (zs_ne hmm152 (Or.inr (by decide))) (zfr_ap hfm137 hc0 rfl)))
                    have r159 : 0 ≤ (m154 a0 48) ∧ (m154 a0 48) ≤ 64 := zi_rd hIm154 hc0 zb_28_48
                    have e160 : (m154 a0 48) = (m0 a0 48) := (Eq.trans (zs_ne hmm154 (Or.inr (by decide))) (Eq.trans (zs_ne hmm152 (Or.inr (by decide))) (zfr_ap hfm137 hc0 rfl)))
                    have r161 : (-2147483648) ≤ (m154 a0 4) ∧ (m154 a0 4) ≤ 2147483647 := zi_rd hIm154 hc0 zb_28_4
                    have e162 : (m154 a0 4) = 1 := (Eq.trans (zs_ne hmm154 (Or.inr (by decide))) (zs_eq hmm152))
                    exact zw_some ⟨hIm154, hFm154, hLm154, hRC0m154, hRCRm154, hRKNm154, hRLRm154, hRLTm154, hRNSm154, hRTRm154, hRWDm154, ⟨by decide, by decide⟩, fun h => absurd h (by decide), fun h => absurd h (by decide), fun h => absurd h (by decide)⟩
                · have r163 : (-2147483648) ≤ (m137 a0 9) ∧ (m137 a0 9) ≤ 2147483647 := zi_rd hIm137 hc0 zb_28_9
                  refine zw_ite (fun h164 => ?_) (fun h164 => ?_)
                  · refine zw_b (by omega) ?_
                    refine zw_some ?_
                    refine zw_ite (fun h165 => ?_) (fun h165 => ?_)
                    · exfalso; omega
                    · refine zw_bd (zw_eq (zu_call_at (zt_T n) (zm_85 n) (zdp_85 n) _ _ _ _ _ rfl (zr_85_0 n _ _ a0 1 m137)) ?_)
                      generalize hmm166 : zu_up m137 a0 4 1 = m166
                      have hIm166 := zi_up hmm166 hIm137 hc0 zb_28_4 (by omega) (by omega)
                      have hFm166 := zfr_up hmm166 hFm137 hc0 rfl
                      have hLm166 := zlo_ne hmm166 hLm137 hc0 (by decide)
                      have hRC0m166 := zR_C0_fr (zdis_fr (zfr_up hmm166 (zfr_rf [(28, 5)] _) hc0 rfl) rfl) hRC0m137
                      have hRCRm166 := zR_CR_fr (zdis_fr (zfr_up hmm166 (zfr_rf [(28, 5)] _) hc0 rfl) rfl) hRCRm137
                      have hRKNm166 := zR_KN_fr (zdis_fr (zfr_up hmm166 (zfr_rf [(28, 5)] _) hc0 rfl) rfl) hRKNm137
                      have hRLTm166 := zR_LT_fr (zdis_fr (zfr_up hmm166 (zfr_rf [(28, 5)] _) hc0 rfl) rfl) hRLTm137
                      have hRNSm166 := zR_NS_fr (zdis_fr (zfr_up hmm166 (zfr_rf [(28, 5)] _) hc0 rfl) rfl) hRNSm137
                      have hRTRm166 := zR_TR_fr (zdis_fr (zfr_up hmm166 (zfr_rf [(28, 5)] _) hc0 rfl) rfl) hRTRm137
                      have hRWDm166 := zR_WD_fr (zdis_fr (zfr_up hmm166 (zfr_rf [(28, 5)] _) hc0 rfl) rfl) hRWDm137
                      have hRLRm166 := zLR_wr (zone_190 hc0) hmm166 (by decide)
                      have r167 : 0 ≤ (m166 a0 10) ∧ (m166 a0 10) ≤ 700 := zi_rd hIm166 hc0 zb_28_10
                      generalize hmm168 : zu_up m166 a0 5 (m166 a0 10) = m168
                      have hIm168 := zi_up hmm168 hIm166 hc0 zb_28_5 (by omega) (by omega)
                      have hFm168 := zfr_up hmm168 hFm166 hc0 rfl
                      have hLm168 := zlo_ne hmm168 hLm166 hc0 (by decide)
                      have hRC0m168 := zR_C0_fr (zdis_fr (zfr_up hmm168 (zfr_rf [(28, 6)] _) hc0 rfl) rfl) hRC0m166
                      have hRCRm168 := zR_CR_fr (zdis_fr (zfr_up hmm168 (zfr_rf [(28, 6)] _) hc0 rfl) rfl) hRCRm166
                      have hRKNm168 := zR_KN_fr (zdis_fr (zfr_up hmm168 (zfr_rf [(28, 6)] _) hc0 rfl) rfl) hRKNm166
                      have hRLRm168 := zR_LR_fr (zdis_fr (zfr_up hmm168 (zfr_rf [(28, 6)] _) hc0 rfl) rfl) hRLRm166
                      have hRLTm168 := zR_LT_fr (zdis_fr (zfr_up hmm168 (zfr_rf [(28, 6)] _) hc0 rfl) rfl) hRLTm166
                      have hRNSm168 := zR_NS_fr (zdis_fr (zfr_up hmm168 (zfr_rf [(28, 6)] _) hc0 rfl) rfl) hRNSm166
                      have hRTRm168 := zR_TR_fr (zdis_fr (zfr_up hmm168 (zfr_rf [(28, 6)] _) hc0 rfl) rfl) hRTRm166
                      have hRWDm168 := zR_WD_fr (zdis_fr (zfr_up hmm168 (zfr_rf [(28, 6)] _) hc0 rfl) rfl) hRWDm166
                      refine zw_b (by omega) ?_
                      refine zw_some ?_
                      refine zw_b (by omega) ?_
                      have r169 : 0 ≤ (m168 a0 7) ∧ (m168 a0 7) ≤ 700 := zi_rd hIm168 hc0 zb_28_7
                      have e170 : (m168 a0 7) = (m137 a0 7) := (Eq.trans (zs_ne hmm168 (Or.inr (by decide))) (zs_ne hmm166 (Or.inr (by decide))))
                      have r171 : 0 ≤ (m168 a0 21) ∧ (m168 a0 21) ≤ 64 := zi_rd hIm168 hc0 zb_28_21
                      have e172 : (m168 a0 21) = (m0 a0 21) := (Eq.trans (zs_ne hmm168 (Or.inr (by decide))) (Eq.trans (zs_ne hmm166 (Or.inr (by decide))) (zfr_ap hfm137 hc0 rfl)))
                      have r173 : 0 ≤ (m168 a0 48) ∧ (m168 a0 48) ≤ 64 := zi_rd hIm168 hc0 zb_28_48
                      have e174 : (m168 a0 48) = (m0 a0 48) := (Eq.trans (zs_ne hmm168 (Or.inr (by decide))) (Eq.trans (zs_ne hmm166 (Or.inr (by decide))) (zfr_ap hfm137 hc0 rfl)))
                      have r175 : (-2147483648) ≤ (m168 a0 4) ∧ (m168 a0 4) ≤ 2147483647 := zi_rd hIm168 hc0 zb_28_4
                      have e176 : (m168 a0 4) = 1 := (Eq.trans (zs_ne hmm168 (Or.inr (by decide))) (zs_eq hmm166))
                      exact zw_some ⟨hIm168, hFm168, hLm168, hRC0m168, hRCRm168, hRKNm168, hRLRm168, hRLTm168, hRNSm168, hRTRm168, hRWDm168, ⟨by decide, by decide⟩, fun h => absurd h (by decide), fun h => absurd h (by decide), fun h => absurd h (by decide)⟩
                  · refine zw_b (by omega) ?_
                    refine zw_some ?_
                    refine zw_ite (fun h177 => ?_) (fun h177 => ?_)
                    · refine zw_bd (zw_mono (zk_89 n hIm137 hc0 hRNSm137 hRWDm137) (fun v179 m178 hqm178 => ?_))
                      obtain ⟨hIm178, hfm178, hvm178⟩ := hqm178
                      have hFm178 := zfr_tr hFm137 hfm178 rfl
                      have hLm178 := zlo_tr hLm137 (zlo_fr hfm178 rfl)
                      obtain ⟨hRNSm178, hRTRm178, hRWDm178, hvm178⟩ := hvm178
                      have hRC0m178 := zR_C0_fr (zdis_fr hfm178 rfl) hRC0m137
                      have hRCRm178 := zR_CR_fr (zdis_fr hfm178 rfl) hRCRm137
                      have hRKNm178 := zR_KN_fr (zdis_fr hfm178 rfl) hRKNm137
                      have hRLRm178 := zR_LR_fr (zdis_fr hfm178 rfl) hRLRm137
                      have hRLTm178 := zR_LT_fr (zdis_fr hfm178 rfl) hRLTm137
                      have s180 := hRNSm178 a0 hc0
                      have r181 : 0 ≤ (m178 a0 7) ∧ (m178 a0 7) ≤ 700 := zi_rd hIm178 hc0 zb_28_7
                      have r182 : 0 ≤ (m178 a0 8) ∧ (m178 a0 8) ≤ 6 := zi_rd hIm178 hc0 zb_28_8
                      refine zw_b (by omega) ?_
                      have r183 : 0 ≤ (m178 a0 21) ∧ (m178 a0 21) ≤ 64 := zi_rd hIm178 hc0 zb_28_21
                      have e184 : (m178 a0 21) = (m0 a0 21) := (Eq.trans (zfr_ap hfm178 hc0 rfl) (zfr_ap hfm137 hc0 rfl))
                      have r185 : 0 ≤ (m178 a0 48) ∧ (m178 a0 48) ≤ 64 := zi_rd hIm178 hc0 zb_28_48
                      have e186 : (m178 a0 48) = (m0 a0 48) := (Eq.trans (zfr_ap hfm178 hc0 rfl) (zfr_ap hfm137 hc0 rfl))
                      have r187 : (-2147483648) ≤ (m178 a0 4) ∧ (m178 a0 4) ≤ 2147483647 := zi_rd hIm178 hc0 zb_28_4
                      have e188 : (m178 a0 4) = (m137 a0 4) := (zfr_ap hfm178 hc0 rfl)
                      exact zw_some ⟨hIm178, hFm178, hLm178, hRC0m178, hRCRm178, hRKNm178, hRLRm178, hRLTm178, hRNSm178, hRTRm178, hRWDm178, ⟨by decide, by decide⟩, fun _ => by omega, fun _ => by omega, fun _ => by omega⟩
                    · exfalso; omega
              · refine zw_b (by omega) ?_
                have r189 : 0 ≤ (m137 a0 21) ∧ (m137 a0 21) ≤ 64 := zi_rd hIm137 hc0 zb_28_21
                have e190 : (m137 a0 21) = (m0 a0 21) := (zfr_ap hfm137 hc0 rfl)
                have r191 : 0 ≤ (m137 a0 48) ∧ (m137 a0 48) ≤ 64 := zi_rd hIm137 hc0 zb_28_48
                have e192 : (m137 a0 48) = (m0 a0 48) := (zfr_ap hfm137 hc0 rfl)
                exact zw_some ⟨hIm137, hFm137, hLm137, hRC0m137, hRCRm137, hRKNm137, hRLRm137, hRLTm137, hRNSm137, hRTRm137, hRWDm137, ⟨by decide, by decide⟩, fun h => absurd h (by decide), fun h => absurd h (by decide), fun h => absurd h (by decide)⟩
          · refine zw_bd (zw_mono (zk_101 n hIm0 hc0 ⟨by omega, by omega⟩ ⟨by omega, by omega⟩ hRCRm0 hRLRm0 hRNSm0 hRTRm0 hRWDm0) (fun v194 m193 hqm193 => ?_))
            obtain ⟨hIm193, hfm193, hvm193⟩ := hqm193
            have hFm193 := zfr_tr hFm0 hfm193 rfl
            have hLm193 := zlo_tr hLm0 (zlo_fr hfm193 rfl)
            obtain ⟨hRCRm193, hRLRm193, hRNSm193, hRTRm193, hRWDm193, hvm193⟩ := hvm193
            have hRC0m193 := zR_C0_fr (zdis_fr hfm193 rfl) hRC0m0
            have hRKNm193 := zR_KN_fr (zdis_fr hfm193 rfl) hRKNm0
            have hRLTm193 := zR_LT_fr (zdis_fr hfm193 rfl) hRLTm0
            have s195 := hRNSm193 a0 hc0
            have r196 : 0 ≤ (m193 a0 7) ∧ (m193 a0 7) ≤ 700 := zi_rd hIm193 hc0 zb_28_7
            have r197 : 0 ≤ (m193 a0 8) ∧ (m193 a0 8) ≤ 6 := zi_rd hIm193 hc0 zb_28_8
            have r198 : (-2147483648) ≤ (m193 a0 4) ∧ (m193 a0 4) ≤ 2147483647 := zi_rd hIm193 hc0 zb_28_4
            have y199 := (hvm193.1)
            have y200 := (hvm193.2.1)
            have y201 := zhid_mk (hvm193.2.2.1)
            have y202 := zhid_mk (hvm193.2.2.2)
            clear hvm193
            refine zw_ite (fun h203 => ?_) (fun h203 => ?_)
            · have s204 := (zhid_of y201) (by omega)
              have s205 := (zhid_of y202) (by omega)
              refine zw_bd (zw_eq (zu_call_at (zt_T n) (zm_93 n) (zdp_93 n) _ _ _ _ _ rfl (zr_93_0 n _ _ a0 59 m193)) ?_)
              refine zw_ite (fun h206 => ?_) (fun h206 => ?_)
              · refine zw_b (by omega) ?_
                refine zw_some ?_
                refine zw_ite (fun h207 => ?_) (fun h207 => ?_)
                · exfalso; omega
                · refine zw_bd (zw_eq (zu_call_at (zt_T n) (zm_85 n) (zdp_85 n) _ _ _ _ _ rfl (zr_85_0 n _ _ a0 1 m193)) ?_)
                  generalize hmm208 : zu_up m193 a0 4 1 = m208
                  have hIm208 := zi_up hmm208 hIm193 hc0 zb_28_4 (by omega) (by omega)
                  have hFm208 := zfr_up hmm208 hFm193 hc0 rfl
                  have hLm208 := zlo_ne hmm208 hLm193 hc0 (by decide)
                  have hRC0m208 := zR_C0_fr (zdis_fr (zfr_up hmm208 (zfr_rf [(28, 5)] _) hc0 rfl) rfl) hRC0m193
                  have hRCRm208 := zR_CR_fr (zdis_fr (zfr_up hmm208 (zfr_rf [(28, 5)] _) hc0 rfl) rfl) hRCRm193
                  have hRKNm208 := zR_KN_fr (zdis_fr (zfr_up hmm208 (zfr_rf [(28, 5)] _) hc0 rfl) rfl) hRKNm193
                  have hRLTm208 := zR_LT_fr (zdis_fr (zfr_up hmm208 (zfr_rf [(28, 5)] _) hc0 rfl) rfl) hRLTm193
                  have hRNSm208 := zR_NS_fr (zdis_fr (zfr_up hmm208 (zfr_rf [(28, 5)] _) hc0 rfl) rfl) hRNSm193
                  have hRTRm208 := zR_TR_fr (zdis_fr (zfr_up hmm208 (zfr_rf [(28, 5)] _) hc0 rfl) rfl) hRTRm193
                  have hRWDm208 := zR_WD_fr (zdis_fr (zfr_up hmm208 (zfr_rf [(28, 5)] _) hc0 rfl) rfl) hRWDm193
                  have hRLRm208 := zLR_wr (zone_190 hc0) hmm208 (by decide)
                  have r209 : 0 ≤ (m208 a0 10) ∧ (m208 a0 10) ≤ 700 := zi_rd hIm208 hc0 zb_28_10
                  generalize hmm210 : zu_up m208 a0 5 (m208 a0 10) = m210
                  have hIm210 := zi_up hmm210 hIm208 hc0 zb_28_5 (by omega) (by omega)
                  have hFm210 := zfr_up hmm210 hFm208 hc0 rfl
                  have hLm210 := zlo_ne hmm210 hLm208 hc0 (by decide)
                  have hRC0m210 := zR_C0_fr (zdis_fr (zfr_up hmm210 (zfr_rf [(28, 6)] _) hc0 rfl) rfl) hRC0m208
                  have hRCRm210 := zR_CR_fr (zdis_fr (zfr_up hmm210 (zfr_rf [(28, 6)] _) hc0 rfl) rfl) hRCRm208
                  have hRKNm210 := zR_KN_fr (zdis_fr (zfr_up hmm210 (zfr_rf [(28, 6)] _) hc0 rfl) rfl) hRKNm208
                  have hRLRm210 := zR_LR_fr (zdis_fr (zfr_up hmm210 (zfr_rf [(28, 6)] _) hc0 rfl) rfl) hRLRm208
                  have hRLTm210 := zR_LT_fr (zdis_fr (zfr_up hmm210 (zfr_rf [(28, 6)] _) hc0 rfl) rfl) hRLTm208
                  have hRNSm210 := zR_NS_fr (zdis_fr (zfr_up hmm210 (zfr_rf [(28, 6)] _) hc0 rfl) rfl) hRNSm208
                  have hRTRm210 := zR_TR_fr (zdis_fr (zfr_up hmm210 (zfr_rf [(28, 6)] _) hc0 rfl) rfl) hRTRm208
                  have hRWDm210 := zR_WD_fr (zdis_fr (zfr_up hmm210 (zfr_rf [(28, 6)] _) hc0 rfl) rfl) hRWDm208
                  refine zw_b (by omega) ?_
                  refine zw_some ?_
                  refine zw_b (by omega) ?_
                  have r211 : 0 ≤ (m210 a0 7) ∧ (m210 a0 7) ≤ 700 := zi_rd hIm210 hc0 zb_28_7
                  have e212 : (m210 a0 7) = (m193 a0 7) := (Eq.trans (zs_ne hmm210 (Or.inr (by decide))) (zs_ne hmm208 (Or.inr (by decide))))
                  have r213 : 0 ≤ (m210 a0 21) ∧ (m210 a0 21) ≤ 64 := zi_rd hIm210 hc0 zb_28_21
                  have e214 : (m210 a0 21) = (m0 a0 21) := (Eq.trans (zs_ne hmm210 (Or.inr (by decide))) (Eq.trans (zs_ne hmm208 (Or.inr (by decide))) (zfr_ap hfm193 hc0 rfl)))
                  have r215 : 0 ≤ (m210 a0 48) ∧ (m210 a0 48) ≤ 64 := zi_rd hIm210 hc0 zb_28_48
                  have e216 : (m210 a0 48) = (m0 a0 48) := (Eq.trans (zs_ne hmm210 (Or.inr (by decide))) (Eq.trans (zs_ne hmm208 (Or.inr (by decide))) (zfr_ap hfm193 hc0 rfl)))
                  have r217 : (-2147483648) ≤ (m210 a0 4) ∧ (m210 a0 4) ≤ 2147483647 := zi_rd hIm210 hc0 zb_28_4
                  have e218 : (m210 a0 4) = 1 := (Eq.trans (zs_ne hmm210 (Or.inr (by decide))) (zs_eq hmm208))
                  exact zw_some ⟨hIm210, hFm210, hLm210, hRC0m210, hRCRm210, hRKNm210, hRLRm210, hRLTm210, hRNSm210, hRTRm210, hRWDm210, ⟨by decide, by decide⟩, fun h => absurd h (by decide), fun h => absurd h (by decide), fun h => absurd h (by decide)⟩
              · have r219 : (-2147483648) ≤ (m193 a0 9) ∧ (m193 a0 9) ≤ 2147483647 := zi_rd hIm193 hc0 zb_28_9
                refine zw_ite (fun h220 => ?_) (fun h220 => ?_)
                · refine zw_b (by omega) ?_
                  refine zw_some ?_
                  refine zw_ite (fun h221 => ?_) (fun h221 => ?_)
                  · exfalso; omega
                  · refine zw_bd (zw_eq (zu_call_at (zt_T n) (zm_85 n) (zdp_85 n) _ _ _ _ _ rfl (zr_85_0 n _ _ a0 1 m193)) ?_)
                    generalize hmm222 : zu_up m193 a0 4 1 = m222
                    have hIm222 := zi_up hmm222 hIm193 hc0 zb_28_4 (by omega) (by omega)
                    have hFm222 := zfr_up hmm222 hFm193 hc0 rfl
                    have hLm222 := zlo_ne hmm222 hLm193 hc0 (by decide)
                    have hRC0m222 := zR_C0_fr (zdis_fr (zfr_up hmm222 (zfr_rf [(28, 5)] _) hc0 rfl) rfl) hRC0m193
                    have hRCRm222 := zR_CR_fr (zdis_fr (zfr_up hmm222 (zfr_rf [(28, 5)] _) hc0 rfl) rfl) hRCRm193
                    have hRKNm222 := zR_KN_fr (zdis_fr (zfr_up hmm222 (zfr_rf [(28, 5)] _) hc0 rfl) rfl) hRKNm193
                    have hRLTm222 := zR_LT_fr (zdis_fr (zfr_up hmm222 (zfr_rf [(28, 5)] _) hc0 rfl) rfl) hRLTm193
                    have hRNSm222 := zR_NS_fr (zdis_fr (zfr_up hmm222 (zfr_rf [(28, 5)] _) hc0 rfl) rfl) hRNSm193
                    have hRTRm222 := zR_TR_fr (zdis_fr (zfr_up hmm222 (zfr_rf [(28, 5)] _) hc0 rfl) rfl) hRTRm193
                    have hRWDm222 := zR_WD_fr (zdis_fr (zfr_up hmm222 (zfr_rf [(28, 5)] _) hc0 rfl) rfl) hRWDm193
                    have hRLRm222 := zLR_wr (zone_190 hc0) hmm222 (by decide)
                    have r223 : 0 ≤ (m222 a0 10) ∧ (m222 a0 10) ≤ 700 := zi_rd hIm222 hc0 zb_28_10
                    generalize hmm224 : zu_up m222 a0 5 (m222 a0 10) = m224
                    have hIm224 := zi_up hmm224 hIm222 hc0 zb_28_5 (by omega) (by omega)
                    have hFm224 := zfr_up hmm224 hFm222 hc0 rfl
                    have hLm224 := zlo_ne hmm224 hLm222 hc0 (by decide)
                    have hRC0m224 := zR_C0_fr (zdis_fr (zfr_up hmm224 (zfr_rf [(28, 6)] _) hc0 rfl) rfl) hRC0m222
                    have hRCRm224 := zR_CR_fr (zdis_fr (zfr_up hmm224 (zfr_rf [(28, 6)] _) hc0 rfl) rfl) hRCRm222
                    have hRKNm224 := zR_KN_fr (zdis_fr (zfr_up hmm224 (zfr_rf [(28, 6)] _) hc0 rfl) rfl) hRKNm222
                    have hRLRm224 := zR_LR_fr (zdis_fr (zfr_up hmm224 (zfr_rf [(28, 6)] _) hc0 rfl) rfl) hRLRm222
                    have hRLTm224 := zR_LT_fr (zdis_fr (zfr_up hmm224 (zfr_rf [(28, 6)] _) hc0 rfl) rfl) hRLTm222
                    have hRNSm224 := zR_NS_fr (zdis_fr (zfr_up hmm224 (zfr_rf [(28, 6)] _) hc0 rfl) rfl) hRNSm222
                    have hRTRm224 := zR_TR_fr (zdis_fr (zfr_up hmm224 (zfr_rf [(28, 6)] _) hc0 rfl) rfl) hRTRm222
                    have hRWDm224 := zR_WD_fr (zdis_fr (zfr_up hmm224 (zfr_rf [(28, 6)] _) hc0 rfl) rfl) hRWDm222
                    refine zw_b (by omega) ?_
                    refine zw_some ?_
                    refine zw_b (by omega) ?_
                    have r225 : 0 ≤ (m224 a0 7) ∧ (m224 a0 7) ≤ 700 := zi_rd hIm224 hc0 zb_28_7
                    have e226 : (m224 a0 7) = (m193 a0 7) := (Eq.trans (zs_ne hmm224 (Or.inr (by decide))) (zs_ne hmm222 (Or.inr (by decide))))
                    have r227 : 0 ≤ (m224 a0 21) ∧ (m224 a0 21) ≤ 64 := zi_rd hIm224 hc0 zb_28_21
                    have e228 : (m224 a0 21) = (m0 a0 21) := (Eq.trans (zs_ne hmm224 (Or.inr (by decide))) (Eq.trans (zs_ne hmm222 (Or.inr (by decide))) (zfr_ap hfm193 hc0 rfl)))
                    have r229 : 0 ≤ (m224 a0 48) ∧ (m224 a0 48) ≤ 64 := zi_rd hIm224 hc0 zb_28_48
                    have e230 : (m224 a0 48) = (m0 a0 48) := (Eq.trans (zs_ne hmm224 (Or.inr (by decide))) (Eq.trans (zs_ne hmm222 (Or.inr (by decide))) (zfr_ap hfm193 hc0 rfl)))
                    have r231 : (-2147483648) ≤ (m224 a0 4) ∧ (m224 a0 4) ≤ 2147483647 := zi_rd hIm224 hc0 zb_28_4
                    have e232 : (m224 a0 4) = 1 := (Eq.trans (zs_ne hmm224 (Or.inr (by decide))) (zs_eq hmm222))
                    exact zw_some ⟨hIm224, hFm224, hLm224, hRC0m224, hRCRm224, hRKNm224, hRLRm224, hRLTm224, hRNSm224, hRTRm224, hRWDm224, ⟨by decide, by decide⟩, fun h => absurd h (by decide), fun h => absurd h (by decide), fun h => absurd h (by decide)⟩
                · refine zw_b (by omega) ?_
                  refine zw_some ?_
                  refine zw_ite (fun h233 => ?_) (fun h233 => ?_)
                  · refine zw_bd (zw_mono (zk_89 n hIm193 hc0 hRNSm193 hRWDm193) (fun v235 m234 hqm234 => ?_))
                    obtain ⟨hIm234, hfm234, hvm234⟩ := hqm234
                    have hFm234 := zfr_tr hFm193 hfm234 rfl
                    have hLm234 := zlo_tr hLm193 (zlo_fr hfm234 rfl)
                    obtain ⟨hRNSm234, hRTRm234, hRWDm234, hvm234⟩ := hvm234
                    have hRC0m234 := zR_C0_fr (zdis_fr hfm234 rfl) hRC0m193
                    have hRCRm234 := zR_CR_fr (zdis_fr hfm234 rfl) hRCRm193
                    have hRKNm234 := zR_KN_fr (zdis_fr hfm234 rfl) hRKNm193
                    have hRLRm234 := zR_LR_fr (zdis_fr hfm234 rfl) hRLRm193
                    have hRLTm234 := zR_LT_fr (zdis_fr hfm234 rfl) hRLTm193
                    have s236 := hRNSm234 a0 hc0
                    have r237 : 0 ≤ (m234 a0 7) ∧ (m234 a0 7) ≤ 700 := zi_rd hIm234 hc0 zb_28_7
                    have r238 : 0 ≤ (m234 a0 8) ∧ (m234 a0 8) ≤ 6 := zi_rd hIm234 hc0 zb_28_8
                    refine zw_b (by omega) ?_
                    have r239 : 0 ≤ (m234 a0 21) ∧ (m234 a0 21) ≤ 64 := zi_rd hIm234 hc0 zb_28_21
                    have e240 : (m234 a0 21) = (m0 a0 21) := (Eq.trans (zfr_ap hfm234 hc0 rfl) (zfr_ap hfm193 hc0 rfl))
                    have r241 : 0 ≤ (m234 a0 48) ∧ (m234 a0 48) ≤ 64 := zi_rd hIm234 hc0 zb_28_48
                    have e242 : (m234 a0 48) = (m0 a0 48) := (Eq.trans (zfr_ap hfm234 hc0 rfl) (zfr_ap hfm193 hc0 rfl))
                    have r243 : (-2147483648) ≤ (m234 a0 4) ∧ (m234 a0 4) ≤ 2147483647 := zi_rd hIm234 hc0 zb_28_4
                    have e244 : (m234 a0 4) = (m193 a0 4) := (zfr_ap hfm234 hc0 rfl)
                    exact zw_some ⟨hIm234, hFm234, hLm234, hRC0m234, hRCRm234, hRKNm234, hRLRm234, hRLTm234, hRNSm234, hRTRm234, hRWDm234, ⟨by decide, by decide⟩, fun _ => by omega, fun _ => by omega, fun _ => by omega⟩
                  · exfalso; omega
            · refine zw_b (by omega) ?_
              have r245 : 0 ≤ (m193 a0 21) ∧ (m193 a0 21) ≤ 64 := zi_rd hIm193 hc0 zb_28_21
              have e246 : (m193 a0 21) = (m0 a0 21) := (zfr_ap hfm193 hc0 rfl)
              have r247 : 0 ≤ (m193 a0 48) ∧ (m193 a0 48) ≤ 64 := zi_rd hIm193 hc0 zb_28_48
              have e248 : (m193 a0 48) = (m0 a0 48) := (zfr_ap hfm193 hc0 rfl)
              exact zw_some ⟨hIm193, hFm193, hLm193, hRC0m193, hRCRm193, hRKNm193, hRLRm193, hRLTm193, hRNSm193, hRTRm193, hRWDm193, ⟨by decide, by decide⟩, fun h => absurd h (by decide), fun h => absurd h (by decide), fun h => absurd h (by decide)⟩
        · have w249 := zu_w32_id (z := (m0 a0 9) - 1) (by omega) (by omega)
          have w250 := zu_w32_id (z := (zu_w32 ((m0 a0 9) - 1)) + 1) (by omega) (by omega)
          refine zw_bd (zw_mono (zk_100 n hIm0 hc0 ⟨by omega, by omega⟩ ⟨by omega, by omega⟩ ⟨by omega, by omega⟩ hRCRm0 hRLRm0 hRNSm0 hRTRm0 hRWDm0) (fun v252 m251 hqm251 => ?_))
          obtain ⟨hIm251, hfm251, hvm251⟩ := hqm251
          have hFm251 := zfr_tr hFm0 hfm251 rfl
          have hLm251 := zlo_tr hLm0 (zlo_fr hfm251 rfl)
          obtain ⟨hRCRm251, hRLRm251, hRNSm251, hRTRm251, hRWDm251, hvm251⟩ := hvm251
          have hRC0m251 := zR_C0_fr (zdis_fr hfm251 rfl) hRC0m0
          have hRKNm251 := zR_KN_fr (zdis_fr hfm251 rfl) hRKNm0
          have hRLTm251 := zR_LT_fr (zdis_fr hfm251 rfl) hRLTm0
          have s253 := hRNSm251 a0 hc0
          have r254 : 0 ≤ (m251 a0 7) ∧ (m251 a0 7) ≤ 700 := zi_rd hIm251 hc0 zb_28_7
          have r255 : 0 ≤ (m251 a0 8) ∧ (m251 a0 8) ≤ 6 := zi_rd hIm251 hc0 zb_28_8
          have r256 : (-2147483648) ≤ (m251 a0 4) ∧ (m251 a0 4) ≤ 2147483647 := zi_rd hIm251 hc0 zb_28_4
          have y257 := (hvm251.1)
          have y258 := (hvm251.2.1)
          have y259 := zhid_mk (hvm251.2.2.1)
          have y260 := zhid_mk (hvm251.2.2.2)
          clear hvm251
          refine zw_ite (fun h261 => ?_) (fun h261 => ?_)
          · have s262 := (zhid_of y259) (by omega)
            have s263 := (zhid_of y260) (by omega)
            refine zw_bd (zw_eq (zu_call_at (zt_T n) (zm_93 n) (zdp_93 n) _ _ _ _ _ rfl (zr_93_0 n _ _ a0 59 m251)) ?_)
            refine zw_ite (fun h264 => ?_) (fun h264 => ?_)
            · refine zw_b (by omega) ?_
              refine zw_some ?_
              refine zw_ite (fun h265 => ?_) (fun h265 => ?_)
              · exfalso; omega
              · refine zw_bd (zw_eq (zu_call_at (zt_T n) (zm_85 n) (zdp_85 n) _ _ _ _ _ rfl (zr_85_0 n _ _ a0 1 m251)) ?_)
                generalize hmm266 : zu_up m251 a0 4 1 = m266
                have hIm266 := zi_up hmm266 hIm251 hc0 zb_28_4 (by omega) (by omega)
                have hFm266 := zfr_up hmm266 hFm251 hc0 rfl
                have hLm266 := zlo_ne hmm266 hLm251 hc0 (by decide)
                have hRC0m266 := zR_C0_fr (zdis_fr (zfr_up hmm266 (zfr_rf [(28, 5)] _) hc0 rfl) rfl) hRC0m251
                have hRCRm266 := zR_CR_fr (zdis_fr (zfr_up hmm266 (zfr_rf [(28, 5)] _) hc0 rfl) rfl) hRCRm251
                have hRKNm266 := zR_KN_fr (zdis_fr (zfr_up hmm266 (zfr_rf [(28, 5)] _) hc0 rfl) rfl) hRKNm251
                have hRLTm266 := zR_LT_fr (zdis_fr (zfr_up hmm266 (zfr_rf [(28, 5)] _) hc0 rfl) rfl) hRLTm251
                have hRNSm266 := zR_NS_fr (zdis_fr (zfr_up hmm266 (zfr_rf [(28, 5)] _) hc0 rfl) rfl) hRNSm251
                have hRTRm266 := zR_TR_fr (zdis_fr (zfr_up hmm266 (zfr_rf [(28, 5)] _) hc0 rfl) rfl) hRTRm251
                have hRWDm266 := zR_WD_fr (zdis_fr (zfr_up hmm266 (zfr_rf [(28, 5)] _) hc0 rfl) rfl) hRWDm251
                have hRLRm266 := zLR_wr (zone_190 hc0) hmm266 (by decide)
                have r267 : 0 ≤ (m266 a0 10) ∧ (m266 a0 10) ≤ 700 := zi_rd hIm266 hc0 zb_28_10
                generalize hmm268 : zu_up m266 a0 5 (m266 a0 10) = m268
                have hIm268 := zi_up hmm268 hIm266 hc0 zb_28_5 (by omega) (by omega)
                have hFm268 := zfr_up hmm268 hFm266 hc0 rfl
                have hLm268 := zlo_ne hmm268 hLm266 hc0 (by decide)
                have hRC0m268 := zR_C0_fr (zdis_fr (zfr_up hmm268 (zfr_rf [(28, 6)] _) hc0 rfl) rfl) hRC0m266
                have hRCRm268 := zR_CR_fr (zdis_fr (zfr_up hmm268 (zfr_rf [(28, 6)] _) hc0 rfl) rfl) hRCRm266
                have hRKNm268 := zR_KN_fr (zdis_fr (zfr_up hmm268 (zfr_rf [(28, 6)] _) hc0 rfl) rfl) hRKNm266
                have hRLRm268 := zR_LR_fr (zdis_fr (zfr_up hmm268 (zfr_rf [(28, 6)] _) hc0 rfl) rfl) hRLRm266
                have hRLTm268 := zR_LT_fr (zdis_fr (zfr_up hmm268 (zfr_rf [(28, 6)] _) hc0 rfl) rfl) hRLTm266
                have hRNSm268 := zR_NS_fr (zdis_fr (zfr_up hmm268 (zfr_rf [(28, 6)] _) hc0 rfl) rfl) hRNSm266
                have hRTRm268 := zR_TR_fr (zdis_fr (zfr_up hmm268 (zfr_rf [(28, 6)] _) hc0 rfl) rfl) hRTRm266
                have hRWDm268 := zR_WD_fr (zdis_fr (zfr_up hmm268 (zfr_rf [(28, 6)] _) hc0 rfl) rfl) hRWDm266
                refine zw_b (by omega) ?_
                refine zw_some ?_
                refine zw_b (by omega) ?_
                have r269 : 0 ≤ (m268 a0 7) ∧ (m268 a0 7) ≤ 700 := zi_rd hIm268 hc0 zb_28_7
                have e270 : (m268 a0 7) = (m251 a0 7) := (Eq.trans (zs_ne hmm268 (Or.inr (by decide))) (zs_ne hmm266 (Or.inr (by decide))))
                have r271 : 0 ≤ (m268 a0 21) ∧ (m268 a0 21) ≤ 64 := zi_rd hIm268 hc0 zb_28_21
                have e272 : (m268 a0 21) = (m0 a0 21) := (Eq.trans (zs_ne hmm268 (Or.inr (by decide))) (Eq.trans (zs_ne hmm266 (Or.inr (by decide))) (zfr_ap hfm251 hc0 rfl)))
                have r273 : 0 ≤ (m268 a0 48) ∧ (m268 a0 48) ≤ 64 := zi_rd hIm268 hc0 zb_28_48
                have e274 : (m268 a0 48) = (m0 a0 48) := (Eq.trans (zs_ne hmm268 (Or.inr (by decide))) (Eq.trans (zs_ne hmm266 (Or.inr (by decide))) (zfr_ap hfm251 hc0 rfl)))
                have r275 : (-2147483648) ≤ (m268 a0 4) ∧ (m268 a0 4) ≤ 2147483647 := zi_rd hIm268 hc0 zb_28_4
                have e276 : (m268 a0 4) = 1 := (Eq.trans (zs_ne hmm268 (Or.inr (by decide))) (zs_eq hmm266))
                exact zw_some ⟨hIm268, hFm268, hLm268, hRC0m268, hRCRm268, hRKNm268, hRLRm268, hRLTm268, hRNSm268, hRTRm268, hRWDm268, ⟨by decide, by decide⟩, fun h => absurd h (by decide), fun h => absurd h (by decide), fun h => absurd h (by decide)⟩
            · have r277 : (-2147483648) ≤ (m251 a0 9) ∧ (m251 a0 9) ≤ 2147483647 := zi_rd hIm251 hc0 zb_28_9
              refine zw_ite (fun h278 => ?_) (fun h278 => ?_)
              · refine zw_b (by omega) ?_
                refine zw_some ?_
                refine zw_ite (fun h279 => ?_) (fun h279 => ?_)
                · exfalso; omega
                · refine zw_bd (zw_eq (zu_call_at (zt_T n) (zm_85 n) (zdp_85 n) _ _ _ _ _ rfl (zr_85_0 n _ _ a0 1 m251)) ?_)
                  generalize hmm280 : zu_up m251 a0 4 1 = m280
                  have hIm280 := zi_up hmm280 hIm251 hc0 zb_28_4 (by omega) (by omega)
                  have hFm280 := zfr_up hmm280 hFm251 hc0 rfl
                  have hLm280 := zlo_ne hmm280 hLm251 hc0 (by decide)
                  have hRC0m280 := zR_C0_fr (zdis_fr (zfr_up hmm280 (zfr_rf [(28, 5)] _) hc0 rfl) rfl) hRC0m251
                  have hRCRm280 := zR_CR_fr (zdis_fr (zfr_up hmm280 (zfr_rf [(28, 5)] _) hc0 rfl) rfl) hRCRm251
                  have hRKNm280 := zR_KN_fr (zdis_fr (zfr_up hmm280 (zfr_rf [(28, 5)] _) hc0 rfl) rfl) hRKNm251
                  have hRLTm280 := zR_LT_fr (zdis_fr (zfr_up hmm280 (zfr_rf [(28, 5)] _) hc0 rfl) rfl) hRLTm251
                  have hRNSm280 := zR_NS_fr (zdis_fr (zfr_up hmm280 (zfr_rf [(28, 5)] _) hc0 rfl) rfl) hRNSm251
                  have hRTRm280 := zR_TR_fr (zdis_fr (zfr_up hmm280 (zfr_rf [(28, 5)] _) hc0 rfl) rfl) hRTRm251
                  have hRWDm280 := zR_WD_fr (zdis_fr (zfr_up hmm280 (zfr_rf [(28, 5)] _) hc0 rfl) rfl) hRWDm251
                  have hRLRm280 := zLR_wr (zone_190 hc0) hmm280 (by decide)
                  have r281 : 0 ≤ (m280 a0 10) ∧ (m280 a0 10) ≤ 700 := zi_rd hIm280 hc0 zb_28_10
                  generalize hmm282 : zu_up m280 a0 5 (m280 a0 10) = m282
                  have hIm282 := zi_up hmm282 hIm280 hc0 zb_28_5 (by omega) (by omega)
                  have hFm282 := zfr_up hmm282 hFm280 hc0 rfl
                  have hLm282 := zlo_ne hmm282 hLm280 hc0 (by decide)
                  have hRC0m282 := zR_C0_fr (zdis_fr (zfr_up hmm282 (zfr_rf [(28, 6)] _) hc0 rfl) rfl) hRC0m280
                  have hRCRm282 := zR_CR_fr (zdis_fr (zfr_up hmm282 (zfr_rf [(28, 6)] _) hc0 rfl) rfl) hRCRm280
                  have hRKNm282 := zR_KN_fr (zdis_fr (zfr_up hmm282 (zfr_rf [(28, 6)] _) hc0 rfl) rfl) hRKNm280
                  have hRLRm282 := zR_LR_fr (zdis_fr (zfr_up hmm282 (zfr_rf [(28, 6)] _) hc0 rfl) rfl) hRLRm280
                  have hRLTm282 := zR_LT_fr (zdis_fr (zfr_up hmm282 (zfr_rf [(28, 6)] _) hc0 rfl) rfl) hRLTm280
                  have hRNSm282 := zR_NS_fr (zdis_fr (zfr_up hmm282 (zfr_rf [(28, 6)] _) hc0 rfl) rfl) hRNSm280
                  have hRTRm282 := zR_TR_fr (zdis_fr (zfr_up hmm282 (zfr_rf [(28, 6)] _) hc0 rfl) rfl) hRTRm280
                  have hRWDm282 := zR_WD_fr (zdis_fr (zfr_up hmm282 (zfr_rf [(28, 6)] _) hc0 rfl) rfl) hRWDm280
                  refine zw_b (by omega) ?_
                  refine zw_some ?_
                  refine zw_b (by omega) ?_
                  have r283 : 0 ≤ (m282 a0 7) ∧ (m282 a0 7) ≤ 700 := zi_rd hIm282 hc0 zb_28_7
                  have e284 : (m282 a0 7) = (m251 a0 7) := (Eq.trans (zs_ne hmm282 (Or.inr (by decide))) (zs_ne hmm280 (Or.inr (by decide))))
                  have r285 : 0 ≤ (m282 a0 21) ∧ (m282 a0 21) ≤ 64 := zi_rd hIm282 hc0 zb_28_21
                  have e286 : (m282 a0 21) = (m0 a0 21) := (Eq.trans (zs_ne hmm282 (Or.inr (by decide))) (Eq.trans (zs_ne hmm280 (Or.inr (by decide))) (zfr_ap hfm251 hc0 rfl)))
                  have r287 : 0 ≤ (m282 a0 48) ∧ (m282 a0 48) ≤ 64 := zi_rd hIm282 hc0 zb_28_48
                  have e288 : (m282 a0 48) = (m0 a0 48) := (Eq.trans (zs_ne hmm282 (Or.inr (by decide))) (Eq.trans (zs_ne hmm280 (Or.inr (by decide))) (zfr_ap hfm251 hc0 rfl)))
                  have r289 : (-2147483648) ≤ (m282 a0 4) ∧ (m282 a0 4) ≤ 2147483647 := zi_rd hIm282 hc0 zb_28_4
                  have e290 : (m282 a0 4) = 1 := (Eq.trans (zs_ne hmm282 (Or.inr (by decide))) (zs_eq hmm280))
                  exact zw_some ⟨hIm282, hFm282, hLm282, hRC0m282, hRCRm282, hRKNm282, hRLRm282, hRLTm282, hRNSm282, hRTRm282, hRWDm282, ⟨by decide, by decide⟩, fun h => absurd h (by decide), fun h => absurd h (by decide), fun h => absurd h (by decide)⟩
              · refine zw_b (by omega) ?_
                refine zw_some ?_
                refine zw_ite (fun h291 => ?_) (fun h291 => ?_)
                · refine zw_bd (zw_mono (zk_89 n hIm251 hc0 hRNSm251 hRWDm251) (fun v293 m292 hqm292 => ?_))
                  obtain ⟨hIm292, hfm292, hvm292⟩ := hqm292
                  have hFm292 := zfr_tr hFm251 hfm292 rfl
                  have hLm292 := zlo_tr hLm251 (zlo_fr hfm292 rfl)
                  obtain ⟨hRNSm292, hRTRm292, hRWDm292, hvm292⟩ := hvm292
                  have hRC0m292 := zR_C0_fr (zdis_fr hfm292 rfl) hRC0m251
                  have hRCRm292 := zR_CR_fr (zdis_fr hfm292 rfl) hRCRm251
                  have hRKNm292 := zR_KN_fr (zdis_fr hfm292 rfl) hRKNm251
                  have hRLRm292 := zR_LR_fr (zdis_fr hfm292 rfl) hRLRm251
                  have hRLTm292 := zR_LT_fr (zdis_fr hfm292 rfl) hRLTm251
                  have s294 := hRNSm292 a0 hc0
                  have r295 : 0 ≤ (m292 a0 7) ∧ (m292 a0 7) ≤ 700 := zi_rd hIm292 hc0 zb_28_7
                  have r296 : 0 ≤ (m292 a0 8) ∧ (m292 a0 8) ≤ 6 := zi_rd hIm292 hc0 zb_28_8
                  refine zw_b (by omega) ?_
                  have r297 : 0 ≤ (m292 a0 21) ∧ (m292 a0 21) ≤ 64 := zi_rd hIm292 hc0 zb_28_21
                  have e298 : (m292 a0 21) = (m0 a0 21) := (Eq.trans (zfr_ap hfm292 hc0 rfl) (zfr_ap hfm251 hc0 rfl))
                  have r299 : 0 ≤ (m292 a0 48) ∧ (m292 a0 48) ≤ 64 := zi_rd hIm292 hc0 zb_28_48
                  have e300 : (m292 a0 48) = (m0 a0 48) := (Eq.trans (zfr_ap hfm292 hc0 rfl) (zfr_ap hfm251 hc0 rfl))
                  have r301 : (-2147483648) ≤ (m292 a0 4) ∧ (m292 a0 4) ≤ 2147483647 := zi_rd hIm292 hc0 zb_28_4
                  have e302 : (m292 a0 4) = (m251 a0 4) := (zfr_ap hfm292 hc0 rfl)
                  exact zw_some ⟨hIm292, hFm292, hLm292, hRC0m292, hRCRm292, hRKNm292, hRLRm292, hRLTm292, hRNSm292, hRTRm292, hRWDm292, ⟨by decide, by decide⟩, fun _ => by omega, fun _ => by omega, fun _ => by omega⟩
                · exfalso; omega
          · refine zw_b (by omega) ?_
            have r303 : 0 ≤ (m251 a0 21) ∧ (m251 a0 21) ≤ 64 := zi_rd hIm251 hc0 zb_28_21
            have e304 : (m251 a0 21) = (m0 a0 21) := (zfr_ap hfm251 hc0 rfl)
            have r305 : 0 ≤ (m251 a0 48) ∧ (m251 a0 48) ≤ 64 := zi_rd hIm251 hc0 zb_28_48
            have e306 : (m251 a0 48) = (m0 a0 48) := (zfr_ap hfm251 hc0 rfl)
            exact zw_some ⟨hIm251, hFm251, hLm251, hRC0m251, hRCRm251, hRKNm251, hRLRm251, hRLTm251, hRNSm251, hRTRm251, hRWDm251, ⟨by decide, by decide⟩, fun h => absurd h (by decide), fun h => absurd h (by decide), fun h => absurd h (by decide)⟩
      · refine zw_bd (zw_mono (zk_99 n hIm0 hc0 hRCRm0 hRLRm0 hRNSm0 hRTRm0 hRWDm0) (fun v308 m307 hqm307 => ?_))
        obtain ⟨hIm307, hfm307, hvm307⟩ := hqm307
        have hFm307 := zfr_tr hFm0 hfm307 rfl
        have hLm307 := zlo_tr hLm0 (zlo_fr hfm307 rfl)
        obtain ⟨hRCRm307, hRLRm307, hRNSm307, hRTRm307, hRWDm307, hvm307⟩ := hvm307
        have hRC0m307 := zR_C0_fr (zdis_fr hfm307 rfl) hRC0m0
        have hRKNm307 := zR_KN_fr (zdis_fr hfm307 rfl) hRKNm0
        have hRLTm307 := zR_LT_fr (zdis_fr hfm307 rfl) hRLTm0
        have s309 := hRNSm307 a0 hc0
        have r310 : 0 ≤ (m307 a0 7) ∧ (m307 a0 7) ≤ 700 := zi_rd hIm307 hc0 zb_28_7
        have r311 : 0 ≤ (m307 a0 8) ∧ (m307 a0 8) ≤ 6 := zi_rd hIm307 hc0 zb_28_8
        have r312 : (-2147483648) ≤ (m307 a0 4) ∧ (m307 a0 4) ≤ 2147483647 := zi_rd hIm307 hc0 zb_28_4
        have y313 := (hvm307.1)
        have y314 := (hvm307.2.1)
        have y315 := zhid_mk (hvm307.2.2.1)
        have y316 := zhid_mk (hvm307.2.2.2)
        clear hvm307
        refine zw_ite (fun h317 => ?_) (fun h317 => ?_)
        · have s318 := (zhid_of y315) (by omega)
          have s319 := (zhid_of y316) (by omega)
          refine zw_bd (zw_eq (zu_call_at (zt_T n) (zm_93 n) (zdp_93 n) _ _ _ _ _ rfl (zr_93_0 n _ _ a0 59 m307)) ?_)
          refine zw_ite (fun h320 => ?_) (fun h320 => ?_)
          · refine zw_b (by omega) ?_
            refine zw_some ?_
            refine zw_ite (fun h321 => ?_) (fun h321 => ?_)
            · exfalso; omega
            · refine zw_bd (zw_eq (zu_call_at (zt_T n) (zm_85 n) (zdp_85 n) _ _ _ _ _ rfl (zr_85_0 n _ _ a0 1 m307)) ?_)
              generalize hmm322 : zu_up m307 a0 4 1 = m322
              have hIm322 := zi_up hmm322 hIm307 hc0 zb_28_4 (by omega) (by omega)
              have hFm322 := zfr_up hmm322 hFm307 hc0 rfl
              have hLm322 := zlo_ne hmm322 hLm307 hc0 (by decide)
              have hRC0m322 := zR_C0_fr (zdis_fr (zfr_up hmm322 (zfr_rf [(28, 5)] _) hc0 rfl) rfl) hRC0m307
              have hRCRm322 := zR_CR_fr (zdis_fr (zfr_up hmm322 (zfr_rf [(28, 5)] _) hc0 rfl) rfl) hRCRm307
              have hRKNm322 := zR_KN_fr (zdis_fr (zfr_up hmm322 (zfr_rf [(28, 5)] _) hc0 rfl) rfl) hRKNm307
              have hRLTm322 := zR_LT_fr (zdis_fr (zfr_up hmm322 (zfr_rf [(28, 5)] _) hc0 rfl) rfl) hRLTm307
              have hRNSm322 := zR_NS_fr (zdis_fr (zfr_up hmm322 (zfr_rf [(28, 5)] _) hc0 rfl) rfl) hRNSm307
              have hRTRm322 := zR_TR_fr (zdis_fr (zfr_up hmm322 (zfr_rf [(28, 5)] _) hc0 rfl) rfl) hRTRm307
              have hRWDm322 := zR_WD_fr (zdis_fr (zfr_up hmm322 (zfr_rf [(28, 5)] _) hc0 rfl) rfl) hRWDm307
              have hRLRm322 := zLR_wr (zone_190 hc0) hmm322 (by decide)
              have r323 : 0 ≤ (m322 a0 10) ∧ (m322 a0 10) ≤ 700 := zi_rd hIm322 hc0 zb_28_10
              generalize hmm324 : zu_up m322 a0 5 (m322 a0 10) = m324
              have hIm324 := zi_up hmm324 hIm322 hc0 zb_28_5 (by omega) (by omega)
              have hFm324 := zfr_up hmm324 hFm322 hc0 rfl
              have hLm324 := zlo_ne hmm324 hLm322 hc0 (by decide)
              have hRC0m324 := zR_C0_fr (zdis_fr (zfr_up hmm324 (zfr_rf [(28, 6)] _) hc0 rfl) rfl) hRC0m322
              have hRCRm324 := zR_CR_fr (zdis_fr (zfr_up hmm324 (zfr_rf [(28, 6)] _) hc0 rfl) rfl) hRCRm322
              have hRKNm324 := zR_KN_fr (zdis_fr (zfr_up hmm324 (zfr_rf [(28, 6)] _) hc0 rfl) rfl) hRKNm322
              have hRLRm324 := zR_LR_fr (zdis_fr (zfr_up hmm324 (zfr_rf [(28, 6)] _) hc0 rfl) rfl) hRLRm322
              have hRLTm324 := zR_LT_fr (zdis_fr (zfr_up hmm324 (zfr_rf [(28, 6)] _) hc0 rfl) rfl) hRLTm322
              have hRNSm324 := zR_NS_fr (zdis_fr (zfr_up hmm324 (zfr_rf [(28, 6)] _) hc0 rfl) rfl) hRNSm322
              have hRTRm324 := zR_TR_fr (zdis_fr (zfr_up hmm324 (zfr_rf [(28, 6)] _) hc0 rfl) rfl) hRTRm322
              have hRWDm324 := zR_WD_fr (zdis_fr (zfr_up hmm324 (zfr_rf [(28, 6)] _) hc0 rfl) rfl) hRWDm322
              refine zw_b (by omega) ?_
              refine zw_some ?_
              refine zw_b (by omega) ?_
              have r325 : 0 ≤ (m324 a0 7) ∧ (m324 a0 7) ≤ 700 := zi_rd hIm324 hc0 zb_28_7
              have e326 : (m324 a0 7) = (m307 a0 7) := (Eq.trans (zs_ne hmm324 (Or.inr (by decide))) (zs_ne hmm322 (Or.inr (by decide))))
              have r327 : 0 ≤ (m324 a0 21) ∧ (m324 a0 21) ≤ 64 := zi_rd hIm324 hc0 zb_28_21
              have e328 : (m324 a0 21) = (m0 a0 21) := (Eq.trans (zs_ne hmm324 (Or.inr (by decide))) (Eq.trans (zs_ne hmm322 (Or.inr (by decide))) (zfr_ap hfm307 hc0 rfl)))
              have r329 : 0 ≤ (m324 a0 48) ∧ (m324 a0 48) ≤ 64 := zi_rd hIm324 hc0 zb_28_48
              have e330 : (m324 a0 48) = (m0 a0 48) := (Eq.trans (zs_ne hmm324 (Or.inr (by decide))) (Eq.trans (zs_ne hmm322 (Or.inr (by decide))) (zfr_ap hfm307 hc0 rfl)))
              have r331 : (-2147483648) ≤ (m324 a0 4) ∧ (m324 a0 4) ≤ 2147483647 := zi_rd hIm324 hc0 zb_28_4
              have e332 : (m324 a0 4) = 1 := (Eq.trans (zs_ne hmm324 (Or.inr (by decide))) (zs_eq hmm322))
              exact zw_some ⟨hIm324, hFm324, hLm324, hRC0m324, hRCRm324, hRKNm324, hRLRm324, hRLTm324, hRNSm324, hRTRm324, hRWDm324, ⟨by decide, by decide⟩, fun h => absurd h (by decide), fun h => absurd h (by decide), fun h => absurd h (by decide)⟩
          · have r333 : (-2147483648) ≤ (m307 a0 9) ∧ (m307 a0 9) ≤ 2147483647 := zi_rd hIm307 hc0 zb_28_9
            refine zw_ite (fun h334 => ?_) (fun h334 => ?_)
            · refine zw_b (by omega) ?_
              refine zw_some ?_
              refine zw_ite (fun h335 => ?_) (fun h335 => ?_)
              · exfalso; omega
              · refine zw_bd (zw_eq (zu_call_at (zt_T n) (zm_85 n) (zdp_85 n) _ _ _ _ _ rfl (zr_85_0 n _ _ a0 1 m307)) ?_)
                generalize hmm336 : zu_up m307 a0 4 1 = m336
                have hIm336 := zi_up hmm336 hIm307 hc0 zb_28_4 (by omega) (by omega)
                have hFm336 := zfr_up hmm336 hFm307 hc0 rfl
                have hLm336 := zlo_ne hmm336 hLm307 hc0 (by decide)
                have hRC0m336 := zR_C0_fr (zdis_fr (zfr_up hmm336 (zfr_rf [(28, 5)] _) hc0 rfl) rfl) hRC0m307
                have hRCRm336 := zR_CR_fr (zdis_fr (zfr_up hmm336 (zfr_rf [(28, 5)] _) hc0 rfl) rfl) hRCRm307
                have hRKNm336 := zR_KN_fr (zdis_fr (zfr_up hmm336 (zfr_rf [(28, 5)] _) hc0 rfl) rfl) hRKNm307
                have hRLTm336 := zR_LT_fr (zdis_fr (zfr_up hmm336 (zfr_rf [(28, 5)] _) hc0 rfl) rfl) hRLTm307
                have hRNSm336 := zR_NS_fr (zdis_fr (zfr_up hmm336 (zfr_rf [(28, 5)] _) hc0 rfl) rfl) hRNSm307
                have hRTRm336 := zR_TR_fr (zdis_fr (zfr_up hmm336 (zfr_rf [(28, 5)] _) hc0 rfl) rfl) hRTRm307
                have hRWDm336 := zR_WD_fr (zdis_fr (zfr_up hmm336 (zfr_rf [(28, 5)] _) hc0 rfl) rfl) hRWDm307
                have hRLRm336 := zLR_wr (zone_190 hc0) hmm336 (by decide)
                have r337 : 0 ≤ (m336 a0 10) ∧ (m336 a0 10) ≤ 700 := zi_rd hIm336 hc0 zb_28_10
                generalize hmm338 : zu_up m336 a0 5 (m336 a0 10) = m338
                have hIm338 := zi_up hmm338 hIm336 hc0 zb_28_5 (by omega) (by omega)
                have hFm338 := zfr_up hmm338 hFm336 hc0 rfl
                have hLm338 := zlo_ne hmm338 hLm336 hc0 (by decide)
                have hRC0m338 := zR_C0_fr (zdis_fr (zfr_up hmm338 (zfr_rf [(28, 6)] _) hc0 rfl) rfl) hRC0m336
                have hRCRm338 := zR_CR_fr (zdis_fr (zfr_up hmm338 (zfr_rf [(28, 6)] _) hc0 rfl) rfl) hRCRm336
                have hRKNm338 := zR_KN_fr (zdis_fr (zfr_up hmm338 (zfr_rf [(28, 6)] _) hc0 rfl) rfl) hRKNm336
                have hRLRm338 := zR_LR_fr (zdis_fr (zfr_up hmm338 (zfr_rf [(28, 6)] _) hc0 rfl) rfl) hRLRm336
                have hRLTm338 := zR_LT_fr (zdis_fr (zfr_up hmm338 (zfr_rf [(28, 6)] _) hc0 rfl) rfl) hRLTm336
                have hRNSm338 := zR_NS_fr (zdis_fr (zfr_up hmm338 (zfr_rf [(28, 6)] _) hc0 rfl) rfl) hRNSm336
                have hRTRm338 := zR_TR_fr (zdis_fr (zfr_up hmm338 (zfr_rf [(28, 6)] _) hc0 rfl) rfl) hRTRm336
                have hRWDm338 := zR_WD_fr (zdis_fr (zfr_up hmm338 (zfr_rf [(28, 6)] _) hc0 rfl) rfl) hRWDm336
                refine zw_b (by omega) ?_
                refine zw_some ?_
                refine zw_b (by omega) ?_
                have r339 : 0 ≤ (m338 a0 7) ∧ (m338 a0 7) ≤ 700 := zi_rd hIm338 hc0 zb_28_7
                have e340 : (m338 a0 7) = (m307 a0 7) := (Eq.trans (zs_ne hmm338 (Or.inr (by decide))) (zs_ne hmm336 (Or.inr (by decide))))
                have r341 : 0 ≤ (m338 a0 21) ∧ (m338 a0 21) ≤ 64 := zi_rd hIm338 hc0 zb_28_21
                have e342 : (m338 a0 21) = (m0 a0 21) := (Eq.trans (zs_ne hmm338 (Or.inr (by decide))) (Eq.trans (zs_ne hmm336 (Or.inr (by decide))) (zfr_ap hfm307 hc0 rfl)))
                have r343 : 0 ≤ (m338 a0 48) ∧ (m338 a0 48) ≤ 64 := zi_rd hIm338 hc0 zb_28_48
                have e344 : (m338 a0 48) = (m0 a0 48) := (Eq.trans (zs_ne hmm338 (Or.inr (by decide))) (Eq.trans (zs_ne hmm336 (Or.inr (by decide))) (zfr_ap hfm307 hc0 rfl)))
                have r345 : (-2147483648) ≤ (m338 a0 4) ∧ (m338 a0 4) ≤ 2147483647 := zi_rd hIm338 hc0 zb_28_4
                have e346 : (m338 a0 4) = 1 := (Eq.trans (zs_ne hmm338 (Or.inr (by decide))) (zs_eq hmm336))
                exact zw_some ⟨hIm338, hFm338, hLm338, hRC0m338, hRCRm338, hRKNm338, hRLRm338, hRLTm338, hRNSm338, hRTRm338, hRWDm338, ⟨by decide, by decide⟩, fun h => absurd h (by decide), fun h => absurd h (by decide), fun h => absurd h (by decide)⟩
            · refine zw_b (by omega) ?_
              refine zw_some ?_
              refine zw_ite (fun h347 => ?_) (fun h347 => ?_)
              · refine zw_bd (zw_mono (zk_89 n hIm307 hc0 hRNSm307 hRWDm307) (fun v349 m348 hqm348 => ?_))
                obtain ⟨hIm348, hfm348, hvm348⟩ := hqm348
                have hFm348 := zfr_tr hFm307 hfm348 rfl
                have hLm348 := zlo_tr hLm307 (zlo_fr hfm348 rfl)
                obtain ⟨hRNSm348, hRTRm348, hRWDm348, hvm348⟩ := hvm348
                have hRC0m348 := zR_C0_fr (zdis_fr hfm348 rfl) hRC0m307
                have hRCRm348 := zR_CR_fr (zdis_fr hfm348 rfl) hRCRm307
                have hRKNm348 := zR_KN_fr (zdis_fr hfm348 rfl) hRKNm307
                have hRLRm348 := zR_LR_fr (zdis_fr hfm348 rfl) hRLRm307
                have hRLTm348 := zR_LT_fr (zdis_fr hfm348 rfl) hRLTm307
                have s350 := hRNSm348 a0 hc0
                have r351 : 0 ≤ (m348 a0 7) ∧ (m348 a0 7) ≤ 700 := zi_rd hIm348 hc0 zb_28_7
                have r352 : 0 ≤ (m348 a0 8) ∧ (m348 a0 8) ≤ 6 := zi_rd hIm348 hc0 zb_28_8
                refine zw_b (by omega) ?_
                have r353 : 0 ≤ (m348 a0 21) ∧ (m348 a0 21) ≤ 64 := zi_rd hIm348 hc0 zb_28_21
                have e354 : (m348 a0 21) = (m0 a0 21) := (Eq.trans (zfr_ap hfm348 hc0 rfl) (zfr_ap hfm307 hc0 rfl))
                have r355 : 0 ≤ (m348 a0 48) ∧ (m348 a0 48) ≤ 64 := zi_rd hIm348 hc0 zb_28_48
                have e356 : (m348 a0 48) = (m0 a0 48) := (Eq.trans (zfr_ap hfm348 hc0 rfl) (zfr_ap hfm307 hc0 rfl))
                have r357 : (-2147483648) ≤ (m348 a0 4) ∧ (m348 a0 4) ≤ 2147483647 := zi_rd hIm348 hc0 zb_28_4
                have e358 : (m348 a0 4) = (m307 a0 4) := (zfr_ap hfm348 hc0 rfl)
                exact zw_some ⟨hIm348, hFm348, hLm348, hRC0m348, hRCRm348, hRKNm348, hRLRm348, hRLTm348, hRNSm348, hRTRm348, hRWDm348, ⟨by decide, by decide⟩, fun _ => by omega, fun _ => by omega, fun _ => by omega⟩
              · exfalso; omega
        · refine zw_b (by omega) ?_
          have r359 : 0 ≤ (m307 a0 21) ∧ (m307 a0 21) ≤ 64 := zi_rd hIm307 hc0 zb_28_21
          have e360 : (m307 a0 21) = (m0 a0 21) := (zfr_ap hfm307 hc0 rfl)
          have r361 : 0 ≤ (m307 a0 48) ∧ (m307 a0 48) ≤ 64 := zi_rd hIm307 hc0 zb_28_48
          have e362 : (m307 a0 48) = (m0 a0 48) := (zfr_ap hfm307 hc0 rfl)
          exact zw_some ⟨hIm307, hFm307, hLm307, hRC0m307, hRCRm307, hRKNm307, hRLRm307, hRLTm307, hRNSm307, hRTRm307, hRWDm307, ⟨by decide, by decide⟩, fun h => absurd h (by decide), fun h => absurd h (by decide), fun h => absurd h (by decide)⟩
    · refine zw_bd (zw_eq (zu_call_at (zt_T n) (zm_85 n) (zdp_85 n) _ _ _ _ _ rfl (zr_85_0 n _ _ a0 1 m0)) ?_)
      generalize hmm363 : zu_up m0 a0 4 1 = m363
      have hIm363 := zi_up hmm363 hIm0 hc0 zb_28_4 (by omega) (by omega)
      have hFm363 := zfr_up hmm363 hFm0 hc0 rfl
      have hLm363 := zlo_ne hmm363 hLm0 hc0 (by decide)
      have hRC0m363 := zR_C0_fr (zdis_fr (zfr_up hmm363 (zfr_rf [(28, 5)] _) hc0 rfl) rfl) hRC0m0
      have hRCRm363 := zR_CR_fr (zdis_fr (zfr_up hmm363 (zfr_rf [(28, 5)] _) hc0 rfl) rfl) hRCRm0
      have hRKNm363 := zR_KN_fr (zdis_fr (zfr_up hmm363 (zfr_rf [(28, 5)] _) hc0 rfl) rfl) hRKNm0
      have hRLTm363 := zR_LT_fr (zdis_fr (zfr_up hmm363 (zfr_rf [(28, 5)] _) hc0 rfl) rfl) hRLTm0
      have hRNSm363 := zR_NS_fr (zdis_fr (zfr_up hmm363 (zfr_rf [(28, 5)] _) hc0 rfl) rfl) hRNSm0
      have hRTRm363 := zR_TR_fr (zdis_fr (zfr_up hmm363 (zfr_rf [(28, 5)] _) hc0 rfl) rfl) hRTRm0
      have hRWDm363 := zR_WD_fr (zdis_fr (zfr_up hmm363 (zfr_rf [(28, 5)] _) hc0 rfl) rfl) hRWDm0
      have hRLRm363 := zLR_wr (zone_190 hc0) hmm363 (by decide)
      have r364 : 0 ≤ (m363 a0 10) ∧ (m363 a0 10) ≤ 700 := zi_rd hIm363 hc0 zb_28_10
      generalize hmm365 : zu_up m363 a0 5 (m363 a0 10) = m365
      have hIm365 := zi_up hmm365 hIm363 hc0 zb_28_5 (by omega) (by omega)
      have hFm365 := zfr_up hmm365 hFm363 hc0 rfl
      have hLm365 := zlo_ne hmm365 hLm363 hc0 (by decide)
      have hRC0m365 := zR_C0_fr (zdis_fr (zfr_up hmm365 (zfr_rf [(28, 6)] _) hc0 rfl) rfl) hRC0m363
      have hRCRm365 := zR_CR_fr (zdis_fr (zfr_up hmm365 (zfr_rf [(28, 6)] _) hc0 rfl) rfl) hRCRm363
      have hRKNm365 := zR_KN_fr (zdis_fr (zfr_up hmm365 (zfr_rf [(28, 6)] _) hc0 rfl) rfl) hRKNm363
      have hRLRm365 := zR_LR_fr (zdis_fr (zfr_up hmm365 (zfr_rf [(28, 6)] _) hc0 rfl) rfl) hRLRm363
      have hRLTm365 := zR_LT_fr (zdis_fr (zfr_up hmm365 (zfr_rf [(28, 6)] _) hc0 rfl) rfl) hRLTm363
      have hRNSm365 := zR_NS_fr (zdis_fr (zfr_up hmm365 (zfr_rf [(28, 6)] _) hc0 rfl) rfl) hRNSm363
      have hRTRm365 := zR_TR_fr (zdis_fr (zfr_up hmm365 (zfr_rf [(28, 6)] _) hc0 rfl) rfl) hRTRm363
      have hRWDm365 := zR_WD_fr (zdis_fr (zfr_up hmm365 (zfr_rf [(28, 6)] _) hc0 rfl) rfl) hRWDm363
      refine zw_b (by omega) ?_
      refine zw_some ?_
      refine zw_b (by omega) ?_
      have r366 : 0 ≤ (m365 a0 7) ∧ (m365 a0 7) ≤ 700 := zi_rd hIm365 hc0 zb_28_7
      have e367 : (m365 a0 7) = (m0 a0 7) := (Eq.trans (zs_ne hmm365 (Or.inr (by decide))) (zs_ne hmm363 (Or.inr (by decide))))
      have r368 : 0 ≤ (m365 a0 21) ∧ (m365 a0 21) ≤ 64 := zi_rd hIm365 hc0 zb_28_21
      have e369 : (m365 a0 21) = (m0 a0 21) := (Eq.trans (zs_ne hmm365 (Or.inr (by decide))) (zs_ne hmm363 (Or.inr (by decide))))
      have r370 : 0 ≤ (m365 a0 48) ∧ (m365 a0 48) ≤ 64 := zi_rd hIm365 hc0 zb_28_48
      have e371 : (m365 a0 48) = (m0 a0 48) := (Eq.trans (zs_ne hmm365 (Or.inr (by decide))) (zs_ne hmm363 (Or.inr (by decide))))
      have r372 : (-2147483648) ≤ (m365 a0 4) ∧ (m365 a0 4) ≤ 2147483647 := zi_rd hIm365 hc0 zb_28_4
      have e373 : (m365 a0 4) = 1 := (Eq.trans (zs_ne hmm365 (Or.inr (by decide))) (zs_eq hmm363))
      exact zw_some ⟨hIm365, hFm365, hLm365, hRC0m365, hRCRm365, hRKNm365, hRLRm365, hRLTm365, hRNSm365, hRTRm365, hRWDm365, ⟨by decide, by decide⟩, fun h => absurd h (by decide), fun h => absurd h (by decide), fun h => absurd h (by decide)⟩
