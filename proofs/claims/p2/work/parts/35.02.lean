set_option maxHeartbeats 4000000 in
theorem zl_280 (n : Nat) {a0 : Int} {m0 : zu_m} (hc0 : zcls a0 = 9)  : ∀ k : Nat, (∀ (x1 : Int) (mh : zu_m), zi_I mh → zfr [(9, 4), (9, 5), (9, 6)] m0 mh → ((-2147483648) ≤ x1 ∧ x1 ≤ 2147483647) → (1 ≤ mh a0 2 ∧ mh a0 2 ≤ 700) → (700 - (mh a0 3)) * 1 + 37 < (k : Int) → zw (zu_ex (zt_T n) 280 2 [(22, a0), (0, x1), (2, 0)] [] mh) (fun v m => zi_I m ∧ zfr [(9, 4), (9, 5), (9, 6)] m0 m ∧ True ∧ (1 ≤ m a0 4 ∧ m a0 4 ≤ 5))) ∧ (∀ (x1 x2 : Int) (mh : zu_m), zi_I mh → zfr [(9, 4), (9, 5), (9, 6)] m0 mh → ((-2147483648) ≤ x1 ∧ x1 ≤ 2147483647) → (0 ≤ x2 ∧ x2 ≤ 36) → (1 ≤ mh a0 2 ∧ mh a0 2 ≤ 700) → (1 ≤ mh a0 4 ∧ mh a0 4 ≤ 5) → (36 - x2) * 1 + 0 < (k : Int) → zw (zu_ex (zt_T n) 280 129 [(22, a0), (0, x1), (0, x2)] [] mh) (fun v m => zi_I m ∧ zfr [(9, 4), (9, 5), (9, 6)] m0 m ∧ True ∧ (1 ≤ m a0 4 ∧ m a0 4 ≤ 5))) := by
  intro k
  induction k with
  | zero => exact ⟨fun x1 mh hImh hFmh hbx1 hg1 hM => by exfalso; omega, fun x1 x2 mh hImh hFmh hbx1 hbx2 hg2 hg3 hM => by exfalso; omega⟩
  | succ k ih =>
    refine ⟨?_, ?_⟩
    · intro x1 mh hImh hFmh hbx1 hg1 hM
      refine zw_eq (zr_280_2 n a0 x1 mh) ?_
      have r1 : 0 ≤ (mh a0 3) ∧ (mh a0 3) ≤ 700 := zi_rd hImh hc0 zb_9_3
      refine zw_ite (fun h2 => ?_) (fun h2 => ?_)
      · generalize hmm3 : zu_up mh a0 5 x1 = m3
        have hIm3 := zi_up hmm3 hImh hc0 zb_9_5 (by omega) (by omega)
        have hFm3 := zfr_up hmm3 hFmh hc0 rfl
        have r4 : 0 ≤ (m3 a0 3) ∧ (m3 a0 3) ≤ 700 := zi_rd hIm3 hc0 zb_9_3
        have e5 : (m3 a0 3) = (mh a0 3) := (zs_ne hmm3 (Or.inr (by decide)))
        have r6 : 0 ≤ (m3 a0 6) ∧ (m3 a0 6) ≤ 700 := zi_rd hIm3 hc0 zb_9_6
        have w7 := zu_w32_id (z := (m3 a0 3) - (m3 a0 6)) (by omega) (by omega)
        refine zw_ite (fun h8 => ?_) (fun h8 => ?_)
        · generalize hmm9 : zu_up m3 a0 4 2 = m9
          have hIm9 := zi_up hmm9 hIm3 hc0 zb_9_4 (by omega) (by omega)
          have hFm9 := zfr_up hmm9 hFm3 hc0 rfl
          have r10 : 0 ≤ (m9 a0 2) ∧ (m9 a0 2) ≤ 700 := zi_rd hIm9 hc0 zb_9_2
          have e11 : (m9 a0 2) = (mh a0 2) := (Eq.trans (zs_ne hmm9 (Or.inr (by decide))) (zs_ne hmm3 (Or.inr (by decide))))
          have r12 : 0 ≤ (m9 a0 4) ∧ (m9 a0 4) ≤ 5 := zi_rd hIm9 hc0 zb_9_4
          have e13 : (m9 a0 4) = 2 := (zs_eq hmm9)
          have r14 : 0 ≤ (m9 a0 3) ∧ (m9 a0 3) ≤ 700 := zi_rd hIm9 hc0 zb_9_3
          have e15 : (m9 a0 3) = (m3 a0 3) := (zs_ne hmm9 (Or.inr (by decide)))
          have hM : (36 - 0) * 1 + 0 < (k : Int) := by omega
          exact ih.2 x1 0 m9 hIm9 hFm9 ⟨by omega, by omega⟩ ⟨by omega, by omega⟩ ⟨by omega, by omega⟩ ⟨by omega, by omega⟩ hM
        · generalize hmm16 : zu_up m3 a0 4 5 = m16
          have hIm16 := zi_up hmm16 hIm3 hc0 zb_9_4 (by omega) (by omega)
          have hFm16 := zfr_up hmm16 hFm3 hc0 rfl
          have r17 : 0 ≤ (m16 a0 2) ∧ (m16 a0 2) ≤ 700 := zi_rd hIm16 hc0 zb_9_2
          have e18 : (m16 a0 2) = (mh a0 2) := (Eq.trans (zs_ne hmm16 (Or.inr (by decide))) (zs_ne hmm3 (Or.inr (by decide))))
          have r19 : 0 ≤ (m16 a0 4) ∧ (m16 a0 4) ≤ 5 := zi_rd hIm16 hc0 zb_9_4
          have e20 : (m16 a0 4) = 5 := (zs_eq hmm16)
          have r21 : 0 ≤ (m16 a0 3) ∧ (m16 a0 3) ≤ 700 := zi_rd hIm16 hc0 zb_9_3
          have e22 : (m16 a0 3) = (m3 a0 3) := (zs_ne hmm16 (Or.inr (by decide)))
          have hM : (36 - 0) * 1 + 0 < (k : Int) := by omega
          exact ih.2 x1 0 m16 hIm16 hFm16 ⟨by omega, by omega⟩ ⟨by omega, by omega⟩ ⟨by omega, by omega⟩ ⟨by omega, by omega⟩ hM
      · have b23 : 0 ≤ (mh a0 3) ∧ (mh a0 3) < 700 := by omega
        refine zw_if b23 ?_
        have r24 : (-2147483648) ≤ (mh 4 (mh a0 3)) ∧ (mh 4 (mh a0 3)) ≤ 2147483647 := zi_rd hImh zq_4 (zb_16 _)
        refine zw_ite (fun h25 => ?_) (fun h25 => ?_)
        · generalize hmm26 : zu_up mh a0 5 x1 = m26
          have hIm26 := zi_up hmm26 hImh hc0 zb_9_5 (by omega) (by omega)
          have hFm26 := zfr_up hmm26 hFmh hc0 rfl
          have r27 : 0 ≤ (m26 a0 3) ∧ (m26 a0 3) ≤ 700 := zi_rd hIm26 hc0 zb_9_3
          have e28 : (m26 a0 3) = (mh a0 3) := (zs_ne hmm26 (Or.inr (by decide)))
          have r29 : 0 ≤ (m26 a0 6) ∧ (m26 a0 6) ≤ 700 := zi_rd hIm26 hc0 zb_9_6
          have w30 := zu_w32_id (z := (m26 a0 3) - (m26 a0 6)) (by omega) (by omega)
          refine zw_ite (fun h31 => ?_) (fun h31 => ?_)
          · generalize hmm32 : zu_up m26 a0 4 2 = m32
            have hIm32 := zi_up hmm32 hIm26 hc0 zb_9_4 (by omega) (by omega)
            have hFm32 := zfr_up hmm32 hFm26 hc0 rfl
            have r33 : 0 ≤ (m32 a0 2) ∧ (m32 a0 2) ≤ 700 := zi_rd hIm32 hc0 zb_9_2
            have e34 : (m32 a0 2) = (mh a0 2) := (Eq.trans (zs_ne hmm32 (Or.inr (by decide))) (zs_ne hmm26 (Or.inr (by decide))))
            have r35 : 0 ≤ (m32 a0 4) ∧ (m32 a0 4) ≤ 5 := zi_rd hIm32 hc0 zb_9_4
            have e36 : (m32 a0 4) = 2 := (zs_eq hmm32)
            have r37 : 0 ≤ (m32 a0 3) ∧ (m32 a0 3) ≤ 700 := zi_rd hIm32 hc0 zb_9_3
            have e38 : (m32 a0 3) = (m26 a0 3) := (zs_ne hmm32 (Or.inr (by decide)))
            have hM : (36 - 0) * 1 + 0 < (k : Int) := by omega
            exact ih.2 x1 0 m32 hIm32 hFm32 ⟨by omega, by omega⟩ ⟨by omega, by omega⟩ ⟨by omega, by omega⟩ ⟨by omega, by omega⟩ hM
          · generalize hmm39 : zu_up m26 a0 4 5 = m39
            have hIm39 := zi_up hmm39 hIm26 hc0 zb_9_4 (by omega) (by omega)
            have hFm39 := zfr_up hmm39 hFm26 hc0 rfl
            have r40 : 0 ≤ (m39 a0 2) ∧ (m39 a0 2) ≤ 700 := zi_rd hIm39 hc0 zb_9_2
            have e41 : (m39 a0 2) = (mh a0 2) := (Eq.trans (zs_ne hmm39 (Or.inr (by decide))) (zs_ne hmm26 (Or.inr (by decide))))
            have r42 : 0 ≤ (m39 a0 4) ∧ (m39 a0 4) ≤ 5 := zi_rd hIm39 hc0 zb_9_4
            have e43 : (m39 a0 4) = 5 := (zs_eq hmm39)
            have r44 : 0 ≤ (m39 a0 3) ∧ (m39 a0 3) ≤ 700 := zi_rd hIm39 hc0 zb_9_3
            have e45 : (m39 a0 3) = (m26 a0 3) := (zs_ne hmm39 (Or.inr (by decide)))
            have hM : (36 - 0) * 1 + 0 < (k : Int) := by omega
            exact ih.2 x1 0 m39 hIm39 hFm39 ⟨by omega, by omega⟩ ⟨by omega, by omega⟩ ⟨by omega, by omega⟩ ⟨by omega, by omega⟩ hM
        · have b46 : 0 ≤ (mh a0 3) ∧ (mh a0 3) < 700 := by omega
          refine zw_if b46 ?_
          refine zw_ite (fun h47 => ?_) (fun h47 => ?_)
          · generalize hmm48 : zu_up mh a0 5 x1 = m48
            have hIm48 := zi_up hmm48 hImh hc0 zb_9_5 (by omega) (by omega)
            have hFm48 := zfr_up hmm48 hFmh hc0 rfl
            have r49 : 0 ≤ (m48 a0 3) ∧ (m48 a0 3) ≤ 700 := zi_rd hIm48 hc0 zb_9_3
            have e50 : (m48 a0 3) = (mh a0 3) := (zs_ne hmm48 (Or.inr (by decide)))
            have r51 : 0 ≤ (m48 a0 6) ∧ (m48 a0 6) ≤ 700 := zi_rd hIm48 hc0 zb_9_6
            have w52 := zu_w32_id (z := (m48 a0 3) - (m48 a0 6)) (by omega) (by omega)
            refine zw_ite (fun h53 => ?_) (fun h53 => ?_)
            · generalize hmm54 : zu_up m48 a0 4 2 = m54
              have hIm54 := zi_up hmm54 hIm48 hc0 zb_9_4 (by omega) (by omega)
              have hFm54 := zfr_up hmm54 hFm48 hc0 rfl
              have r55 : 0 ≤ (m54 a0 2) ∧ (m54 a0 2) ≤ 700 := zi_rd hIm54 hc0 zb_9_2
              have e56 : (m54 a0 2) = (mh a0 2) := (Eq.trans (zs_ne hmm54 (Or.inr (by decide))) (zs_ne hmm48 (Or.inr (by decide))))
              have r57 : 0 ≤ (m54 a0 4) ∧ (m54 a0 4) ≤ 5 := zi_rd hIm54 hc0 zb_9_4
              have e58 : (m54 a0 4) = 2 := (zs_eq hmm54)
              have r59 : 0 ≤ (m54 a0 3) ∧ (m54 a0 3) ≤ 700 := zi_rd hIm54 hc0 zb_9_3
              have e60 : (m54 a0 3) = (m48 a0 3) := (zs_ne hmm54 (Or.inr (by decide)))
              have hM : (36 - 0) * 1 + 0 < (k : Int) := by omega
              exact ih.2 x1 0 m54 hIm54 hFm54 ⟨by omega, by omega⟩ ⟨by omega, by omega⟩ ⟨by omega, by omega⟩ ⟨by omega, by omega⟩ hM
            · generalize hmm61 : zu_up m48 a0 4 5 = m61
              have hIm61 := zi_up hmm61 hIm48 hc0 zb_9_4 (by omega) (by omega)
              have hFm61 := zfr_up hmm61 hFm48 hc0 rfl
              have r62 : 0 ≤ (m61 a0 2) ∧ (m61 a0 2) ≤ 700 := zi_rd hIm61 hc0 zb_9_2
              have e63 : (m61 a0 2) = (mh a0 2) := (Eq.trans (zs_ne hmm61 (Or.inr (by decide))) (zs_ne hmm48 (Or.inr (by decide))))
              have r64 : 0 ≤ (m61 a0 4) ∧ (m61 a0 4) ≤ 5 := zi_rd hIm61 hc0 zb_9_4
              have e65 : (m61 a0 4) = 5 := (zs_eq hmm61)
              have r66 : 0 ≤ (m61 a0 3) ∧ (m61 a0 3) ≤ 700 := zi_rd hIm61 hc0 zb_9_3
              have e67 : (m61 a0 3) = (m48 a0 3) := (zs_ne hmm61 (Or.inr (by decide)))
              have hM : (36 - 0) * 1 + 0 < (k : Int) := by omega
              exact ih.2 x1 0 m61 hIm61 hFm61 ⟨by omega, by omega⟩ ⟨by omega, by omega⟩ ⟨by omega, by omega⟩ ⟨by omega, by omega⟩ hM
          · have r68 : 0 ≤ (mh a0 6) ∧ (mh a0 6) ≤ 700 := zi_rd hImh hc0 zb_9_6
            have w69 := zu_w32_id (z := (mh a0 3) - (mh a0 6)) (by omega) (by omega)
            refine zw_ite (fun h70 => ?_) (fun h70 => ?_)
            · have w71 := zu_w32_id (z := (mh a0 3) + 1) (by omega) (by omega)
              generalize hmm72 : zu_up mh a0 3 (zu_w32 ((mh a0 3) + 1)) = m72
              have hIm72 := zi_up hmm72 hImh hc0 zb_9_3 (by omega) (by omega)
              have hFm72 := zfr_up hmm72 hFmh hc0 rfl
              have r73 : 0 ≤ (m72 a0 2) ∧ (m72 a0 2) ≤ 700 := zi_rd hIm72 hc0 zb_9_2
              have e74 : (m72 a0 2) = (mh a0 2) := (zs_ne hmm72 (Or.inr (by decide)))
              have r75 : 0 ≤ (m72 a0 3) ∧ (m72 a0 3) ≤ 700 := zi_rd hIm72 hc0 zb_9_3
              have e76 : (m72 a0 3) = (zu_w32 ((mh a0 3) + 1)) := (zs_eq hmm72)
              have hM : (700 - (m72 a0 3)) * 1 + 37 < (k : Int) := by omega
              exact ih.1 x1 m72 hIm72 hFm72 ⟨by omega, by omega⟩ ⟨by omega, by omega⟩ hM
            · have b77 : 0 ≤ (mh a0 3) ∧ (mh a0 3) < 700 := by omega
              refine zw_if b77 ?_
              have w78 := zu_w32_id (z := (mh 4 (mh a0 3)) - 97) (by omega) (by omega)
              have w79 := zu_w32_id (z := (zu_w32 ((mh 4 (mh a0 3)) - 97)) + 1) (by omega) (by omega)
              have w80 := zu_w32_id (z := 5 - (zu_w32 ((mh a0 3) - (mh a0 6)))) (by omega) (by omega)
              have w81 := zu_w32_id (z := 5 * (zu_w32 (5 - (zu_w32 ((mh a0 3) - (mh a0 6)))))) (by omega) (by omega)
              have b82 := zu_i32_rg 5 (zu_w32 ((zu_w32 ((mh 4 (mh a0 3)) - 97)) + 1)) (zu_w32 (5 * (zu_w32 (5 - (zu_w32 ((mh a0 3) - (mh a0 6)))))))
              have b83 := zu_i32_rg 4 x1 (zu_i32 5 (zu_w32 ((zu_w32 ((mh 4 (mh a0 3)) - 97)) + 1)) (zu_w32 (5 * (zu_w32 (5 - (zu_w32 ((mh a0 3) - (mh a0 6))))))))
              have w84 := zu_w32_id (z := (mh a0 3) + 1) (by omega) (by omega)
              generalize hmm85 : zu_up mh a0 3 (zu_w32 ((mh a0 3) + 1)) = m85
              have hIm85 := zi_up hmm85 hImh hc0 zb_9_3 (by omega) (by omega)
              have hFm85 := zfr_up hmm85 hFmh hc0 rfl
              have r86 : 0 ≤ (m85 a0 2) ∧ (m85 a0 2) ≤ 700 := zi_rd hIm85 hc0 zb_9_2
              have e87 : (m85 a0 2) = (mh a0 2) := (zs_ne hmm85 (Or.inr (by decide)))
              have r88 : 0 ≤ (m85 a0 3) ∧ (m85 a0 3) ≤ 700 := zi_rd hIm85 hc0 zb_9_3
              have e89 : (m85 a0 3) = (zu_w32 ((mh a0 3) + 1)) := (zs_eq hmm85)
              have hM : (700 - (m85 a0 3)) * 1 + 37 < (k : Int) := by omega
              exact ih.1 (zu_i32 4 x1 (zu_i32 5 (zu_w32 ((zu_w32 ((mh 4 (mh a0 3)) - 97)) + 1)) (zu_w32 (5 * (zu_w32 (5 - (zu_w32 ((mh a0 3) - (mh a0 6))))))))) m85 hIm85 hFm85 ⟨by omega, by omega⟩ ⟨by omega, by omega⟩ hM
    · intro x1 x2 mh hImh hFmh hbx1 hbx2 hg2 hg3 hM
      refine zw_eq (zr_280_129 n a0 x1 x2 mh) ?_
      have r90 : 0 ≤ (mh a0 3) ∧ (mh a0 3) ≤ 700 := zi_rd hImh hc0 zb_9_3
      refine zw_ite (fun h91 => ?_) (fun h91 => ?_)
      · exact zw_some ⟨hImh, hFmh, trivial, ⟨by omega, by omega⟩⟩
      · refine zw_ite (fun h92 => ?_) (fun h92 => ?_)
        · exact zw_some ⟨hImh, hFmh, trivial, ⟨by omega, by omega⟩⟩
        · have b93 : 0 ≤ x2 ∧ x2 < 33 := by omega
          refine zw_if b93 ?_
          have r94 : (-2147483648) ≤ (mh 46 x2) ∧ (mh 46 x2) ≤ 2147483647 := zi_rd hImh zq_46 (zb_33 _)
          refine zw_ite (fun h95 => ?_) (fun h95 => ?_)
          · have w96 := zu_w32_id (z := x2 + 1) (by omega) (by omega)
            have hM : (36 - (zu_w32 (x2 + 1))) * 1 + 0 < (k : Int) := by omega
            exact ih.2 x1 (zu_w32 (x2 + 1)) mh hImh hFmh ⟨by omega, by omega⟩ ⟨by omega, by omega⟩ ⟨by omega, by omega⟩ ⟨by omega, by omega⟩ hM
          · generalize hmm97 : zu_up mh a0 4 1 = m97
            have hIm97 := zi_up hmm97 hImh hc0 zb_9_4 (by omega) (by omega)
            have hFm97 := zfr_up hmm97 hFmh hc0 rfl
            generalize hmm98 : zu_up m97 a0 5 x2 = m98
            have hIm98 := zi_up hmm98 hIm97 hc0 zb_9_5 (by omega) (by omega)
            have hFm98 := zfr_up hmm98 hFm97 hc0 rfl
            have w99 := zu_w32_id (z := x2 + 1) (by omega) (by omega)
            have r100 : 0 ≤ (m98 a0 2) ∧ (m98 a0 2) ≤ 700 := zi_rd hIm98 hc0 zb_9_2
            have e101 : (m98 a0 2) = (mh a0 2) := (Eq.trans (zs_ne hmm98 (Or.inr (by decide))) (zs_ne hmm97 (Or.inr (by decide))))
            have r102 : 0 ≤ (m98 a0 4) ∧ (m98 a0 4) ≤ 5 := zi_rd hIm98 hc0 zb_9_4
            have e103 : (m98 a0 4) = 1 := (Eq.trans (zs_ne hmm98 (Or.inr (by decide))) (zs_eq hmm97))
            have r104 : 0 ≤ (m98 a0 3) ∧ (m98 a0 3) ≤ 700 := zi_rd hIm98 hc0 zb_9_3
            have e105 : (m98 a0 3) = (mh a0 3) := (Eq.trans (zs_ne hmm98 (Or.inr (by decide))) (zs_ne hmm97 (Or.inr (by decide))))
            have hM : (36 - (zu_w32 (x2 + 1))) * 1 + 0 < (k : Int) := by omega
            exact ih.2 x1 (zu_w32 (x2 + 1)) m98 hIm98 hFm98 ⟨by omega, by omega⟩ ⟨by omega, by omega⟩ ⟨by omega, by omega⟩ ⟨by omega, by omega⟩ hM
set_option maxHeartbeats 4000000 in
theorem zk_280 (n : Nat) {a0 : Int} {m0 : zu_m} (hIm0 : zi_I m0) (hc0 : zcls a0 = 9)   (he0 : 1 ≤ m0 a0 2 ∧ m0 a0 2 ≤ 700) (he1 : 0 ≤ m0 a0 3 ∧ m0 a0 3 ≤ 699)  : zw (zu_call (zt_T n) 280 [(22, a0)] m0) (fun v m => zi_I m ∧ zfr [(9, 4), (9, 5), (9, 6)] m0 m ∧ True ∧ (1 ≤ m a0 4 ∧ m a0 4 ≤ 5)) := by
  have hFm0 : zfr [(9, 4), (9, 5), (9, 6)] m0 m0 := zfr_rf _ _
  refine zw_eq (zr_280_0 n a0 m0) ?_
  have hM : (700 - (m0 a0 3)) * 1 + 37 < ((738 : Nat) : Int) := by omega
  exact (zl_280 n (m0 := m0) hc0 738).1 0 m0 hIm0 hFm0 ⟨by omega, by omega⟩ ⟨by omega, by omega⟩ hM
set_option maxHeartbeats 4000000 in
theorem zl_281 (n : Nat) {a0 : Int} {m0 : zu_m} (hc0 : zcls a0 = 9)  : ∀ k : Nat, (∀ (mh : zu_m), zi_I mh → zfr [(9, 4), (9, 5), (9, 6)] m0 mh → (3 ≤ mh a0 4 ∧ mh a0 4 ≤ 3) → (0 ≤ mh a0 5 ∧ mh a0 5 ≤ 10000000) → (700 - (mh a0 3)) * 1 + 0 < (k : Int) → zw (zu_ex (zt_T n) 281 10 [(22, a0)] [] mh) (fun v m => zi_I m ∧ zfr [(9, 4), (9, 5), (9, 6)] m0 m ∧ True ∧ (3 ≤ m a0 4 ∧ m a0 4 ≤ 3) ∧ (0 ≤ m a0 5 ∧ m a0 5 ≤ 10000000))) := by
  intro k
  induction k with
  | zero => exact fun mh hImh hFmh hg0 hg1 hM => by exfalso; omega
  | succ k ih =>
    intro mh hImh hFmh hg0 hg1 hM
    refine zw_eq (zr_281_10 n a0 mh) ?_
    have r1 : 0 ≤ (mh a0 3) ∧ (mh a0 3) ≤ 700 := zi_rd hImh hc0 zb_9_3
    have r2 : 0 ≤ (mh a0 2) ∧ (mh a0 2) ≤ 700 := zi_rd hImh hc0 zb_9_2
    refine zw_ite (fun h3 => ?_) (fun h3 => ?_)
    · exact zw_some ⟨hImh, hFmh, trivial, ⟨by omega, by omega⟩, ⟨by omega, by omega⟩⟩
    · have b4 : 0 ≤ (mh a0 3) ∧ (mh a0 3) < 700 := by omega
      refine zw_if b4 ?_
      have r5 : (-2147483648) ≤ (mh 4 (mh a0 3)) ∧ (mh 4 (mh a0 3)) ≤ 2147483647 := zi_rd hImh zq_4 (zb_16 _)
      refine zw_ite (fun h6 => ?_) (fun h6 => ?_)
      · exact zw_some ⟨hImh, hFmh, trivial, ⟨by omega, by omega⟩, ⟨by omega, by omega⟩⟩
      · have b7 : 0 ≤ (mh a0 3) ∧ (mh a0 3) < 700 := by omega
        refine zw_if b7 ?_
        refine zw_ite (fun h8 => ?_) (fun h8 => ?_)
        · exact zw_some ⟨hImh, hFmh, trivial, ⟨by omega, by omega⟩, ⟨by omega, by omega⟩⟩
        · refine zw_ite (fun h9 => ?_) (fun h9 => ?_)
          · have w10 := zu_w32_id (z := (mh a0 5) * 10) (by omega) (by omega)
            have b11 : 0 ≤ (mh a0 3) ∧ (mh a0 3) < 700 := by omega
            refine zw_if b11 ?_
            have w12 := zu_w32_id (z := (zu_w32 ((mh a0 5) * 10)) + (mh 4 (mh a0 3))) (by omega) (by omega)
            have w13 := zu_w32_id (z := (zu_w32 ((zu_w32 ((mh a0 5) * 10)) + (mh 4 (mh a0 3)))) - 48) (by omega) (by omega)
            generalize hmm14 : zu_up mh a0 5 (zu_w32 ((zu_w32 ((zu_w32 ((mh a0 5) * 10)) + (mh 4 (mh a0 3)))) - 48)) = m14
            have hIm14 := zi_up hmm14 hImh hc0 zb_9_5 (by omega) (by omega)
            have hFm14 := zfr_up hmm14 hFmh hc0 rfl
            have r15 : 0 ≤ (m14 a0 3) ∧ (m14 a0 3) ≤ 700 := zi_rd hIm14 hc0 zb_9_3
            have e16 : (m14 a0 3) = (mh a0 3) := (zs_ne hmm14 (Or.inr (by decide)))
            have w17 := zu_w32_id (z := (m14 a0 3) + 1) (by omega) (by omega)
            generalize hmm18 : zu_up m14 a0 3 (zu_w32 ((m14 a0 3) + 1)) = m18
            have hIm18 := zi_up hmm18 hIm14 hc0 zb_9_3 (by omega) (by omega)
            have hFm18 := zfr_up hmm18 hFm14 hc0 rfl
            have r19 : 0 ≤ (m18 a0 4) ∧ (m18 a0 4) ≤ 5 := zi_rd hIm18 hc0 zb_9_4
            have e20 : (m18 a0 4) = (mh a0 4) := (Eq.trans (zs_ne hmm18 (Or.inr (by decide))) (zs_ne hmm14 (Or.inr (by decide))))
            have r21 : (-2147483648) ≤ (m18 a0 5) ∧ (m18 a0 5) ≤ 2147483647 := zi_rd hIm18 hc0 zb_9_5
            have e22 : (m18 a0 5) = (zu_w32 ((zu_w32 ((zu_w32 ((mh a0 5) * 10)) + (mh 4 (mh a0 3)))) - 48)) := (Eq.trans (zs_ne hmm18 (Or.inr (by decide))) (zs_eq hmm14))
            have r23 : 0 ≤ (m18 a0 3) ∧ (m18 a0 3) ≤ 700 := zi_rd hIm18 hc0 zb_9_3
            have e24 : (m18 a0 3) = (zu_w32 ((m14 a0 3) + 1)) := (zs_eq hmm18)
            have hM : (700 - (m18 a0 3)) * 1 + 0 < (k : Int) := by omega
            exact ih  m18 hIm18 hFm18 ⟨by omega, by omega⟩ ⟨by omega, by omega⟩ hM
          · generalize hmm25 : zu_up mh a0 5 1000000 = m25
            have hIm25 := zi_up hmm25 hImh hc0 zb_9_5 (by omega) (by omega)
            have hFm25 := zfr_up hmm25 hFmh hc0 rfl
            have r26 : 0 ≤ (m25 a0 3) ∧ (m25 a0 3) ≤ 700 := zi_rd hIm25 hc0 zb_9_3
            have e27 : (m25 a0 3) = (mh a0 3) := (zs_ne hmm25 (Or.inr (by decide)))
            have w28 := zu_w32_id (z := (m25 a0 3) + 1) (by omega) (by omega)
            generalize hmm29 : zu_up m25 a0 3 (zu_w32 ((m25 a0 3) + 1)) = m29
            have hIm29 := zi_up hmm29 hIm25 hc0 zb_9_3 (by omega) (by omega)
            have hFm29 := zfr_up hmm29 hFm25 hc0 rfl
            have r30 : 0 ≤ (m29 a0 4) ∧ (m29 a0 4) ≤ 5 := zi_rd hIm29 hc0 zb_9_4
            have e31 : (m29 a0 4) = (mh a0 4) := (Eq.trans (zs_ne hmm29 (Or.inr (by decide))) (zs_ne hmm25 (Or.inr (by decide))))
            have r32 : (-2147483648) ≤ (m29 a0 5) ∧ (m29 a0 5) ≤ 2147483647 := zi_rd hIm29 hc0 zb_9_5
            have e33 : (m29 a0 5) = 1000000 := (Eq.trans (zs_ne hmm29 (Or.inr (by decide))) (zs_eq hmm25))
            have r34 : 0 ≤ (m29 a0 3) ∧ (m29 a0 3) ≤ 700 := zi_rd hIm29 hc0 zb_9_3
            have e35 : (m29 a0 3) = (zu_w32 ((m25 a0 3) + 1)) := (zs_eq hmm29)
            have hM : (700 - (m29 a0 3)) * 1 + 0 < (k : Int) := by omega
            exact ih  m29 hIm29 hFm29 ⟨by omega, by omega⟩ ⟨by omega, by omega⟩ hM
set_option maxHeartbeats 4000000 in
theorem zk_281 (n : Nat) {a0 : Int} {m0 : zu_m} (hIm0 : zi_I m0) (hc0 : zcls a0 = 9)     : zw (zu_call (zt_T n) 281 [(22, a0)] m0) (fun v m => zi_I m ∧ zfr [(9, 4), (9, 5), (9, 6)] m0 m ∧ True ∧ (3 ≤ m a0 4 ∧ m a0 4 ≤ 3) ∧ (0 ≤ m a0 5 ∧ m a0 5 ≤ 10000000)) := by
  have hFm0 : zfr [(9, 4), (9, 5), (9, 6)] m0 m0 := zfr_rf _ _
  refine zw_eq (zr_281_0 n a0 m0) ?_
  generalize hmm36 : zu_up m0 a0 4 3 = m36
  have hIm36 := zi_up hmm36 hIm0 hc0 zb_9_4 (by omega) (by omega)
  have hFm36 := zfr_up hmm36 hFm0 hc0 rfl
  generalize hmm37 : zu_up m36 a0 5 0 = m37
  have hIm37 := zi_up hmm37 hIm36 hc0 zb_9_5 (by omega) (by omega)
  have hFm37 := zfr_up hmm37 hFm36 hc0 rfl
  have r38 : 0 ≤ (m37 a0 4) ∧ (m37 a0 4) ≤ 5 := zi_rd hIm37 hc0 zb_9_4
  have e39 : (m37 a0 4) = 3 := (Eq.trans (zs_ne hmm37 (Or.inr (by decide))) (zs_eq hmm36))
  have r40 : (-2147483648) ≤ (m37 a0 5) ∧ (m37 a0 5) ≤ 2147483647 := zi_rd hIm37 hc0 zb_9_5
  have e41 : (m37 a0 5) = 0 := (zs_eq hmm37)
  have r42 : 0 ≤ (m37 a0 3) ∧ (m37 a0 3) ≤ 700 := zi_rd hIm37 hc0 zb_9_3
  have hM : (700 - (m37 a0 3)) * 1 + 0 < ((701 : Nat) : Int) := by omega
  exact (zl_281 n (m0 := m0) hc0 701)  m37 hIm37 hFm37 ⟨by omega, by omega⟩ ⟨by omega, by omega⟩ hM
set_option maxHeartbeats 4000000 in
theorem zk_282 (n : Nat) {a0 : Int} {m0 : zu_m} (hIm0 : zi_I m0) (hc0 : zcls a0 = 9)   (he0 : 1 ≤ m0 a0 2 ∧ m0 a0 2 ≤ 700) (he1 : 1 ≤ m0 a0 3 ∧ m0 a0 3 ≤ 700) (he2 : (-1) ≤ m0 a0 5 ∧ m0 a0 5 ≤ 12)  : zw (zu_call (zt_T n) 282 [(22, a0)] m0) (fun v m => zi_I m ∧ zfr [(9, 4), (9, 6)] m0 m ∧ True ∧ (1 ≤ m a0 3 ∧ m a0 3 ≤ 700) ∧ ((-1) ≤ m a0 5 ∧ m a0 5 ≤ 12)) := by
  have hFm0 : zfr [(9, 4), (9, 6)] m0 m0 := zfr_rf _ _
  refine zw_eq (zr_282_0 n a0 m0) ?_
  refine zw_ite (fun h1 => ?_) (fun h1 => ?_)
  · refine zw_ite (fun h2 => ?_) (fun h2 => ?_)
    · refine zw_ite (fun h3 => ?_) (fun h3 => ?_)
      · refine zw_ite (fun h4 => ?_) (fun h4 => ?_)
        · exact zw_some ⟨hIm0, hFm0, trivial, ⟨by omega, by omega⟩, ⟨by omega, by omega⟩⟩
        · refine zw_ite (fun h5 => ?_) (fun h5 => ?_)
          · exact zw_some ⟨hIm0, hFm0, trivial, ⟨by omega, by omega⟩, ⟨by omega, by omega⟩⟩
          · exfalso; omega
      · exfalso; omega
    · refine zw_ite (fun h6 => ?_) (fun h6 => ?_)
      · refine zw_ite (fun h7 => ?_) (fun h7 => ?_)
        · exfalso; omega
        · refine zw_ite (fun h8 => ?_) (fun h8 => ?_)
          · refine zw_ite (fun h9 => ?_) (fun h9 => ?_)
            · exact zw_some ⟨hIm0, hFm0, trivial, ⟨by omega, by omega⟩, ⟨by omega, by omega⟩⟩
            · exfalso; omega
          · exfalso; omega
      · exfalso; omega
  · have b10 : 0 ≤ (m0 a0 3) ∧ (m0 a0 3) < 700 := by omega
    refine zw_if b10 ?_
    have r11 : (-2147483648) ≤ (m0 4 (m0 a0 3)) ∧ (m0 4 (m0 a0 3)) ≤ 2147483647 := zi_rd hIm0 zq_4 (zb_16 _)
    refine zw_ite (fun h12 => ?_) (fun h12 => ?_)
    · refine zw_ite (fun h13 => ?_) (fun h13 => ?_)
      · refine zw_ite (fun h14 => ?_) (fun h14 => ?_)
        · exact zw_some ⟨hIm0, hFm0, trivial, ⟨by omega, by omega⟩, ⟨by omega, by omega⟩⟩
        · refine zw_ite (fun h15 => ?_) (fun h15 => ?_)
          · exact zw_some ⟨hIm0, hFm0, trivial, ⟨by omega, by omega⟩, ⟨by omega, by omega⟩⟩
          · generalize hmm16 : zu_up m0 a0 5 11 = m16
            have hIm16 := zi_up hmm16 hIm0 hc0 zb_9_5 (by omega) (by omega)
            have hFm16 := zfr_up hmm16 hFm0 hc0 rfl
            have r17 : 0 ≤ (m16 a0 3) ∧ (m16 a0 3) ≤ 700 := zi_rd hIm16 hc0 zb_9_3
            have e18 : (m16 a0 3) = (m0 a0 3) := (zs_ne hmm16 (Or.inr (by decide)))
            have w19 := zu_w32_id (z := (m16 a0 3) + 1) (by omega) (by omega)
            generalize hmm20 : zu_up m16 a0 3 (zu_w32 ((m16 a0 3) + 1)) = m20
            have hIm20 := zi_up hmm20 hIm16 hc0 zb_9_3 (by omega) (by omega)
            have hFm20 := zfr_up hmm20 hFm16 hc0 rfl
            have r21 : (-2147483648) ≤ (m20 a0 5) ∧ (m20 a0 5) ≤ 2147483647 := zi_rd hIm20 hc0 zb_9_5
            have e22 : (m20 a0 5) = 11 := (Eq.trans (zs_ne hmm20 (Or.inr (by decide))) (zs_eq hmm16))
            have r23 : 0 ≤ (m20 a0 3) ∧ (m20 a0 3) ≤ 700 := zi_rd hIm20 hc0 zb_9_3
            have e24 : (m20 a0 3) = (zu_w32 ((m16 a0 3) + 1)) := (zs_eq hmm20)
            exact zw_some ⟨hIm20, hFm20, trivial, ⟨by omega, by omega⟩, ⟨by omega, by omega⟩⟩
      · exfalso; omega
    · refine zw_ite (fun h25 => ?_) (fun h25 => ?_)
      · refine zw_ite (fun h26 => ?_) (fun h26 => ?_)
        · exfalso; omega
        · refine zw_ite (fun h27 => ?_) (fun h27 => ?_)
          · refine zw_ite (fun h28 => ?_) (fun h28 => ?_)
            · exact zw_some ⟨hIm0, hFm0, trivial, ⟨by omega, by omega⟩, ⟨by omega, by omega⟩⟩
            · exfalso; omega
          · generalize hmm29 : zu_up m0 a0 5 10 = m29
            have hIm29 := zi_up hmm29 hIm0 hc0 zb_9_5 (by omega) (by omega)
            have hFm29 := zfr_up hmm29 hFm0 hc0 rfl
            have r30 : 0 ≤ (m29 a0 3) ∧ (m29 a0 3) ≤ 700 := zi_rd hIm29 hc0 zb_9_3
            have e31 : (m29 a0 3) = (m0 a0 3) := (zs_ne hmm29 (Or.inr (by decide)))
            have w32 := zu_w32_id (z := (m29 a0 3) + 1) (by omega) (by omega)
            generalize hmm33 : zu_up m29 a0 3 (zu_w32 ((m29 a0 3) + 1)) = m33
            have hIm33 := zi_up hmm33 hIm29 hc0 zb_9_3 (by omega) (by omega)
            have hFm33 := zfr_up hmm33 hFm29 hc0 rfl
            have r34 : (-2147483648) ≤ (m33 a0 5) ∧ (m33 a0 5) ≤ 2147483647 := zi_rd hIm33 hc0 zb_9_5
            have e35 : (m33 a0 5) = 10 := (Eq.trans (zs_ne hmm33 (Or.inr (by decide))) (zs_eq hmm29))
            have r36 : 0 ≤ (m33 a0 3) ∧ (m33 a0 3) ≤ 700 := zi_rd hIm33 hc0 zb_9_3
            have e37 : (m33 a0 3) = (zu_w32 ((m29 a0 3) + 1)) := (zs_eq hmm33)
            exact zw_some ⟨hIm33, hFm33, trivial, ⟨by omega, by omega⟩, ⟨by omega, by omega⟩⟩
      · generalize hmm38 : zu_up m0 a0 5 8 = m38
        have hIm38 := zi_up hmm38 hIm0 hc0 zb_9_5 (by omega) (by omega)
        have hFm38 := zfr_up hmm38 hFm0 hc0 rfl
        have r39 : 0 ≤ (m38 a0 3) ∧ (m38 a0 3) ≤ 700 := zi_rd hIm38 hc0 zb_9_3
        have e40 : (m38 a0 3) = (m0 a0 3) := (zs_ne hmm38 (Or.inr (by decide)))
        have w41 := zu_w32_id (z := (m38 a0 3) + 1) (by omega) (by omega)
        generalize hmm42 : zu_up m38 a0 3 (zu_w32 ((m38 a0 3) + 1)) = m42
        have hIm42 := zi_up hmm42 hIm38 hc0 zb_9_3 (by omega) (by omega)
        have hFm42 := zfr_up hmm42 hFm38 hc0 rfl
        have r43 : (-2147483648) ≤ (m42 a0 5) ∧ (m42 a0 5) ≤ 2147483647 := zi_rd hIm42 hc0 zb_9_5
        have e44 : (m42 a0 5) = 8 := (Eq.trans (zs_ne hmm42 (Or.inr (by decide))) (zs_eq hmm38))
        have r45 : 0 ≤ (m42 a0 3) ∧ (m42 a0 3) ≤ 700 := zi_rd hIm42 hc0 zb_9_3
        have e46 : (m42 a0 3) = (zu_w32 ((m38 a0 3) + 1)) := (zs_eq hmm42)
        exact zw_some ⟨hIm42, hFm42, trivial, ⟨by omega, by omega⟩, ⟨by omega, by omega⟩⟩
set_option maxHeartbeats 4000000 in
theorem zk_283 (n : Nat) {a0 : Int} {m0 : zu_m} (hIm0 : zi_I m0)  (ha0 : (-2147483648) ≤ a0 ∧ a0 ≤ 2147483647)    : zw (zu_call (zt_T n) 283 [(0, a0)] m0) (fun v m => zi_I m ∧ zfr [] m0 m ∧ ((-1) ≤ v ∧ v ≤ 12)) := by
  have hFm0 : zfr [] m0 m0 := zfr_rf _ _
  refine zw_eq (zr_283_0 n a0 m0) ?_
  refine zw_ite (fun h1 => ?_) (fun h1 => ?_)
  · exact zw_some ⟨hIm0, hFm0, ⟨by omega, by omega⟩⟩
  · refine zw_ite (fun h2 => ?_) (fun h2 => ?_)
    · exact zw_some ⟨hIm0, hFm0, ⟨by omega, by omega⟩⟩
    · refine zw_ite (fun h3 => ?_) (fun h3 => ?_)
      · exact zw_some ⟨hIm0, hFm0, ⟨by omega, by omega⟩⟩
      · refine zw_ite (fun h4 => ?_) (fun h4 => ?_)
        · exact zw_some ⟨hIm0, hFm0, ⟨by omega, by omega⟩⟩
        · refine zw_ite (fun h5 => ?_) (fun h5 => ?_)
          · exact zw_some ⟨hIm0, hFm0, ⟨by omega, by omega⟩⟩
          · refine zw_ite (fun h6 => ?_) (fun h6 => ?_)
            · exact zw_some ⟨hIm0, hFm0, ⟨by omega, by omega⟩⟩
            · refine zw_ite (fun h7 => ?_) (fun h7 => ?_)
              · exact zw_some ⟨hIm0, hFm0, ⟨by omega, by omega⟩⟩
              · refine zw_ite (fun h8 => ?_) (fun h8 => ?_)
                · exact zw_some ⟨hIm0, hFm0, ⟨by omega, by omega⟩⟩
                · refine zw_ite (fun h9 => ?_) (fun h9 => ?_)
                  · exact zw_some ⟨hIm0, hFm0, ⟨by omega, by omega⟩⟩
                  · refine zw_ite (fun h10 => ?_) (fun h10 => ?_)
                    · exact zw_some ⟨hIm0, hFm0, ⟨by omega, by omega⟩⟩
                    · refine zw_ite (fun h11 => ?_) (fun h11 => ?_)
                      · exact zw_some ⟨hIm0, hFm0, ⟨by omega, by omega⟩⟩
                      · refine zw_ite (fun h12 => ?_) (fun h12 => ?_)
                        · exact zw_some ⟨hIm0, hFm0, ⟨by omega, by omega⟩⟩
                        · refine zw_ite (fun h13 => ?_) (fun h13 => ?_)
                          · exact zw_some ⟨hIm0, hFm0, ⟨by omega, by omega⟩⟩
                          · refine zw_ite (fun h14 => ?_) (fun h14 => ?_)
                            · exact zw_some ⟨hIm0, hFm0, ⟨by omega, by omega⟩⟩
                            · refine zw_ite (fun h15 => ?_) (fun h15 => ?_)
                              · exact zw_some ⟨hIm0, hFm0, ⟨by omega, by omega⟩⟩
                              · refine zw_ite (fun h16 => ?_) (fun h16 => ?_)
                                · exact zw_some ⟨hIm0, hFm0, ⟨by omega, by omega⟩⟩
                                · refine zw_ite (fun h17 => ?_) (fun h17 => ?_)
                                  · exact zw_some ⟨hIm0, hFm0, ⟨by omega, by omega⟩⟩
                                  · refine zw_ite (fun h18 => ?_) (fun h18 => ?_)
                                    · exact zw_some ⟨hIm0, hFm0, ⟨by omega, by omega⟩⟩
                                    · refine zw_ite (fun h19 => ?_) (fun h19 => ?_)
                                      · exact zw_some ⟨hIm0, hFm0, ⟨by omega, by omega⟩⟩
                                      · refine zw_ite (fun h20 => ?_) (fun h20 => ?_)
                                        · exact zw_some ⟨hIm0, hFm0, ⟨by omega, by omega⟩⟩
                                        · refine zw_ite (fun h21 => ?_) (fun h21 => ?_)
                                          · exact zw_some ⟨hIm0, hFm0, ⟨by omega, by omega⟩⟩
                                          · refine zw_ite (fun h22 => ?_) (fun h22 => ?_)
                                            · exact zw_some ⟨hIm0, hFm0, ⟨by omega, by omega⟩⟩
                                            · refine zw_ite (fun h23 => ?_) (fun h23 => ?_)
                                              · exact zw_some ⟨hIm0, hFm0, ⟨by omega, by omega⟩⟩
                                              · exact zw_some ⟨hIm0, hFm0, ⟨by omega, by omega⟩⟩
set_option maxHeartbeats 4000000 in
theorem zl_288 (n : Nat) {a0 a1 a2 a3 : Int} {m0 : zu_m} (hc0 : zcls a0 = 14)  : ∀ k : Nat, (∀ (x4 : Int) (mh : zu_m), zi_I mh → zfr [(52, 0), (53, 0), (54, 0), (55, 0)] m0 mh → (1 ≤ a1 ∧ a1 ≤ 2) → (0 ≤ a2 ∧ a2 ≤ 47) → (0 ≤ a3 ∧ a3 ≤ 47) → (0 ≤ x4 ∧ x4 ≤ 48) → (48 - x4) * 1 + 24 < (k : Int) → zw (zu_ex (zt_T n) 288 3 [(33, a0), (0, a1), (0, a2), (0, a3), (0, x4), (2, 0), (2, 0)] [] mh) (fun v m => zi_I m ∧ zfr [(52, 0), (53, 0), (54, 0), (55, 0)] m0 m ∧ True)) ∧ (∀ (x4 : Int) (mh : zu_m), zi_I mh → zfr [(52, 0), (53, 0), (54, 0), (55, 0)] m0 mh → (1 ≤ a1 ∧ a1 ≤ 2) → (0 ≤ a2 ∧ a2 ≤ 47) → (0 ≤ a3 ∧ a3 ≤ 47) → (0 ≤ x4 ∧ x4 ≤ 4) → (4 - x4) * 1 + 19 < (k : Int) → zw (zu_ex (zt_T n) 288 32 [(33, a0), (0, a1), (0, a2), (0, a3), (0, x4), (2, 0), (2, 0)] [] mh) (fun v m => zi_I m ∧ zfr [(52, 0), (53, 0), (54, 0), (55, 0)] m0 m ∧ True)) ∧ (∀ (x4 x5 : Int) (mh : zu_m), zi_I mh → zfr [(52, 0), (53, 0), (54, 0), (55, 0)] m0 mh → (1 ≤ a1 ∧ a1 ≤ 2) → (0 ≤ a2 ∧ a2 ≤ 47) → (0 ≤ a3 ∧ a3 ≤ 47) → (1 ≤ x4 ∧ x4 ≤ 18) → (0 ≤ x5 ∧ x5 ≤ 18) → (18 - x5) * 1 + 0 < (k : Int) → zw (zu_ex (zt_T n) 288 84 [(33, a0), (0, a1), (0, a2), (0, a3), (0, x4), (0, x5), (2, 0)] [] mh) (fun v m => zi_I m ∧ zfr [(52, 0), (53, 0), (54, 0), (55, 0)] m0 m ∧ True)) := by
  intro k
  induction k with
  | zero => exact ⟨fun x4 mh hImh hFmh hba1 hba2 hba3 hbx4 hM => by exfalso; omega, fun x4 mh hImh hFmh hba1 hba2 hba3 hbx4 hM => by exfalso; omega, fun x4 x5 mh hImh hFmh hba1 hba2 hba3 hbx4 hbx5 hM => by exfalso; omega⟩
  | succ k ih =>
    refine ⟨?_, ?_, ?_⟩
    · intro x4 mh hImh hFmh hba1 hba2 hba3 hbx4 hM
      refine zw_eq (zr_288_3 n a0 a1 a2 a3 x4 mh) ?_
      have r1 : 1 ≤ (mh 50 2) ∧ (mh 50 2) ≤ 48 := zi_rd hImh zq_50 zb_4_2
      refine zw_ite (fun h2 => ?_) (fun h2 => ?_)
      · have hM : (4 - 0) * 1 + 19 < (k : Int) := by omega
        exact ih.2.1 0 mh hImh hFmh ⟨by omega, by omega⟩ ⟨by omega, by omega⟩ ⟨by omega, by omega⟩ ⟨by omega, by omega⟩ hM
      · have b3 : 0 ≤ x4 ∧ x4 < 48 := by omega
        refine zw_if b3 ?_
        generalize hmm4 : zu_up mh 157 x4 0 = m4
        have hIm4 := zi_up hmm4 hImh zq_157 (zb_54 _) (by omega) (by omega)
        have hFm4 := zfr_up hmm4 hFmh zq_157 rfl
        have w5 := zu_w32_id (z := x4 + 1) (by omega) (by omega)
        have hM : (48 - (zu_w32 (x4 + 1))) * 1 + 24 < (k : Int) := by omega
        exact ih.1 (zu_w32 (x4 + 1)) m4 hIm4 hFm4 ⟨by omega, by omega⟩ ⟨by omega, by omega⟩ ⟨by omega, by omega⟩ ⟨by omega, by omega⟩ hM
    · intro x4 mh hImh hFmh hba1 hba2 hba3 hbx4 hM
      refine zw_eq (zr_288_32 n a0 a1 a2 a3 x4 mh) ?_
      have r6 : 0 ≤ (mh 89 4) ∧ (mh 89 4) ≤ 4 := zi_rd hImh zq_89 zb_11_4
      refine zw_ite (fun h7 => ?_) (fun h7 => ?_)
      · have r8 : 0 ≤ (mh 89 2) ∧ (mh 89 2) ≤ 16 := zi_rd hImh zq_89 zb_11_2
        have w9 := zu_w32_id (z := (mh 89 2) + a1) (by omega) (by omega)
        have hM : (18 - 0) * 1 + 0 < (k : Int) := by omega
        exact ih.2.2 (zu_w32 ((mh 89 2) + a1)) 0 mh hImh hFmh ⟨by omega, by omega⟩ ⟨by omega, by omega⟩ ⟨by omega, by omega⟩ ⟨by omega, by omega⟩ ⟨by omega, by omega⟩ hM
      · have b10 : 0 ≤ x4 ∧ x4 < 4 := by omega
        refine zw_if b10 ?_
        have r11 : (-2147483648) ≤ (mh ((89 + 2) + 20 + x4) 6) ∧ (mh ((89 + 2) + 20 + x4) 6) ≤ 2147483647 := zi_rd hImh (zc_37_e (zc_11_3 zq_89) b10) zb_8_6
        have b12 : 0 ≤ x4 ∧ x4 < 4 := by omega
        refine zw_if b12 ?_
        generalize hmm13 : zu_up mh 158 x4 (mh ((89 + 2) + 20 + x4) 6) = m13
        have hIm13 := zi_up hmm13 hImh zq_158 (zb_55 _) (by omega) (by omega)
        have hFm13 := zfr_up hmm13 hFmh zq_158 rfl
        have w14 := zu_w32_id (z := x4 + 1) (by omega) (by omega)
        have hM : (4 - (zu_w32 (x4 + 1))) * 1 + 19 < (k : Int) := by omega
        exact ih.2.1 (zu_w32 (x4 + 1)) m13 hIm13 hFm13 ⟨by omega, by omega⟩ ⟨by omega, by omega⟩ ⟨by omega, by omega⟩ ⟨by omega, by omega⟩ hM
    · intro x4 x5 mh hImh hFmh hba1 hba2 hba3 hbx4 hbx5 hM
      refine zw_eq (zr_288_84 n a0 a1 a2 a3 x4 x5 mh) ?_
      refine zw_ite (fun h15 => ?_) (fun h15 => ?_)
      · exact zw_some ⟨hImh, hFmh, trivial⟩
      · refine zw_ite (fun h16 => ?_) (fun h16 => ?_)
        · exfalso; omega
        · have r17 : 0 ≤ (mh 89 2) ∧ (mh 89 2) ≤ 16 := zi_rd hImh zq_89 zb_11_2
          refine zw_ite (fun h18 => ?_) (fun h18 => ?_)
          · refine zw_ite (fun h19 => ?_) (fun h19 => ?_)
            · refine zw_ite (fun h20 => ?_) (fun h20 => ?_)
              · have b21 : 0 ≤ x5 ∧ x5 < 18 := by omega
                refine zw_if b21 ?_
                generalize hmm22 : zu_up mh 155 x5 a3 = m22
                have hIm22 := zi_up hmm22 hImh zq_155 (zb_52 _) (by omega) (by omega)
                have hFm22 := zfr_up hmm22 hFmh zq_155 rfl
                refine zw_ite (fun h23 => ?_) (fun h23 => ?_)
                · refine zw_b (by omega) ?_
                  have b24 : 0 ≤ x5 ∧ x5 < 18 := by omega
                  refine zw_if b24 ?_
                  generalize hmm25 : zu_up m22 156 x5 0 = m25
                  have hIm25 := zi_up hmm25 hIm22 zq_156 (zb_53 _) (by omega) (by omega)
                  have hFm25 := zfr_up hmm25 hFm22 zq_156 rfl
                  have b26 : 0 ≤ x5 ∧ x5 < 18 := by omega
                  refine zw_if b26 ?_
                  have r27 : 0 ≤ (m25 156 x5) ∧ (m25 156 x5) ≤ 1 := zi_rd hIm25 zq_156 (zb_53 _)
                  have e28 : (m25 156 x5) = 0 := (zs_eq hmm25)
                  refine zw_ite (fun h29 => ?_) (fun h29 => ?_)
                  · exfalso; omega
                  · have b30 : 0 ≤ x5 ∧ x5 < 18 := by omega
                    refine zw_if b30 ?_
                    have r31 : 0 ≤ (m25 155 x5) ∧ (m25 155 x5) ≤ 47 := zi_rd hIm25 zq_155 (zb_52 _)
                    have e32 : (m25 155 x5) = a3 := (Eq.trans (zs_ne hmm25 (Or.inl (zc_ne zq_155 zq_156 (by decide)))) (zs_eq hmm22))
                    have b33 : 0 ≤ (m25 155 x5) ∧ (m25 155 x5) < 48 := by omega
                    refine zw_if b33 ?_
                    have r34 : (-2147483648) ≤ (m25 157 (m25 155 x5)) ∧ (m25 157 (m25 155 x5)) ≤ 2147483647 := zi_rd hIm25 zq_157 (zb_54 _)
                    have w35 := zu_w32_rg ((m25 157 (m25 155 x5)) + 1)
                    have b36 : 0 ≤ (m25 155 x5) ∧ (m25 155 x5) < 48 := by omega
                    refine zw_if b36 ?_
                    generalize hmm37 : zu_up m25 157 (m25 155 x5) (zu_w32 ((m25 157 (m25 155 x5)) + 1)) = m37
                    have hIm37 := zi_up hmm37 hIm25 zq_157 (zb_54 _) (by omega) (by omega)
                    have hFm37 := zfr_up hmm37 hFm25 zq_157 rfl
                    have w38 := zu_w32_id (z := x5 + 1) (by omega) (by omega)
                    have hM : (18 - (zu_w32 (x5 + 1))) * 1 + 0 < (k : Int) := by omega
                    exact zw_le (zu_forget (zu_lr_same (zu_lr_same (zu_lr_same (zu_lr_same (zu_lr_same (zu_lr_same (zu_lr_drop zu_lr_nil)))))))) (ih.2.2 x4 (zu_w32 (x5 + 1)) m37 hIm37 hFm37 ⟨by omega, by omega⟩ ⟨by omega, by omega⟩ ⟨by omega, by omega⟩ ⟨by omega, by omega⟩ ⟨by omega, by omega⟩ hM)
                · exfalso; omega
              · have b39 : 0 ≤ x5 ∧ x5 < 18 := by omega
                refine zw_if b39 ?_
                generalize hmm40 : zu_up mh 155 x5 a2 = m40
                have hIm40 := zi_up hmm40 hImh zq_155 (zb_52 _) (by omega) (by omega)
                have hFm40 := zfr_up hmm40 hFmh zq_155 rfl
                refine zw_ite (fun h41 => ?_) (fun h41 => ?_)
                · refine zw_b (by omega) ?_
                  have b42 : 0 ≤ x5 ∧ x5 < 18 := by omega
                  refine zw_if b42 ?_
                  generalize hmm43 : zu_up m40 156 x5 0 = m43
                  have hIm43 := zi_up hmm43 hIm40 zq_156 (zb_53 _) (by omega) (by omega)
                  have hFm43 := zfr_up hmm43 hFm40 zq_156 rfl
                  have b44 : 0 ≤ x5 ∧ x5 < 18 := by omega
                  refine zw_if b44 ?_
                  have r45 : 0 ≤ (m43 156 x5) ∧ (m43 156 x5) ≤ 1 := zi_rd hIm43 zq_156 (zb_53 _)
                  have e46 : (m43 156 x5) = 0 := (zs_eq hmm43)
                  refine zw_ite (fun h47 => ?_) (fun h47 => ?_)
                  · exfalso; omega
                  · have b48 : 0 ≤ x5 ∧ x5 < 18 := by omega
                    refine zw_if b48 ?_
                    have r49 : 0 ≤ (m43 155 x5) ∧ (m43 155 x5) ≤ 47 := zi_rd hIm43 zq_155 (zb_52 _)
                    have e50 : (m43 155 x5) = a2 := (Eq.trans (zs_ne hmm43 (Or.inl (zc_ne zq_155 zq_156 (by decide)))) (zs_eq hmm40))
                    have b51 : 0 ≤ (m43 155 x5) ∧ (m43 155 x5) < 48 := by omega
                    refine zw_if b51 ?_
                    have r52 : (-2147483648) ≤ (m43 157 (m43 155 x5)) ∧ (m43 157 (m43 155 x5)) ≤ 2147483647 := zi_rd hIm43 zq_157 (zb_54 _)
                    have w53 := zu_w32_rg ((m43 157 (m43 155 x5)) + 1)
                    have b54 : 0 ≤ (m43 155 x5) ∧ (m43 155 x5) < 48 := by omega
                    refine zw_if b54 ?_
                    generalize hmm55 : zu_up m43 157 (m43 155 x5) (zu_w32 ((m43 157 (m43 155 x5)) + 1)) = m55
                    have hIm55 := zi_up hmm55 hIm43 zq_157 (zb_54 _) (by omega) (by omega)
                    have hFm55 := zfr_up hmm55 hFm43 zq_157 rfl
                    have w56 := zu_w32_id (z := x5 + 1) (by omega) (by omega)
                    have hM : (18 - (zu_w32 (x5 + 1))) * 1 + 0 < (k : Int) := by omega
                    exact zw_le (zu_forget (zu_lr_same (zu_lr_same (zu_lr_same (zu_lr_same (zu_lr_same (zu_lr_same (zu_lr_drop zu_lr_nil)))))))) (ih.2.2 x4 (zu_w32 (x5 + 1)) m55 hIm55 hFm55 ⟨by omega, by omega⟩ ⟨by omega, by omega⟩ ⟨by omega, by omega⟩ ⟨by omega, by omega⟩ ⟨by omega, by omega⟩ hM)
                · exfalso; omega
            · exfalso; omega
          · refine zw_ite (fun h57 => ?_) (fun h57 => ?_)
            · exfalso; omega
            · have b58 : 0 ≤ x5 ∧ x5 < 16 := by omega
              refine zw_if b58 ?_
              have r59 : 0 ≤ (mh ((89 + 1) + 5 + x5) 0) ∧ (mh ((89 + 1) + 5 + x5) 0) ≤ 47 := zi_rd hImh (zc_36_e (zc_11_1 zq_89) b58) zb_7_0
              have b60 : 0 ≤ x5 ∧ x5 < 18 := by omega
              refine zw_if b60 ?_
              generalize hmm61 : zu_up mh 155 x5 (mh ((89 + 1) + 5 + x5) 0) = m61
              have hIm61 := zi_up hmm61 hImh zq_155 (zb_52 _) (by omega) (by omega)
              have hFm61 := zfr_up hmm61 hFmh zq_155 rfl
              refine zw_ite (fun h62 => ?_) (fun h62 => ?_)
              · exfalso; omega
              · have b63 : 0 ≤ x5 ∧ x5 < 16 := by omega
                refine zw_if b63 ?_
                have r64 : (-3) ≤ (m61 ((89 + 1) + 5 + x5) 3) ∧ (m61 ((89 + 1) + 5 + x5) 3) ≤ 3 := zi_rd hIm61 (zc_36_e (zc_11_1 zq_89) b63) zb_7_3
                refine zw_ite (fun h65 => ?_) (fun h65 => ?_)
                · refine zw_b (by omega) ?_
                  have b66 : 0 ≤ x5 ∧ x5 < 18 := by omega
                  refine zw_if b66 ?_
                  generalize hmm67 : zu_up m61 156 x5 0 = m67
                  have hIm67 := zi_up hmm67 hIm61 zq_156 (zb_53 _) (by omega) (by omega)
                  have hFm67 := zfr_up hmm67 hFm61 zq_156 rfl
                  have b68 : 0 ≤ x5 ∧ x5 < 18 := by omega
                  refine zw_if b68 ?_
                  have r69 : 0 ≤ (m67 156 x5) ∧ (m67 156 x5) ≤ 1 := zi_rd hIm67 zq_156 (zb_53 _)
                  have e70 : (m67 156 x5) = 0 := (zs_eq hmm67)
                  refine zw_ite (fun h71 => ?_) (fun h71 => ?_)
                  · exfalso; omega
                  · have b72 : 0 ≤ x5 ∧ x5 < 18 := by omega
                    refine zw_if b72 ?_
                    have r73 : 0 ≤ (m67 155 x5) ∧ (m67 155 x5) ≤ 47 := zi_rd hIm67 zq_155 (zb_52 _)
                    have e74 : (m67 155 x5) = (mh ((89 + 1) + 5 + x5) 0) := (Eq.trans (zs_ne hmm67 (Or.inl (zc_ne zq_155 zq_156 (by decide)))) (zs_eq hmm61))
                    have b75 : 0 ≤ (m67 155 x5) ∧ (m67 155 x5) < 48 := by omega
                    refine zw_if b75 ?_
                    have r76 : (-2147483648) ≤ (m67 157 (m67 155 x5)) ∧ (m67 157 (m67 155 x5)) ≤ 2147483647 := zi_rd hIm67 zq_157 (zb_54 _)
                    have w77 := zu_w32_rg ((m67 157 (m67 155 x5)) + 1)
                    have b78 : 0 ≤ (m67 155 x5) ∧ (m67 155 x5) < 48 := by omega
                    refine zw_if b78 ?_
                    generalize hmm79 : zu_up m67 157 (m67 155 x5) (zu_w32 ((m67 157 (m67 155 x5)) + 1)) = m79
                    have hIm79 := zi_up hmm79 hIm67 zq_157 (zb_54 _) (by omega) (by omega)
                    have hFm79 := zfr_up hmm79 hFm67 zq_157 rfl
                    have w80 := zu_w32_id (z := x5 + 1) (by omega) (by omega)
                    have hM : (18 - (zu_w32 (x5 + 1))) * 1 + 0 < (k : Int) := by omega
                    exact zw_le (zu_forget (zu_lr_same (zu_lr_same (zu_lr_same (zu_lr_same (zu_lr_same (zu_lr_same (zu_lr_drop zu_lr_nil)))))))) (ih.2.2 x4 (zu_w32 (x5 + 1)) m79 hIm79 hFm79 ⟨by omega, by omega⟩ ⟨by omega, by omega⟩ ⟨by omega, by omega⟩ ⟨by omega, by omega⟩ ⟨by omega, by omega⟩ hM)
                · refine zw_b (by omega) ?_
                  have b81 : 0 ≤ x5 ∧ x5 < 18 := by omega
                  refine zw_if b81 ?_
                  generalize hmm82 : zu_up m61 156 x5 1 = m82
                  have hIm82 := zi_up hmm82 hIm61 zq_156 (zb_53 _) (by omega) (by omega)
                  have hFm82 := zfr_up hmm82 hFm61 zq_156 rfl
                  have b83 : 0 ≤ x5 ∧ x5 < 18 := by omega
                  refine zw_if b83 ?_
                  have r84 : 0 ≤ (m82 156 x5) ∧ (m82 156 x5) ≤ 1 := zi_rd hIm82 zq_156 (zb_53 _)
                  have e85 : (m82 156 x5) = 1 := (zs_eq hmm82)
                  refine zw_ite (fun h86 => ?_) (fun h86 => ?_)
                  · have w87 := zu_w32_id (z := x5 + 1) (by omega) (by omega)
                    have hM : (18 - (zu_w32 (x5 + 1))) * 1 + 0 < (k : Int) := by omega
                    exact zw_le (zu_forget (zu_lr_same (zu_lr_same (zu_lr_same (zu_lr_same (zu_lr_same (zu_lr_same (zu_lr_drop zu_lr_nil)))))))) (ih.2.2 x4 (zu_w32 (x5 + 1)) m82 hIm82 hFm82 ⟨by omega, by omega⟩ ⟨by omega, by omega⟩ ⟨by omega, by omega⟩ ⟨by omega, by omega⟩ ⟨by omega, by omega⟩ hM)
                  · exfalso; omega
set_option maxHeartbeats 4000000 in
theorem zk_288 (n : Nat) {a0 a1 a2 a3 : Int} {m0 : zu_m} (hIm0 : zi_I m0) (hc0 : zcls a0 = 14) (ha1 : 1 ≤ a1 ∧ a1 ≤ 2) (ha2 : 0 ≤ a2 ∧ a2 ≤ 47) (ha3 : 0 ≤ a3 ∧ a3 ≤ 47)    : zw (zu_call (zt_T n) 288 [(33, a0), (0, a1), (0, a2), (0, a3)] m0) (fun v m => zi_I m ∧ zfr [(52, 0), (53, 0), (54, 0), (55, 0)] m0 m ∧ True) := by
  have hFm0 : zfr [(52, 0), (53, 0), (54, 0), (55, 0)] m0 m0 := zfr_rf _ _
  refine zw_eq (zr_288_0 n a0 a1 a2 a3 m0) ?_
  have hM : (48 - 0) * 1 + 24 < ((73 : Nat) : Int) := by omega
  exact (zl_288 n (m0 := m0) hc0 73).1 0 m0 hIm0 hFm0 ⟨by omega, by omega⟩ ⟨by omega, by omega⟩ ⟨by omega, by omega⟩ ⟨by omega, by omega⟩ hM
set_option maxHeartbeats 4000000 in
theorem zl_289 (n : Nat) {a0 a1 : Int} {m0 : zu_m} (hc0 : zcls a0 = 14)  : ∀ k : Nat, (∀ (x2 : Int) (mh : zu_m), zi_I mh → zfr [(53, 0), (54, 0)] m0 mh → (1 ≤ a1 ∧ a1 ≤ 18) → (0 ≤ x2 ∧ x2 ≤ 18) → (18 - x2) * 1 + 0 < (k : Int) → zw (zu_ex (zt_T n) 289 2 [(33, a0), (0, a1), (0, x2)] [] mh) (fun v m => zi_I m ∧ zfr [(53, 0), (54, 0)] m0 m ∧ True)) := by
  intro k
  induction k with
  | zero => exact fun x2 mh hImh hFmh hba1 hbx2 hM => by exfalso; omega
  | succ k ih =>
    intro x2 mh hImh hFmh hba1 hbx2 hM
    refine zw_eq (zr_289_2 n a0 a1 x2 mh) ?_
    refine zw_ite (fun h1 => ?_) (fun h1 => ?_)
    · exact zw_some ⟨hImh, hFmh, trivial⟩
    · refine zw_ite (fun h2 => ?_) (fun h2 => ?_)
      · exfalso; omega
      · have b3 : 0 ≤ x2 ∧ x2 < 18 := by omega
        refine zw_if b3 ?_
        have r4 : 0 ≤ (mh 156 x2) ∧ (mh 156 x2) ≤ 1 := zi_rd hImh zq_156 (zb_53 _)
        refine zw_ite (fun h5 => ?_) (fun h5 => ?_)
        · have w6 := zu_w32_id (z := x2 + 1) (by omega) (by omega)
          have hM : (18 - (zu_w32 (x2 + 1))) * 1 + 0 < (k : Int) := by omega
          exact ih (zu_w32 (x2 + 1)) mh hImh hFmh ⟨by omega, by omega⟩ ⟨by omega, by omega⟩ hM
        · have b7 : 0 ≤ x2 ∧ x2 < 18 := by omega
          refine zw_if b7 ?_
          have r8 : 0 ≤ (mh 155 x2) ∧ (mh 155 x2) ≤ 47 := zi_rd hImh zq_155 (zb_52 _)
          have b9 : 0 ≤ (mh 155 x2) ∧ (mh 155 x2) < 48 := by omega
          refine zw_if b9 ?_
          have r10 : 0 ≤ (mh (50 + 3) (mh 155 x2)) ∧ (mh (50 + 3) (mh 155 x2)) ≤ 3 := zi_rd hImh (zc_4_8 zq_50) (zb_19 _)
          refine zw_ite (fun h11 => ?_) (fun h11 => ?_)
          · have w12 := zu_w32_id (z := x2 + 1) (by omega) (by omega)
            have hM : (18 - (zu_w32 (x2 + 1))) * 1 + 0 < (k : Int) := by omega
            exact ih (zu_w32 (x2 + 1)) mh hImh hFmh ⟨by omega, by omega⟩ ⟨by omega, by omega⟩ hM
          · refine zw_b (by omega) ?_
            have b13 : 0 ≤ x2 ∧ x2 < 18 := by omega
            refine zw_if b13 ?_
            generalize hmm14 : zu_up mh 156 x2 1 = m14
            have hIm14 := zi_up hmm14 hImh zq_156 (zb_53 _) (by omega) (by omega)
            have hFm14 := zfr_up hmm14 hFmh zq_156 rfl
            have b15 : 0 ≤ x2 ∧ x2 < 18 := by omega
            refine zw_if b15 ?_
            have r16 : 0 ≤ (m14 155 x2) ∧ (m14 155 x2) ≤ 47 := zi_rd hIm14 zq_155 (zb_52 _)
            have e17 : (m14 155 x2) = (mh 155 x2) := (zs_ne hmm14 (Or.inl (zc_ne zq_155 zq_156 (by decide))))
            have b18 : 0 ≤ (m14 155 x2) ∧ (m14 155 x2) < 48 := by omega
            refine zw_if b18 ?_
            have r19 : (-2147483648) ≤ (m14 157 (m14 155 x2)) ∧ (m14 157 (m14 155 x2)) ≤ 2147483647 := zi_rd hIm14 zq_157 (zb_54 _)
            have w20 := zu_w32_rg ((m14 157 (m14 155 x2)) - 1)
            have b21 : 0 ≤ (m14 155 x2) ∧ (m14 155 x2) < 48 := by omega
            refine zw_if b21 ?_
            generalize hmm22 : zu_up m14 157 (m14 155 x2) (zu_w32 ((m14 157 (m14 155 x2)) - 1)) = m22
            have hIm22 := zi_up hmm22 hIm14 zq_157 (zb_54 _) (by omega) (by omega)
            have hFm22 := zfr_up hmm22 hFm14 zq_157 rfl
            have w23 := zu_w32_id (z := x2 + 1) (by omega) (by omega)
            have hM : (18 - (zu_w32 (x2 + 1))) * 1 + 0 < (k : Int) := by omega
            exact ih (zu_w32 (x2 + 1)) m22 hIm22 hFm22 ⟨by omega, by omega⟩ ⟨by omega, by omega⟩ hM
set_option maxHeartbeats 4000000 in
theorem zk_289 (n : Nat) {a0 a1 : Int} {m0 : zu_m} (hIm0 : zi_I m0) (hc0 : zcls a0 = 14) (ha1 : 1 ≤ a1 ∧ a1 ≤ 18)    : zw (zu_call (zt_T n) 289 [(33, a0), (0, a1)] m0) (fun v m => zi_I m ∧ zfr [(53, 0), (54, 0)] m0 m ∧ True) := by
  have hFm0 : zfr [(53, 0), (54, 0)] m0 m0 := zfr_rf _ _
  refine zw_eq (zr_289_0 n a0 a1 m0) ?_
  have hM : (18 - 0) * 1 + 0 < ((19 : Nat) : Int) := by omega
  exact (zl_289 n (m0 := m0) hc0 19) 0 m0 hIm0 hFm0 ⟨by omega, by omega⟩ ⟨by omega, by omega⟩ hM
set_option maxHeartbeats 4000000 in
theorem zl_293 (n : Nat) {a0 : Int} {m0 : zu_m} (hc0 : zcls a0 = 14)  : ∀ k : Nat, (∀ (x1 x2 x3 : Int) (mh : zu_m), zi_I mh → zfr [] m0 mh → ((-2147483648) ≤ x1 ∧ x1 ≤ 2147483647) → ((-2147483648) ≤ x2 ∧ x2 ≤ 2147483647) → (1 ≤ x3 ∧ x3 ≤ 4) → (4 - x3) * 1 + 0 < (k : Int) → zw (zu_ex (zt_T n) 293 16 [(33, a0), (0, x1), (0, x2), (0, x3)] [] mh) (fun v m => zi_I m ∧ zfr [] m0 m ∧ ((-2147483648) ≤ v ∧ v ≤ 2147483647))) := by
  intro k
  induction k with
  | zero => exact fun x1 x2 x3 mh hImh hFmh hbx1 hbx2 hbx3 hM => by exfalso; omega
  | succ k ih =>
    intro x1 x2 x3 mh hImh hFmh hbx1 hbx2 hbx3 hM
    refine zw_eq (zr_293_16 n a0 x1 x2 x3 mh) ?_
    have r1 : 0 ≤ (mh 89 4) ∧ (mh 89 4) ≤ 4 := zi_rd hImh zq_89 zb_11_4
    refine zw_ite (fun h2 => ?_) (fun h2 => ?_)
    · have w3 := zu_w32_rg (x1 - x2)
      exact zw_some ⟨hImh, hFmh, ⟨by omega, by omega⟩⟩
    · have b4 : 0 ≤ x3 ∧ x3 < 4 := by omega
      refine zw_if b4 ?_
      have r5 : (-2147483648) ≤ (mh 158 x3) ∧ (mh 158 x3) ≤ 2147483647 := zi_rd hImh zq_158 (zb_55 _)
      have k6 := zmax_bd x1 (mh 158 x3)
      have b7 : 0 ≤ x3 ∧ x3 < 4 := by omega
      refine zw_if b7 ?_
      have k8 := zmin_bd x2 (mh 158 x3)
      have w9 := zu_w32_id (z := x3 + 1) (by omega) (by omega)
      have hM : (4 - (zu_w32 (x3 + 1))) * 1 + 0 < (k : Int) := by omega
      exact ih (zu_max x1 (mh 158 x3)) (zu_min x2 (mh 158 x3)) (zu_w32 (x3 + 1)) mh hImh hFmh ⟨by omega, by omega⟩ ⟨by omega, by omega⟩ ⟨by omega, by omega⟩ hM
set_option maxHeartbeats 4000000 in
theorem zk_293 (n : Nat) {a0 : Int} {m0 : zu_m} (hIm0 : zi_I m0) (hc0 : zcls a0 = 14)     : zw (zu_call (zt_T n) 293 [(33, a0)] m0) (fun v m => zi_I m ∧ zfr [] m0 m ∧ ((-2147483648) ≤ v ∧ v ≤ 2147483647)) := by
  have hFm0 : zfr [] m0 m0 := zfr_rf _ _
  refine zw_eq (zr_293_0 n a0 m0) ?_
  have b10 : 0 ≤ (0 : Int) ∧ (0 : Int) < 4 := by omega
  refine zw_if b10 ?_
  have r11 : (-2147483648) ≤ (m0 158 0) ∧ (m0 158 0) ≤ 2147483647 := zi_rd hIm0 zq_158 (zb_55 _)
  have b12 : 0 ≤ (0 : Int) ∧ (0 : Int) < 4 := by omega
  refine zw_if b12 ?_
  have hM : (4 - 1) * 1 + 0 < ((4 : Nat) : Int) := by omega
  exact (zl_293 n (m0 := m0) hc0 4) (m0 158 0) (m0 158 0) 1 m0 hIm0 hFm0 ⟨by omega, by omega⟩ ⟨by omega, by omega⟩ ⟨by omega, by omega⟩ hM
set_option maxHeartbeats 4000000 in
theorem zl_295 (n : Nat) {a0 a1 : Int} {m0 : zu_m} (hc0 : zcls a0 = 14)  : ∀ k : Nat, (∀ (x2 : Int) (mh : zu_m), zi_I mh → zfr [(14, 19), (59, 0)] m0 mh → (0 ≤ a1 ∧ a1 ≤ 999000) → (0 ≤ x2 ∧ x2 ≤ 4) → (1 ≤ mh a0 18 ∧ mh a0 18 ≤ 4) → (x2 - 0) * 1 + 0 < (k : Int) → zw (zu_ex (zt_T n) 295 23 [(33, a0), (0, a1), (0, x2)] [] mh) (fun v m => zi_I m ∧ zfr [(14, 19), (59, 0)] m0 m ∧ True ∧ (1 ≤ m a0 18 ∧ m a0 18 ≤ 4))) := by
  intro k
  induction k with
  | zero => exact fun x2 mh hImh hFmh hba1 hbx2 hg2 hM => by exfalso; omega
  | succ k ih =>
    intro x2 mh hImh hFmh hba1 hbx2 hg2 hM
    refine zw_eq (zr_295_23 n a0 a1 x2 mh) ?_
    refine zw_ite (fun h1 => ?_) (fun h1 => ?_)
    · refine zw_ite (fun h2 => ?_) (fun h2 => ?_)
      · exfalso; omega
      · have b3 : 0 ≤ x2 ∧ x2 < 4 := by omega
        refine zw_if b3 ?_
        generalize hmm4 : zu_up mh 162 x2 a1 = m4
        have hIm4 := zi_up hmm4 hImh zq_162 (zb_59 _) (by omega) (by omega)
        have hFm4 := zfr_up hmm4 hFmh zq_162 rfl
        have r5 : 0 ≤ (m4 a0 18) ∧ (m4 a0 18) ≤ 4 := zi_rd hIm4 hc0 zb_14_18
        have e6 : (m4 a0 18) = (mh a0 18) := (zs_ne hmm4 (Or.inl (zc_ne hc0 zq_162 (by decide))))
        exact zw_some ⟨hIm4, hFm4, trivial, ⟨by omega, by omega⟩⟩
    · have w7 := zu_w32_id (z := x2 - 1) (by omega) (by omega)
      have b8 : 0 ≤ (zu_w32 (x2 - 1)) ∧ (zu_w32 (x2 - 1)) < 4 := by omega
      refine zw_if b8 ?_
      have r9 : 0 ≤ (mh 162 (zu_w32 (x2 - 1))) ∧ (mh 162 (zu_w32 (x2 - 1))) ≤ 999000 := zi_rd hImh zq_162 (zb_59 _)
      refine zw_ite (fun h10 => ?_) (fun h10 => ?_)
      · refine zw_ite (fun h11 => ?_) (fun h11 => ?_)
        · exact zw_some ⟨hImh, hFmh, trivial, ⟨by omega, by omega⟩⟩
        · have b12 : 0 ≤ x2 ∧ x2 < 4 := by omega
          refine zw_if b12 ?_
          generalize hmm13 : zu_up mh 162 x2 a1 = m13
          have hIm13 := zi_up hmm13 hImh zq_162 (zb_59 _) (by omega) (by omega)
          have hFm13 := zfr_up hmm13 hFmh zq_162 rfl
          have r14 : 0 ≤ (m13 a0 18) ∧ (m13 a0 18) ≤ 4 := zi_rd hIm13 hc0 zb_14_18
          have e15 : (m13 a0 18) = (mh a0 18) := (zs_ne hmm13 (Or.inl (zc_ne hc0 zq_162 (by decide))))
          exact zw_some ⟨hIm13, hFm13, trivial, ⟨by omega, by omega⟩⟩
      · refine zw_ite (fun h16 => ?_) (fun h16 => ?_)
        · have w17 := zu_w32_id (z := x2 + (-1)) (by omega) (by omega)
          have hM : ((zu_w32 (x2 + (-1))) - 0) * 1 + 0 < (k : Int) := by omega
          exact ih (zu_w32 (x2 + (-1))) mh hImh hFmh ⟨by omega, by omega⟩ ⟨by omega, by omega⟩ ⟨by omega, by omega⟩ hM
        · have b18 : 0 ≤ (zu_w32 (x2 - 1)) ∧ (zu_w32 (x2 - 1)) < 4 := by omega
          refine zw_if b18 ?_
          have b19 : 0 ≤ x2 ∧ x2 < 4 := by omega
          refine zw_if b19 ?_
          generalize hmm20 : zu_up mh 162 x2 (mh 162 (zu_w32 (x2 - 1))) = m20
          have hIm20 := zi_up hmm20 hImh zq_162 (zb_59 _) (by omega) (by omega)
          have hFm20 := zfr_up hmm20 hFmh zq_162 rfl
          have w21 := zu_w32_id (z := x2 + (-1)) (by omega) (by omega)
          have r22 : 0 ≤ (m20 a0 18) ∧ (m20 a0 18) ≤ 4 := zi_rd hIm20 hc0 zb_14_18
          have e23 : (m20 a0 18) = (mh a0 18) := (zs_ne hmm20 (Or.inl (zc_ne hc0 zq_162 (by decide))))
          have hM : ((zu_w32 (x2 + (-1))) - 0) * 1 + 0 < (k : Int) := by omega
          exact ih (zu_w32 (x2 + (-1))) m20 hIm20 hFm20 ⟨by omega, by omega⟩ ⟨by omega, by omega⟩ ⟨by omega, by omega⟩ hM
set_option maxHeartbeats 4000000 in
theorem zk_295 (n : Nat) {a0 a1 : Int} {m0 : zu_m} (hIm0 : zi_I m0) (hc0 : zcls a0 = 14) (ha1 : 0 ≤ a1 ∧ a1 ≤ 999000)    : zw (zu_call (zt_T n) 295 [(33, a0), (0, a1)] m0) (fun v m => zi_I m ∧ zfr [(14, 19), (59, 0)] m0 m ∧ True ∧ (1 ≤ m a0 18 ∧ m a0 18 ≤ 4)) := by
  have hFm0 : zfr [(14, 19), (59, 0)] m0 m0 := zfr_rf _ _
  refine zw_eq (zr_295_0 n a0 a1 m0) ?_
  have r24 : 0 ≤ (m0 a0 18) ∧ (m0 a0 18) ≤ 4 := zi_rd hIm0 hc0 zb_14_18
  refine zw_ite (fun h25 => ?_) (fun h25 => ?_)
  · have hM : ((m0 a0 18) - 0) * 1 + 0 < ((5 : Nat) : Int) := by omega
    exact (zl_295 n (m0 := m0) hc0 5) (m0 a0 18) m0 hIm0 hFm0 ⟨by omega, by omega⟩ ⟨by omega, by omega⟩ ⟨by omega, by omega⟩ hM
  · have w26 := zu_w32_id (z := (m0 a0 18) + 1) (by omega) (by omega)
    generalize hmm27 : zu_up m0 a0 18 (zu_w32 ((m0 a0 18) + 1)) = m27
    have hIm27 := zi_up hmm27 hIm0 hc0 zb_14_18 (by omega) (by omega)
    have hFm27 := zfr_up hmm27 hFm0 hc0 rfl
    have r28 : 0 ≤ (m27 a0 18) ∧ (m27 a0 18) ≤ 4 := zi_rd hIm27 hc0 zb_14_18
    have e29 : (m27 a0 18) = (zu_w32 ((m0 a0 18) + 1)) := (zs_eq hmm27)
    have hM : ((m0 a0 18) - 0) * 1 + 0 < ((5 : Nat) : Int) := by omega
    exact (zl_295 n (m0 := m0) hc0 5) (m0 a0 18) m27 hIm27 hFm27 ⟨by omega, by omega⟩ ⟨by omega, by omega⟩ ⟨by omega, by omega⟩ hM
set_option maxHeartbeats 4000000 in
theorem zk_296 (n : Nat) {a0 a1 a2 : Int} {m0 : zu_m} (hIm0 : zi_I m0) (hc0 : zcls a0 = 14) (ha1 : 0 ≤ a1 ∧ a1 ≤ 3) (ha2 : 0 ≤ a2 ∧ a2 ≤ 3)    : zw (zu_call (zt_T n) 296 [(33, a0), (0, a1), (0, a2)] m0) (fun v m => zi_I m ∧ zfr [] m0 m ∧ (0 ≤ v ∧ v ≤ 999000)) := by
  have hFm0 : zfr [] m0 m0 := zfr_rf _ _
  refine zw_eq (zr_296_0 n a0 a1 a2 m0) ?_
  refine zw_ite (fun h1 => ?_) (fun h1 => ?_)
  · have b2 : 0 ≤ a1 ∧ a1 < 4 := by omega
    refine zw_if b2 ?_
    have r3 : 0 ≤ (m0 162 a1) ∧ (m0 162 a1) ≤ 999000 := zi_rd hIm0 zq_162 (zb_59 _)
    exact zw_some ⟨hIm0, hFm0, ⟨by omega, by omega⟩⟩
  · have b4 : 0 ≤ a1 ∧ a1 < 4 := by omega
    refine zw_if b4 ?_
    have r5 : 0 ≤ (m0 162 a1) ∧ (m0 162 a1) ≤ 999000 := zi_rd hIm0 zq_162 (zb_59 _)
    refine zw_nif (by omega) ?_
    have d6 : Int.tdiv (m0 162 a1) 2 = (m0 162 a1) / 2 := Int.tdiv_eq_ediv_of_nonneg (by omega)
    have w7 := zu_w32_id (z := Int.tdiv (m0 162 a1) 2) (by omega) (by omega)
    exact zw_some ⟨hIm0, hFm0, ⟨by omega, by omega⟩⟩
set_option maxHeartbeats 4000000 in
theorem zl_306 (n : Nat) {a0 : Int} {m0 : zu_m} (hc0 : zcls a0 = 13)  : ∀ k : Nat, (∀ (x1 : Int) (mh : zu_m), zi_I mh → zfr [(13, 5), (47, 0), (48, 0), (49, 0), (50, 0)] m0 mh → (1 ≤ x1 ∧ x1 ≤ 20) → (20 ≤ mh a0 4 ∧ mh a0 4 ≤ 20) → (20 - x1) * 1 + 0 < (k : Int) → zw (zu_ex (zt_T n) 306 2 [(31, a0), (0, x1)] [] mh) (fun v m => zi_I m ∧ zfr [(13, 5), (47, 0), (48, 0), (49, 0), (50, 0)] m0 m ∧ True ∧ (19 ≤ m a0 4 ∧ m a0 4 ≤ 19))) := by
  intro k
  induction k with
  | zero => exact fun x1 mh hImh hFmh hbx1 hg1 hM => by exfalso; omega
  | succ k ih =>
    intro x1 mh hImh hFmh hbx1 hg1 hM
    refine zw_eq (zr_306_2 n a0 x1 mh) ?_
    refine zw_ite (fun h1 => ?_) (fun h1 => ?_)
    · have w2 := zu_w32_id (z := (mh a0 4) - 1) (by omega) (by omega)
      generalize hmm3 : zu_up mh a0 4 (zu_w32 ((mh a0 4) - 1)) = m3
      have hIm3 := zi_up hmm3 hImh hc0 zb_13_4 (by omega) (by omega)
      have hFm3 := zfr_up hmm3 hFmh hc0 rfl
      have r4 : 0 ≤ (m3 a0 4) ∧ (m3 a0 4) ≤ 20 := zi_rd hIm3 hc0 zb_13_4
      have e5 : (m3 a0 4) = (zu_w32 ((mh a0 4) - 1)) := (zs_eq hmm3)
      exact zw_some ⟨hIm3, hFm3, trivial, ⟨by omega, by omega⟩⟩
    · have w6 := zu_w32_id (z := x1 - 1) (by omega) (by omega)
      have b7 : 0 ≤ x1 ∧ x1 < 20 := by omega
      refine zw_if b7 ?_
      have r8 : 0 ≤ (mh 149 x1) ∧ (mh 149 x1) ≤ 3 := zi_rd hImh zq_149 (zb_47 _)
      have b9 : 0 ≤ (zu_w32 (x1 - 1)) ∧ (zu_w32 (x1 - 1)) < 20 := by omega
      refine zw_if b9 ?_
      generalize hmm10 : zu_up mh 149 (zu_w32 (x1 - 1)) (mh 149 x1) = m10
      have hIm10 := zi_up hmm10 hImh zq_149 (zb_47 _) (by omega) (by omega)
      have hFm10 := zfr_up hmm10 hFmh zq_149 rfl
      have b11 : 0 ≤ x1 ∧ x1 < 20 := by omega
      refine zw_if b11 ?_
      have r12 : 0 ≤ (m10 150 x1) ∧ (m10 150 x1) ≤ 3 := zi_rd hIm10 zq_150 (zb_48 _)
      have b13 : 0 ≤ (zu_w32 (x1 - 1)) ∧ (zu_w32 (x1 - 1)) < 20 := by omega
      refine zw_if b13 ?_
      generalize hmm14 : zu_up m10 150 (zu_w32 (x1 - 1)) (m10 150 x1) = m14
      have hIm14 := zi_up hmm14 hIm10 zq_150 (zb_48 _) (by omega) (by omega)
      have hFm14 := zfr_up hmm14 hFm10 zq_150 rfl
      have b15 : 0 ≤ x1 ∧ x1 < 20 := by omega
      refine zw_if b15 ?_
      have r16 : 0 ≤ (m14 151 x1) ∧ (m14 151 x1) ≤ 47 := zi_rd hIm14 zq_151 (zb_49 _)
      have b17 : 0 ≤ (zu_w32 (x1 - 1)) ∧ (zu_w32 (x1 - 1)) < 20 := by omega
      refine zw_if b17 ?_
      generalize hmm18 : zu_up m14 151 (zu_w32 (x1 - 1)) (m14 151 x1) = m18
      have hIm18 := zi_up hmm18 hIm14 zq_151 (zb_49 _) (by omega) (by omega)
      have hFm18 := zfr_up hmm18 hFm14 zq_151 rfl
      have b19 : 0 ≤ x1 ∧ x1 < 20 := by omega
      refine zw_if b19 ?_
      have r20 : 0 ≤ (m18 152 x1) ∧ (m18 152 x1) ≤ 9 := zi_rd hIm18 zq_152 (zb_50 _)
      have b21 : 0 ≤ (zu_w32 (x1 - 1)) ∧ (zu_w32 (x1 - 1)) < 20 := by omega
      refine zw_if b21 ?_
      generalize hmm22 : zu_up m18 152 (zu_w32 (x1 - 1)) (m18 152 x1) = m22
      have hIm22 := zi_up hmm22 hIm18 zq_152 (zb_50 _) (by omega) (by omega)
      have hFm22 := zfr_up hmm22 hFm18 zq_152 rfl
      have w23 := zu_w32_id (z := x1 + 1) (by omega) (by omega)
      have r24 : 0 ≤ (m22 a0 4) ∧ (m22 a0 4) ≤ 20 := zi_rd hIm22 hc0 zb_13_4
      have e25 : (m22 a0 4) = (mh a0 4) := (Eq.trans (zs_ne hmm22 (Or.inl (zc_ne hc0 zq_152 (by decide)))) (Eq.trans (zs_ne hmm18 (Or.inl (zc_ne hc0 zq_151 (by decide)))) (Eq.trans (zs_ne hmm14 (Or.inl (zc_ne hc0 zq_150 (by decide)))) (zs_ne hmm10 (Or.inl (zc_ne hc0 zq_149 (by decide)))))))
      have hM : (20 - (zu_w32 (x1 + 1))) * 1 + 0 < (k : Int) := by omega
      exact ih (zu_w32 (x1 + 1)) m22 hIm22 hFm22 ⟨by omega, by omega⟩ ⟨by omega, by omega⟩ hM
set_option maxHeartbeats 4000000 in
theorem zk_306 (n : Nat) {a0 : Int} {m0 : zu_m} (hIm0 : zi_I m0) (hc0 : zcls a0 = 13)   (he0 : 20 ≤ m0 a0 4 ∧ m0 a0 4 ≤ 20)  : zw (zu_call (zt_T n) 306 [(31, a0)] m0) (fun v m => zi_I m ∧ zfr [(13, 5), (47, 0), (48, 0), (49, 0), (50, 0)] m0 m ∧ True ∧ (19 ≤ m a0 4 ∧ m a0 4 ≤ 19)) := by
  have hFm0 : zfr [(13, 5), (47, 0), (48, 0), (49, 0), (50, 0)] m0 m0 := zfr_rf _ _
  refine zw_eq (zr_306_0 n a0 m0) ?_
  have hM : (20 - 1) * 1 + 0 < ((20 : Nat) : Int) := by omega
  exact (zl_306 n (m0 := m0) hc0 20) 1 m0 hIm0 hFm0 ⟨by omega, by omega⟩ ⟨by omega, by omega⟩ hM
set_option maxHeartbeats 4000000 in
theorem zl_13 (n : Nat) {a0 : Int} {m0 : zu_m} (hc0 : zcls a0 = 4)  : ∀ k : Nat, (∀ (x1 : Int) (mh : zu_m), zi_I mh → zfr [(4, 1), (4, 2), (4, 3), (4, 4), (4, 5), (4, 6), (5, 6), (5, 7), (17, 0), (18, 0), (19, 0), (22, 0), (23, 0)] m0 mh → (0 ≤ x1 ∧ x1 ≤ 48) → (0 ≤ mh a0 3 ∧ mh a0 3 ≤ 0) → (0 ≤ mh a0 4 ∧ mh a0 4 ≤ 0) → (0 ≤ mh a0 5 ∧ mh a0 5 ≤ 0) → (48 - x1) * 1 + 0 < (k : Int) → zw (zu_ex (zt_T n) 13 24 [(8, a0), (0, x1)] [] mh) (fun v m => zi_I m ∧ zfr [(4, 1), (4, 2), (4, 3), (4, 4), (4, 5), (4, 6), (5, 6), (5, 7), (17, 0), (18, 0), (19, 0), (22, 0), (23, 0)] m0 m ∧ True ∧ (0 ≤ m a0 3 ∧ m a0 3 ≤ 0) ∧ (0 ≤ m a0 4 ∧ m a0 4 ≤ 0) ∧ (0 ≤ m a0 5 ∧ m a0 5 ≤ 0))) := by
  intro k
  induction k with
  | zero => exact fun x1 mh hImh hFmh hbx1 hg1 hg2 hg3 hM => by exfalso; omega
  | succ k ih =>
    intro x1 mh hImh hFmh hbx1 hg1 hg2 hg3 hM
    refine zw_eq (zr_13_24 n a0 x1 mh) ?_
    refine zw_ite (fun h1 => ?_) (fun h1 => ?_)
    · refine zw_bd (zw_mono (zk_15 n hImh hc0 ⟨by omega, by omega⟩ ⟨by omega, by omega⟩) (fun v3 m2 hqm2 => ?_))
      obtain ⟨hIm2, hfm2, hvm2⟩ := hqm2
      have hFm2 := zfr_tr hFmh hfm2 rfl
      have r4 : 0 ≤ (m2 a0 3) ∧ (m2 a0 3) ≤ 6 := zi_rd hIm2 hc0 zb_4_3
      have e5 : (m2 a0 3) = (mh a0 3) := (zfr_ap hfm2 hc0 rfl)
      have r6 : 0 ≤ (m2 a0 4) ∧ (m2 a0 4) ≤ 99 := zi_rd hIm2 hc0 zb_4_4
      have e7 : (m2 a0 4) = (mh a0 4) := (zfr_ap hfm2 hc0 rfl)
      have r8 : 0 ≤ (m2 a0 5) ∧ (m2 a0 5) ≤ 99999 := zi_rd hIm2 hc0 zb_4_5
      have e9 : (m2 a0 5) = (mh a0 5) := (zfr_ap hfm2 hc0 rfl)
      exact zw_some ⟨hIm2, hFm2, trivial, ⟨by omega, by omega⟩, ⟨by omega, by omega⟩, ⟨by omega, by omega⟩⟩
    · have b10 : 0 ≤ x1 ∧ x1 < 48 := by omega
      refine zw_if b10 ?_
      generalize hmm11 : zu_up mh (a0 + 3) x1 0 = m11
      have hIm11 := zi_up hmm11 hImh (zc_4_8 hc0) (zb_19 _) (by omega) (by omega)
      have hFm11 := zfr_up hmm11 hFmh (zc_4_8 hc0) rfl
      have w12 := zu_w32_id (z := x1 + 1) (by omega) (by omega)
      have r13 : 0 ≤ (m11 a0 3) ∧ (m11 a0 3) ≤ 6 := zi_rd hIm11 hc0 zb_4_3
      have e14 : (m11 a0 3) = (mh a0 3) := (zs_ne hmm11 (Or.inl (zc_ne hc0 (zc_4_8 hc0) (by decide))))
      have r15 : 0 ≤ (m11 a0 4) ∧ (m11 a0 4) ≤ 99 := zi_rd hIm11 hc0 zb_4_4
      have e16 : (m11 a0 4) = (mh a0 4) := (zs_ne hmm11 (Or.inl (zc_ne hc0 (zc_4_8 hc0) (by decide))))
      have r17 : 0 ≤ (m11 a0 5) ∧ (m11 a0 5) ≤ 99999 := zi_rd hIm11 hc0 zb_4_5
      have e18 : (m11 a0 5) = (mh a0 5) := (zs_ne hmm11 (Or.inl (zc_ne hc0 (zc_4_8 hc0) (by decide))))
      have hM : (48 - (zu_w32 (x1 + 1))) * 1 + 0 < (k : Int) := by omega
      exact ih (zu_w32 (x1 + 1)) m11 hIm11 hFm11 ⟨by omega, by omega⟩ ⟨by omega, by omega⟩ ⟨by omega, by omega⟩ ⟨by omega, by omega⟩ hM
set_option maxHeartbeats 4000000 in
theorem zk_13 (n : Nat) {a0 : Int} {m0 : zu_m} (hIm0 : zi_I m0) (hc0 : zcls a0 = 4)     : zw (zu_call (zt_T n) 13 [(8, a0)] m0) (fun v m => zi_I m ∧ zfr [(4, 1), (4, 2), (4, 3), (4, 4), (4, 5), (4, 6), (5, 6), (5, 7), (17, 0), (18, 0), (19, 0), (22, 0), (23, 0)] m0 m ∧ True ∧ (0 ≤ m a0 3 ∧ m a0 3 ≤ 0) ∧ (0 ≤ m a0 4 ∧ m a0 4 ≤ 0) ∧ (0 ≤ m a0 5 ∧ m a0 5 ≤ 0)) := by
  have hFm0 : zfr [(4, 1), (4, 2), (4, 3), (4, 4), (4, 5), (4, 6), (5, 6), (5, 7), (17, 0), (18, 0), (19, 0), (22, 0), (23, 0)] m0 m0 := zfr_rf _ _
  refine zw_eq (zr_13_0 n a0 m0) ?_
  generalize hmm19 : zu_up m0 a0 3 0 = m19
  have hIm19 := zi_up hmm19 hIm0 hc0 zb_4_3 (by omega) (by omega)
  have hFm19 := zfr_up hmm19 hFm0 hc0 rfl
  generalize hmm20 : zu_up m19 a0 4 0 = m20
  have hIm20 := zi_up hmm20 hIm19 hc0 zb_4_4 (by omega) (by omega)
  have hFm20 := zfr_up hmm20 hFm19 hc0 rfl
  generalize hmm21 : zu_up m20 a0 5 0 = m21
  have hIm21 := zi_up hmm21 hIm20 hc0 zb_4_5 (by omega) (by omega)
  have hFm21 := zfr_up hmm21 hFm20 hc0 rfl
  refine zw_bd (zw_mono (zk_14 n hIm21 (zc_4_9 hc0)) (fun v23 m22 hqm22 => ?_))
  obtain ⟨hIm22, hfm22, hvm22⟩ := hqm22
  have hFm22 := zfr_tr hFm21 hfm22 rfl
  have r24 : 0 ≤ (m22 a0 3) ∧ (m22 a0 3) ≤ 6 := zi_rd hIm22 hc0 zb_4_3
  have e25 : (m22 a0 3) = 0 := (Eq.trans (zfr_ap hfm22 hc0 rfl) (Eq.trans (zs_ne hmm21 (Or.inr (by decide))) (Eq.trans (zs_ne hmm20 (Or.inr (by decide))) (zs_eq hmm19))))
  have r26 : 0 ≤ (m22 a0 4) ∧ (m22 a0 4) ≤ 99 := zi_rd hIm22 hc0 zb_4_4
  have e27 : (m22 a0 4) = 0 := (Eq.trans (zfr_ap hfm22 hc0 rfl) (Eq.trans (zs_ne hmm21 (Or.inr (by decide))) (zs_eq hmm20)))
  have r28 : 0 ≤ (m22 a0 5) ∧ (m22 a0 5) ≤ 99999 := zi_rd hIm22 hc0 zb_4_5
  have e29 : (m22 a0 5) = 0 := (Eq.trans (zfr_ap hfm22 hc0 rfl) (zs_eq hmm21))
  have hM : (48 - 0) * 1 + 0 < ((49 : Nat) : Int) := by omega
  exact (zl_13 n (m0 := m0) hc0 49) 0 m22 hIm22 hFm22 ⟨by omega, by omega⟩ ⟨by omega, by omega⟩ ⟨by omega, by omega⟩ ⟨by omega, by omega⟩ hM
set_option maxHeartbeats 4000000 in
theorem zl_18 (n : Nat) {a0 : Int} {m0 : zu_m} (hc0 : zcls a0 = 9)  : ∀ k : Nat, (∀ (mh : zu_m), zi_I mh → zfr [(9, 4), (9, 5), (9, 6), (9, 7)] m0 mh → (700 - (mh a0 3)) * 1 + 0 < (k : Int) → zw (zu_ex (zt_T n) 18 0 [(22, a0)] [] mh) (fun v m => zi_I m ∧ zfr [(9, 4), (9, 5), (9, 6), (9, 7)] m0 m ∧ True)) := by
  intro k
  induction k with
  | zero => exact fun mh hImh hFmh hM => by exfalso; omega
  | succ k ih =>
    intro mh hImh hFmh hM
    refine zw_eq (zr_18_0 n a0 mh) ?_
    have r1 : 0 ≤ (mh a0 3) ∧ (mh a0 3) ≤ 700 := zi_rd hImh hc0 zb_9_3
    have r2 : 0 ≤ (mh a0 2) ∧ (mh a0 2) ≤ 700 := zi_rd hImh hc0 zb_9_2
    refine zw_ite (fun h3 => ?_) (fun h3 => ?_)
    · generalize hmm4 : zu_up mh a0 6 (mh a0 3) = m4
      have hIm4 := zi_up hmm4 hImh hc0 zb_9_6 (by omega) (by omega)
      have hFm4 := zfr_up hmm4 hFmh hc0 rfl
      have r5 : 0 ≤ (m4 a0 3) ∧ (m4 a0 3) ≤ 700 := zi_rd hIm4 hc0 zb_9_3
      have e6 : (m4 a0 3) = (mh a0 3) := (zs_ne hmm4 (Or.inr (by decide)))
      have r7 : 0 ≤ (m4 a0 2) ∧ (m4 a0 2) ≤ 700 := zi_rd hIm4 hc0 zb_9_2
      have e8 : (m4 a0 2) = (mh a0 2) := (zs_ne hmm4 (Or.inr (by decide)))
      refine zw_ite (fun h9 => ?_) (fun h9 => ?_)
      · have b10 : 0 ≤ (m4 a0 3) ∧ (m4 a0 3) < 700 := by omega
        refine zw_if b10 ?_
        have r11 : (-2147483648) ≤ (m4 4 (m4 a0 3)) ∧ (m4 4 (m4 a0 3)) ≤ 2147483647 := zi_rd hIm4 zq_4 (zb_16 _)
        refine zw_ite (fun h12 => ?_) (fun h12 => ?_)
        · have b13 : 0 ≤ (m4 a0 3) ∧ (m4 a0 3) < 700 := by omega
          refine zw_if b13 ?_
          refine zw_ite (fun h14 => ?_) (fun h14 => ?_)
          · have b15 : 0 ≤ (m4 a0 3) ∧ (m4 a0 3) < 700 := by omega
            refine zw_if b15 ?_
            refine zw_bd (zw_mono (zk_283 n hIm4 ⟨by omega, by omega⟩) (fun v17 m16 hqm16 => ?_))
            obtain ⟨hIm16, hfm16, hvm16⟩ := hqm16
            have hFm16 := zfr_tr hFm4 hfm16 rfl
            generalize hmm18 : zu_up m16 a0 5 v17 = m18
            have hIm18 := zi_up hmm18 hIm16 hc0 zb_9_5 (by omega) (by omega)
            have hFm18 := zfr_up hmm18 hFm16 hc0 rfl
            have r19 : (-2147483648) ≤ (m18 a0 5) ∧ (m18 a0 5) ≤ 2147483647 := zi_rd hIm18 hc0 zb_9_5
            have e20 : (m18 a0 5) = v17 := (zs_eq hmm18)
            refine zw_ite (fun h21 => ?_) (fun h21 => ?_)
            · generalize hmm22 : zu_up m18 a0 4 4 = m22
              have hIm22 := zi_up hmm22 hIm18 hc0 zb_9_4 (by omega) (by omega)
              have hFm22 := zfr_up hmm22 hFm18 hc0 rfl
              have r23 : 0 ≤ (m22 a0 3) ∧ (m22 a0 3) ≤ 700 := zi_rd hIm22 hc0 zb_9_3
              have e24 : (m22 a0 3) = (m4 a0 3) := (Eq.trans (zs_ne hmm22 (Or.inr (by decide))) (Eq.trans (zs_ne hmm18 (Or.inr (by decide))) (zfr_ap hfm16 hc0 rfl)))
              have w25 := zu_w32_id (z := (m22 a0 3) + 1) (by omega) (by omega)
              generalize hmm26 : zu_up m22 a0 3 (zu_w32 ((m22 a0 3) + 1)) = m26
              have hIm26 := zi_up hmm26 hIm22 hc0 zb_9_3 (by omega) (by omega)
              have hFm26 := zfr_up hmm26 hFm22 hc0 rfl
              have r27 : 0 ≤ (m26 a0 3) ∧ (m26 a0 3) ≤ 700 := zi_rd hIm26 hc0 zb_9_3
              have e28 : (m26 a0 3) = (zu_w32 ((m22 a0 3) + 1)) := (zs_eq hmm26)
              have r29 : 0 ≤ (m26 a0 2) ∧ (m26 a0 2) ≤ 700 := zi_rd hIm26 hc0 zb_9_2
              have e30 : (m26 a0 2) = (m4 a0 2) := (Eq.trans (zs_ne hmm26 (Or.inr (by decide))) (Eq.trans (zs_ne hmm22 (Or.inr (by decide))) (Eq.trans (zs_ne hmm18 (Or.inr (by decide))) (zfr_ap hfm16 hc0 rfl))))
              have r31 : (-2147483648) ≤ (m26 a0 5) ∧ (m26 a0 5) ≤ 2147483647 := zi_rd hIm26 hc0 zb_9_5
              have e32 : (m26 a0 5) = (m18 a0 5) := (Eq.trans (zs_ne hmm26 (Or.inr (by decide))) (zs_ne hmm22 (Or.inr (by decide))))
              refine zw_bd (zw_mono (zk_282 n hIm26 hc0 ⟨by omega, by omega⟩ ⟨by omega, by omega⟩ ⟨by omega, by omega⟩) (fun v34 m33 hqm33 => ?_))
              obtain ⟨hIm33, hfm33, hvm33⟩ := hqm33
              have hFm33 := zfr_tr hFm26 hfm33 rfl
              exact zw_some ⟨hIm33, hFm33, trivial⟩
            · generalize hmm35 : zu_up m18 a0 4 5 = m35
              have hIm35 := zi_up hmm35 hIm18 hc0 zb_9_4 (by omega) (by omega)
              have hFm35 := zfr_up hmm35 hFm18 hc0 rfl
              have r36 : 0 ≤ (m35 a0 3) ∧ (m35 a0 3) ≤ 700 := zi_rd hIm35 hc0 zb_9_3
              have e37 : (m35 a0 3) = (m4 a0 3) := (Eq.trans (zs_ne hmm35 (Or.inr (by decide))) (Eq.trans (zs_ne hmm18 (Or.inr (by decide))) (zfr_ap hfm16 hc0 rfl)))
              have w38 := zu_w32_id (z := (m35 a0 3) + 1) (by omega) (by omega)
              generalize hmm39 : zu_up m35 a0 3 (zu_w32 ((m35 a0 3) + 1)) = m39
              have hIm39 := zi_up hmm39 hIm35 hc0 zb_9_3 (by omega) (by omega)
              have hFm39 := zfr_up hmm39 hFm35 hc0 rfl
              have r40 : 0 ≤ (m39 a0 3) ∧ (m39 a0 3) ≤ 700 := zi_rd hIm39 hc0 zb_9_3
              have e41 : (m39 a0 3) = (zu_w32 ((m35 a0 3) + 1)) := (zs_eq hmm39)
              have r42 : 0 ≤ (m39 a0 2) ∧ (m39 a0 2) ≤ 700 := zi_rd hIm39 hc0 zb_9_2
              have e43 : (m39 a0 2) = (m4 a0 2) := (Eq.trans (zs_ne hmm39 (Or.inr (by decide))) (Eq.trans (zs_ne hmm35 (Or.inr (by decide))) (Eq.trans (zs_ne hmm18 (Or.inr (by decide))) (zfr_ap hfm16 hc0 rfl))))
              have r44 : (-2147483648) ≤ (m39 a0 5) ∧ (m39 a0 5) ≤ 2147483647 := zi_rd hIm39 hc0 zb_9_5
              have e45 : (m39 a0 5) = (m18 a0 5) := (Eq.trans (zs_ne hmm39 (Or.inr (by decide))) (zs_ne hmm35 (Or.inr (by decide))))
              refine zw_bd (zw_mono (zk_282 n hIm39 hc0 ⟨by omega, by omega⟩ ⟨by omega, by omega⟩ ⟨by omega, by omega⟩) (fun v47 m46 hqm46 => ?_))
              obtain ⟨hIm46, hfm46, hvm46⟩ := hqm46
              have hFm46 := zfr_tr hFm39 hfm46 rfl
              exact zw_some ⟨hIm46, hFm46, trivial⟩
          · have b48 : 0 ≤ (m4 a0 3) ∧ (m4 a0 3) < 700 := by omega
            refine zw_if b48 ?_
            refine zw_ite (fun h49 => ?_) (fun h49 => ?_)
            · have b50 : 0 ≤ (m4 a0 3) ∧ (m4 a0 3) < 700 := by omega
              refine zw_if b50 ?_
              refine zw_bd (zw_mono (zk_283 n hIm4 ⟨by omega, by omega⟩) (fun v52 m51 hqm51 => ?_))
              obtain ⟨hIm51, hfm51, hvm51⟩ := hqm51
              have hFm51 := zfr_tr hFm4 hfm51 rfl
              generalize hmm53 : zu_up m51 a0 5 v52 = m53
              have hIm53 := zi_up hmm53 hIm51 hc0 zb_9_5 (by omega) (by omega)
              have hFm53 := zfr_up hmm53 hFm51 hc0 rfl
              have r54 : (-2147483648) ≤ (m53 a0 5) ∧ (m53 a0 5) ≤ 2147483647 := zi_rd hIm53 hc0 zb_9_5
              have e55 : (m53 a0 5) = v52 := (zs_eq hmm53)
              refine zw_ite (fun h56 => ?_) (fun h56 => ?_)
              · generalize hmm57 : zu_up m53 a0 4 4 = m57
                have hIm57 := zi_up hmm57 hIm53 hc0 zb_9_4 (by omega) (by omega)
                have hFm57 := zfr_up hmm57 hFm53 hc0 rfl
                have r58 : 0 ≤ (m57 a0 3) ∧ (m57 a0 3) ≤ 700 := zi_rd hIm57 hc0 zb_9_3
                have e59 : (m57 a0 3) = (m4 a0 3) := (Eq.trans (zs_ne hmm57 (Or.inr (by decide))) (Eq.trans (zs_ne hmm53 (Or.inr (by decide))) (zfr_ap hfm51 hc0 rfl)))
                have w60 := zu_w32_id (z := (m57 a0 3) + 1) (by omega) (by omega)
                generalize hmm61 : zu_up m57 a0 3 (zu_w32 ((m57 a0 3) + 1)) = m61
                have hIm61 := zi_up hmm61 hIm57 hc0 zb_9_3 (by omega) (by omega)
                have hFm61 := zfr_up hmm61 hFm57 hc0 rfl
                have r62 : 0 ≤ (m61 a0 3) ∧ (m61 a0 3) ≤ 700 := zi_rd hIm61 hc0 zb_9_3
                have e63 : (m61 a0 3) = (zu_w32 ((m57 a0 3) + 1)) := (zs_eq hmm61)
                have r64 : 0 ≤ (m61 a0 2) ∧ (m61 a0 2) ≤ 700 := zi_rd hIm61 hc0 zb_9_2
                have e65 : (m61 a0 2) = (m4 a0 2) := (Eq.trans (zs_ne hmm61 (Or.inr (by decide))) (Eq.trans (zs_ne hmm57 (Or.inr (by decide))) (Eq.trans (zs_ne hmm53 (Or.inr (by decide))) (zfr_ap hfm51 hc0 rfl))))
                have r66 : (-2147483648) ≤ (m61 a0 5) ∧ (m61 a0 5) ≤ 2147483647 := zi_rd hIm61 hc0 zb_9_5
                have e67 : (m61 a0 5) = (m53 a0 5) := (Eq.trans (zs_ne hmm61 (Or.inr (by decide))) (zs_ne hmm57 (Or.inr (by decide))))
                refine zw_bd (zw_mono (zk_282 n hIm61 hc0 ⟨by omega, by omega⟩ ⟨by omega, by omega⟩ ⟨by omega, by omega⟩) (fun v69 m68 hqm68 => ?_))
                obtain ⟨hIm68, hfm68, hvm68⟩ := hqm68
                have hFm68 := zfr_tr hFm61 hfm68 rfl
                exact zw_some ⟨hIm68, hFm68, trivial⟩
              · generalize hmm70 : zu_up m53 a0 4 5 = m70
                have hIm70 := zi_up hmm70 hIm53 hc0 zb_9_4 (by omega) (by omega)
                have hFm70 := zfr_up hmm70 hFm53 hc0 rfl
                have r71 : 0 ≤ (m70 a0 3) ∧ (m70 a0 3) ≤ 700 := zi_rd hIm70 hc0 zb_9_3
                have e72 : (m70 a0 3) = (m4 a0 3) := (Eq.trans (zs_ne hmm70 (Or.inr (by decide))) (Eq.trans (zs_ne hmm53 (Or.inr (by decide))) (zfr_ap hfm51 hc0 rfl)))
                have w73 := zu_w32_id (z := (m70 a0 3) + 1) (by omega) (by omega)
                generalize hmm74 : zu_up m70 a0 3 (zu_w32 ((m70 a0 3) + 1)) = m74
                have hIm74 := zi_up hmm74 hIm70 hc0 zb_9_3 (by omega) (by omega)
                have hFm74 := zfr_up hmm74 hFm70 hc0 rfl
                have r75 : 0 ≤ (m74 a0 3) ∧ (m74 a0 3) ≤ 700 := zi_rd hIm74 hc0 zb_9_3
                have e76 : (m74 a0 3) = (zu_w32 ((m70 a0 3) + 1)) := (zs_eq hmm74)
                have r77 : 0 ≤ (m74 a0 2) ∧ (m74 a0 2) ≤ 700 := zi_rd hIm74 hc0 zb_9_2
                have e78 : (m74 a0 2) = (m4 a0 2) := (Eq.trans (zs_ne hmm74 (Or.inr (by decide))) (Eq.trans (zs_ne hmm70 (Or.inr (by decide))) (Eq.trans (zs_ne hmm53 (Or.inr (by decide))) (zfr_ap hfm51 hc0 rfl))))
                have r79 : (-2147483648) ≤ (m74 a0 5) ∧ (m74 a0 5) ≤ 2147483647 := zi_rd hIm74 hc0 zb_9_5
                have e80 : (m74 a0 5) = (m53 a0 5) := (Eq.trans (zs_ne hmm74 (Or.inr (by decide))) (zs_ne hmm70 (Or.inr (by decide))))
                refine zw_bd (zw_mono (zk_282 n hIm74 hc0 ⟨by omega, by omega⟩ ⟨by omega, by omega⟩ ⟨by omega, by omega⟩) (fun v82 m81 hqm81 => ?_))
                obtain ⟨hIm81, hfm81, hvm81⟩ := hqm81
                have hFm81 := zfr_tr hFm74 hfm81 rfl
                exact zw_some ⟨hIm81, hFm81, trivial⟩
            · refine zw_bd (zw_mono (zk_281 n hIm4 hc0) (fun v84 m83 hqm83 => ?_))
              obtain ⟨hIm83, hfm83, hvm83⟩ := hqm83
              have hFm83 := zfr_tr hFm4 hfm83 rfl
              exact zw_some ⟨hIm83, hFm83, trivial⟩
        · have b85 : 0 ≤ (m4 a0 3) ∧ (m4 a0 3) < 700 := by omega
          refine zw_if b85 ?_
          refine zw_ite (fun h86 => ?_) (fun h86 => ?_)
          · have b87 : 0 ≤ (m4 a0 3) ∧ (m4 a0 3) < 700 := by omega
            refine zw_if b87 ?_
            refine zw_ite (fun h88 => ?_) (fun h88 => ?_)
            · exfalso; omega
            · have b89 : 0 ≤ (m4 a0 3) ∧ (m4 a0 3) < 700 := by omega
              refine zw_if b89 ?_
              refine zw_ite (fun h90 => ?_) (fun h90 => ?_)
              · have b91 : 0 ≤ (m4 a0 3) ∧ (m4 a0 3) < 700 := by omega
                refine zw_if b91 ?_
                refine zw_bd (zw_mono (zk_283 n hIm4 ⟨by omega, by omega⟩) (fun v93 m92 hqm92 => ?_))
                obtain ⟨hIm92, hfm92, hvm92⟩ := hqm92
                have hFm92 := zfr_tr hFm4 hfm92 rfl
                generalize hmm94 : zu_up m92 a0 5 v93 = m94
                have hIm94 := zi_up hmm94 hIm92 hc0 zb_9_5 (by omega) (by omega)
                have hFm94 := zfr_up hmm94 hFm92 hc0 rfl
                have r95 : (-2147483648) ≤ (m94 a0 5) ∧ (m94 a0 5) ≤ 2147483647 := zi_rd hIm94 hc0 zb_9_5
                have e96 : (m94 a0 5) = v93 := (zs_eq hmm94)
                refine zw_ite (fun h97 => ?_) (fun h97 => ?_)
                · generalize hmm98 : zu_up m94 a0 4 4 = m98
                  have hIm98 := zi_up hmm98 hIm94 hc0 zb_9_4 (by omega) (by omega)
                  have hFm98 := zfr_up hmm98 hFm94 hc0 rfl
                  have r99 : 0 ≤ (m98 a0 3) ∧ (m98 a0 3) ≤ 700 := zi_rd hIm98 hc0 zb_9_3
                  have e100 : (m98 a0 3) = (m4 a0 3) := (Eq.trans (zs_ne hmm98 (Or.inr (by decide))) (Eq.trans (zs_ne hmm94 (Or.inr (by decide))) (zfr_ap hfm92 hc0 rfl)))
                  have w101 := zu_w32_id (z := (m98 a0 3) + 1) (by omega) (by omega)
                  generalize hmm102 : zu_up m98 a0 3 (zu_w32 ((m98 a0 3) + 1)) = m102
                  have hIm102 := zi_up hmm102 hIm98 hc0 zb_9_3 (by omega) (by omega)
                  have hFm102 := zfr_up hmm102 hFm98 hc0 rfl
                  have r103 : 0 ≤ (m102 a0 3) ∧ (m102 a0 3) ≤ 700 := zi_rd hIm102 hc0 zb_9_3
                  have e104 : (m102 a0 3) = (zu_w32 ((m98 a0 3) + 1)) := (zs_eq hmm102)
                  have r105 : 0 ≤ (m102 a0 2) ∧ (m102 a0 2) ≤ 700 := zi_rd hIm102 hc0 zb_9_2
                  have e106 : (m102 a0 2) = (m4 a0 2) := (Eq.trans (zs_ne hmm102 (Or.inr (by decide))) (Eq.trans (zs_ne hmm98 (Or.inr (by decide))) (Eq.trans (zs_ne hmm94 (Or.inr (by decide))) (zfr_ap hfm92 hc0 rfl))))
                  have r107 : (-2147483648) ≤ (m102 a0 5) ∧ (m102 a0 5) ≤ 2147483647 := zi_rd hIm102 hc0 zb_9_5
                  have e108 : (m102 a0 5) = (m94 a0 5) := (Eq.trans (zs_ne hmm102 (Or.inr (by decide))) (zs_ne hmm98 (Or.inr (by decide))))
                  refine zw_bd (zw_mono (zk_282 n hIm102 hc0 ⟨by omega, by omega⟩ ⟨by omega, by omega⟩ ⟨by omega, by omega⟩) (fun v110 m109 hqm109 => ?_))
                  obtain ⟨hIm109, hfm109, hvm109⟩ := hqm109
                  have hFm109 := zfr_tr hFm102 hfm109 rfl
                  exact zw_some ⟨hIm109, hFm109, trivial⟩
                · generalize hmm111 : zu_up m94 a0 4 5 = m111
                  have hIm111 := zi_up hmm111 hIm94 hc0 zb_9_4 (by omega) (by omega)
                  have hFm111 := zfr_up hmm111 hFm94 hc0 rfl
                  have r112 : 0 ≤ (m111 a0 3) ∧ (m111 a0 3) ≤ 700 := zi_rd hIm111 hc0 zb_9_3
                  have e113 : (m111 a0 3) = (m4 a0 3) := (Eq.trans (zs_ne hmm111 (Or.inr (by decide))) (Eq.trans (zs_ne hmm94 (Or.inr (by decide))) (zfr_ap hfm92 hc0 rfl)))
                  have w114 := zu_w32_id (z := (m111 a0 3) + 1) (by omega) (by omega)
                  generalize hmm115 : zu_up m111 a0 3 (zu_w32 ((m111 a0 3) + 1)) = m115
                  have hIm115 := zi_up hmm115 hIm111 hc0 zb_9_3 (by omega) (by omega)
                  have hFm115 := zfr_up hmm115 hFm111 hc0 rfl
                  have r116 : 0 ≤ (m115 a0 3) ∧ (m115 a0 3) ≤ 700 := zi_rd hIm115 hc0 zb_9_3
                  have e117 : (m115 a0 3) = (zu_w32 ((m111 a0 3) + 1)) := (zs_eq hmm115)
                  have r118 : 0 ≤ (m115 a0 2) ∧ (m115 a0 2) ≤ 700 := zi_rd hIm115 hc0 zb_9_2
                  have e119 : (m115 a0 2) = (m4 a0 2) := (Eq.trans (zs_ne hmm115 (Or.inr (by decide))) (Eq.trans (zs_ne hmm111 (Or.inr (by decide))) (Eq.trans (zs_ne hmm94 (Or.inr (by decide))) (zfr_ap hfm92 hc0 rfl))))
                  have r120 : (-2147483648) ≤ (m115 a0 5) ∧ (m115 a0 5) ≤ 2147483647 := zi_rd hIm115 hc0 zb_9_5
                  have e121 : (m115 a0 5) = (m94 a0 5) := (Eq.trans (zs_ne hmm115 (Or.inr (by decide))) (zs_ne hmm111 (Or.inr (by decide))))
                  refine zw_bd (zw_mono (zk_282 n hIm115 hc0 ⟨by omega, by omega⟩ ⟨by omega, by omega⟩ ⟨by omega, by omega⟩) (fun v123 m122 hqm122 => ?_))
                  obtain ⟨hIm122, hfm122, hvm122⟩ := hqm122
                  have hFm122 := zfr_tr hFm115 hfm122 rfl
                  exact zw_some ⟨hIm122, hFm122, trivial⟩
              · exfalso; omega
          · refine zw_bd (zw_mono (zk_280 n hIm4 hc0 ⟨by omega, by omega⟩ ⟨by omega, by omega⟩) (fun v125 m124 hqm124 => ?_))
            obtain ⟨hIm124, hfm124, hvm124⟩ := hqm124
            have hFm124 := zfr_tr hFm4 hfm124 rfl
            exact zw_some ⟨hIm124, hFm124, trivial⟩
      · generalize hmm126 : zu_up m4 a0 4 0 = m126
        have hIm126 := zi_up hmm126 hIm4 hc0 zb_9_4 (by omega) (by omega)
        have hFm126 := zfr_up hmm126 hFm4 hc0 rfl
        exact zw_some ⟨hIm126, hFm126, trivial⟩
    · have b127 : 0 ≤ (mh a0 3) ∧ (mh a0 3) < 700 := by omega
      refine zw_if b127 ?_
      have r128 : (-2147483648) ≤ (mh 4 (mh a0 3)) ∧ (mh 4 (mh a0 3)) ≤ 2147483647 := zi_rd hImh zq_4 (zb_16 _)
      refine zw_ite (fun h129 => ?_) (fun h129 => ?_)
      · have w130 := zu_w32_id (z := (mh a0 3) + 1) (by omega) (by omega)
        generalize hmm131 : zu_up mh a0 3 (zu_w32 ((mh a0 3) + 1)) = m131
        have hIm131 := zi_up hmm131 hImh hc0 zb_9_3 (by omega) (by omega)
        have hFm131 := zfr_up hmm131 hFmh hc0 rfl
        have r132 : 0 ≤ (m131 a0 3) ∧ (m131 a0 3) ≤ 700 := zi_rd hIm131 hc0 zb_9_3
        have e133 : (m131 a0 3) = (zu_w32 ((mh a0 3) + 1)) := (zs_eq hmm131)
        have hM : (700 - (m131 a0 3)) * 1 + 0 < (k : Int) := by omega
        exact ih  m131 hIm131 hFm131  hM
      · have b134 : 0 ≤ (mh a0 3) ∧ (mh a0 3) < 700 := by omega
        refine zw_if b134 ?_
        refine zw_ite (fun h135 => ?_) (fun h135 => ?_)
        · generalize hmm136 : zu_up mh a0 6 (mh a0 3) = m136
          have hIm136 := zi_up hmm136 hImh hc0 zb_9_6 (by omega) (by omega)
          have hFm136 := zfr_up hmm136 hFmh hc0 rfl
          have r137 : 0 ≤ (m136 a0 3) ∧ (m136 a0 3) ≤ 700 := zi_rd hIm136 hc0 zb_9_3
          have e138 : (m136 a0 3) = (mh a0 3) := (zs_ne hmm136 (Or.inr (by decide)))
          have r139 : 0 ≤ (m136 a0 2) ∧ (m136 a0 2) ≤ 700 := zi_rd hIm136 hc0 zb_9_2
          have e140 : (m136 a0 2) = (mh a0 2) := (zs_ne hmm136 (Or.inr (by decide)))
          refine zw_ite (fun h141 => ?_) (fun h141 => ?_)
          · have b142 : 0 ≤ (m136 a0 3) ∧ (m136 a0 3) < 700 := by omega
            refine zw_if b142 ?_
            have r143 : (-2147483648) ≤ (m136 4 (m136 a0 3)) ∧ (m136 4 (m136 a0 3)) ≤ 2147483647 := zi_rd hIm136 zq_4 (zb_16 _)
            refine zw_ite (fun h144 => ?_) (fun h144 => ?_)
            · have b145 : 0 ≤ (m136 a0 3) ∧ (m136 a0 3) < 700 := by omega
              refine zw_if b145 ?_
              refine zw_ite (fun h146 => ?_) (fun h146 => ?_)
              · have b147 : 0 ≤ (m136 a0 3) ∧ (m136 a0 3) < 700 := by omega
                refine zw_if b147 ?_
                refine zw_bd (zw_mono (zk_283 n hIm136 ⟨by omega, by omega⟩) (fun v149 m148 hqm148 => ?_))
                obtain ⟨hIm148, hfm148, hvm148⟩ := hqm148
                have hFm148 := zfr_tr hFm136 hfm148 rfl
                generalize hmm150 : zu_up m148 a0 5 v149 = m150
                have hIm150 := zi_up hmm150 hIm148 hc0 zb_9_5 (by omega) (by omega)
                have hFm150 := zfr_up hmm150 hFm148 hc0 rfl
                have r151 : (-2147483648) ≤ (m150 a0 5) ∧ (m150 a0 5) ≤ 2147483647 := zi_rd hIm150 hc0 zb_9_5
                have e152 : (m150 a0 5) = v149 := (zs_eq hmm150)
                refine zw_ite (fun h153 => ?_) (fun h153 => ?_)
                · generalize hmm154 : zu_up m150 a0 4 4 = m154
                  have hIm154 := zi_up hmm154 hIm150 hc0 zb_9_4 (by omega) (by omega)
                  have hFm154 := zfr_up hmm154 hFm150 hc0 rfl
                  have r155 : 0 ≤ (m154 a0 3) ∧ (m154 a0 3) ≤ 700 := zi_rd hIm154 hc0 zb_9_3
                  have e156 : (m154 a0 3) = (m136 a0 3) := (Eq.trans (zs_ne hmm154 (Or.inr (by decide))) (Eq.trans (zs_ne hmm150 (Or.inr (by decide))) (zfr_ap hfm148 hc0 rfl)))
                  have w157 := zu_w32_id (z := (m154 a0 3) + 1) (by omega) (by omega)
                  generalize hmm158 : zu_up m154 a0 3 (zu_w32 ((m154 a0 3) + 1)) = m158
                  have hIm158 := zi_up hmm158 hIm154 hc0 zb_9_3 (by omega) (by omega)
                  have hFm158 := zfr_up hmm158 hFm154 hc0 rfl
                  have r159 : 0 ≤ (m158 a0 3) ∧ (m158 a0 3) ≤ 700 := zi_rd hIm158 hc0 zb_9_3
                  have e160 : (m158 a0 3) = (zu_w32 ((m154 a0 3) + 1)) := (zs_eq hmm158)
                  have r161 : 0 ≤ (m158 a0 2) ∧ (m158 a0 2) ≤ 700 := zi_rd hIm158 hc0 zb_9_2
                  have e162 : (m158 a0 2) = (m136 a0 2) := (Eq.trans (zs_ne hmm158 (Or.inr (by decide))) (Eq.trans (zs_ne hmm154 (Or.inr (by decide))) (Eq.trans (zs_ne hmm150 (Or.inr (by decide))) (zfr_ap hfm148 hc0 rfl))))
                  have r163 : (-2147483648) ≤ (m158 a0 5) ∧ (m158 a0 5) ≤ 2147483647 := zi_rd hIm158 hc0 zb_9_5
                  have e164 : (m158 a0 5) = (m150 a0 5) := (Eq.trans (zs_ne hmm158 (Or.inr (by decide))) (zs_ne hmm154 (Or.inr (by decide))))
                  refine zw_bd (zw_mono (zk_282 n hIm158 hc0 ⟨by omega, by omega⟩ ⟨by omega, by omega⟩ ⟨by omega, by omega⟩) (fun v166 m165 hqm165 => ?_))
                  obtain ⟨hIm165, hfm165, hvm165⟩ := hqm165
                  have hFm165 := zfr_tr hFm158 hfm165 rfl
                  exact zw_some ⟨hIm165, hFm165, trivial⟩
                · generalize hmm167 : zu_up m150 a0 4 5 = m167
                  have hIm167 := zi_up hmm167 hIm150 hc0 zb_9_4 (by omega) (by omega)
                  have hFm167 := zfr_up hmm167 hFm150 hc0 rfl
                  have r168 : 0 ≤ (m167 a0 3) ∧ (m167 a0 3) ≤ 700 := zi_rd hIm167 hc0 zb_9_3
                  have e169 : (m167 a0 3) = (m136 a0 3) := (Eq.trans (zs_ne hmm167 (Or.inr (by decide))) (Eq.trans (zs_ne hmm150 (Or.inr (by decide))) (zfr_ap hfm148 hc0 rfl)))
                  have w170 := zu_w32_id (z := (m167 a0 3) + 1) (by omega) (by omega)
                  generalize hmm171 : zu_up m167 a0 3 (zu_w32 ((m167 a0 3) + 1)) = m171
                  have hIm171 := zi_up hmm171 hIm167 hc0 zb_9_3 (by omega) (by omega)
                  have hFm171 := zfr_up hmm171 hFm167 hc0 rfl
                  have r172 : 0 ≤ (m171 a0 3) ∧ (m171 a0 3) ≤ 700 := zi_rd hIm171 hc0 zb_9_3
                  have e173 : (m171 a0 3) = (zu_w32 ((m167 a0 3) + 1)) := (zs_eq hmm171)
                  have r174 : 0 ≤ (m171 a0 2) ∧ (m171 a0 2) ≤ 700 := zi_rd hIm171 hc0 zb_9_2
                  have e175 : (m171 a0 2) = (m136 a0 2) := (Eq.trans (zs_ne hmm171 (Or.inr (by decide))) (Eq.trans (zs_ne hmm167 (Or.inr (by decide))) (Eq.trans (zs_ne hmm150 (Or.inr (by decide))) (zfr_ap hfm148 hc0 rfl))))
                  have r176 : (-2147483648) ≤ (m171 a0 5) ∧ (m171 a0 5) ≤ 2147483647 := zi_rd hIm171 hc0 zb_9_5
                  have e177 : (m171 a0 5) = (m150 a0 5) := (Eq.trans (zs_ne hmm171 (Or.inr (by decide))) (zs_ne hmm167 (Or.inr (by decide))))
                  refine zw_bd (zw_mono (zk_282 n hIm171 hc0 ⟨by omega, by omega⟩ ⟨by omega, by omega⟩ ⟨by omega, by omega⟩) (fun v179 m178 hqm178 => ?_))
                  obtain ⟨hIm178, hfm178, hvm178⟩ := hqm178
                  have hFm178 := zfr_tr hFm171 hfm178 rfl
                  exact zw_some ⟨hIm178, hFm178, trivial⟩
              · have b180 : 0 ≤ (m136 a0 3) ∧ (m136 a0 3) < 700 := by omega
                refine zw_if b180 ?_
                refine zw_ite (fun h181 => ?_) (fun h181 => ?_)
                · have b182 : 0 ≤ (m136 a0 3) ∧ (m136 a0 3) < 700 := by omega
                  refine zw_if b182 ?_
                  refine zw_bd (zw_mono (zk_283 n hIm136 ⟨by omega, by omega⟩) (fun v184 m183 hqm183 => ?_))
                  obtain ⟨hIm183, hfm183, hvm183⟩ := hqm183
                  have hFm183 := zfr_tr hFm136 hfm183 rfl
                  generalize hmm185 : zu_up m183 a0 5 v184 = m185
                  have hIm185 := zi_up hmm185 hIm183 hc0 zb_9_5 (by omega) (by omega)
                  have hFm185 := zfr_up hmm185 hFm183 hc0 rfl
                  have r186 : (-2147483648) ≤ (m185 a0 5) ∧ (m185 a0 5) ≤ 2147483647 := zi_rd hIm185 hc0 zb_9_5
                  have e187 : (m185 a0 5) = v184 := (zs_eq hmm185)
                  refine zw_ite (fun h188 => ?_) (fun h188 => ?_)
                  · generalize hmm189 : zu_up m185 a0 4 4 = m189
                    have hIm189 := zi_up hmm189 hIm185 hc0 zb_9_4 (by omega) (by omega)
                    have hFm189 := zfr_up hmm189 hFm185 hc0 rfl
                    have r190 : 0 ≤ (m189 a0 3) ∧ (m189 a0 3) ≤ 700 := zi_rd hIm189 hc0 zb_9_3
                    have e191 : (m189 a0 3) = (m136 a0 3) := (Eq.trans (zs_ne hmm189 (Or.inr (by decide))) (Eq.trans (zs_ne hmm185 (Or.inr (by decide))) (zfr_ap hfm183 hc0 rfl)))
                    have w192 := zu_w32_id (z := (m189 a0 3) + 1) (by omega) (by omega)
                    generalize hmm193 : zu_up m189 a0 3 (zu_w32 ((m189 a0 3) + 1)) = m193
                    have hIm193 := zi_up hmm193 hIm189 hc0 zb_9_3 (by omega) (by omega)
                    have hFm193 := zfr_up hmm193 hFm189 hc0 rfl
                    have r194 : 0 ≤ (m193 a0 3) ∧ (m193 a0 3) ≤ 700 := zi_rd hIm193 hc0 zb_9_3
                    have e195 : (m193 a0 3) = (zu_w32 ((m189 a0 3) + 1)) := (zs_eq hmm193)
                    have r196 : 0 ≤ (m193 a0 2) ∧ (m193 a0 2) ≤ 700 := zi_rd hIm193 hc0 zb_9_2
                    have e197 : (m193 a0 2) = (m136 a0 2) := (Eq.trans (zs_ne hmm193 (Or.inr (by decide))) (Eq.trans (zs_ne hmm189 (Or.inr (by decide))) (Eq.trans (zs_ne hmm185 (Or.inr (by decide))) (zfr_ap hfm183 hc0 rfl))))
                    have r198 : (-2147483648) ≤ (m193 a0 5) ∧ (m193 a0 5) ≤ 2147483647 := zi_rd hIm193 hc0 zb_9_5
                    have e199 : (m193 a0 5) = (m185 a0 5) := (Eq.trans (zs_ne hmm193 (Or.inr (by decide))) (zs_ne hmm189 (Or.inr (by decide))))
                    refine zw_bd (zw_mono (zk_282 n hIm193 hc0 ⟨by omega, by omega⟩ ⟨by omega, by omega⟩ ⟨by omega, by omega⟩) (fun v201 m200 hqm200 => ?_))
                    obtain ⟨hIm200, hfm200, hvm200⟩ := hqm200
                    have hFm200 := zfr_tr hFm193 hfm200 rfl
                    exact zw_some ⟨hIm200, hFm200, trivial⟩
                  · generalize hmm202 : zu_up m185 a0 4 5 = m202
                    have hIm202 := zi_up hmm202 hIm185 hc0 zb_9_4 (by omega) (by omega)
                    have hFm202 := zfr_up hmm202 hFm185 hc0 rfl
                    have r203 : 0 ≤ (m202 a0 3) ∧ (m202 a0 3) ≤ 700 := zi_rd hIm202 hc0 zb_9_3
                    have e204 : (m202 a0 3) = (m136 a0 3) := (Eq.trans (zs_ne hmm202 (Or.inr (by decide))) (Eq.trans (zs_ne hmm185 (Or.inr (by decide))) (zfr_ap hfm183 hc0 rfl)))
                    have w205 := zu_w32_id (z := (m202 a0 3) + 1) (by omega) (by omega)
                    generalize hmm206 : zu_up m202 a0 3 (zu_w32 ((m202 a0 3) + 1)) = m206
                    have hIm206 := zi_up hmm206 hIm202 hc0 zb_9_3 (by omega) (by omega)
                    have hFm206 := zfr_up hmm206 hFm202 hc0 rfl
                    have r207 : 0 ≤ (m206 a0 3) ∧ (m206 a0 3) ≤ 700 := zi_rd hIm206 hc0 zb_9_3
                    have e208 : (m206 a0 3) = (zu_w32 ((m202 a0 3) + 1)) := (zs_eq hmm206)
                    have r209 : 0 ≤ (m206 a0 2) ∧ (m206 a0 2) ≤ 700 := zi_rd hIm206 hc0 zb_9_2
                    have e210 : (m206 a0 2) = (m136 a0 2) := (Eq.trans (zs_ne hmm206 (Or.inr (by decide))) (Eq.trans (zs_ne hmm202 (Or.inr (by decide))) (Eq.trans (zs_ne hmm185 (Or.inr (by decide))) (zfr_ap hfm183 hc0 rfl))))
                    have r211 : (-2147483648) ≤ (m206 a0 5) ∧ (m206 a0 5) ≤ 2147483647 := zi_rd hIm206 hc0 zb_9_5
                    have e212 : (m206 a0 5) = (m185 a0 5) := (Eq.trans (zs_ne hmm206 (Or.inr (by decide))) (zs_ne hmm202 (Or.inr (by decide))))
                    refine zw_bd (zw_mono (zk_282 n hIm206 hc0 ⟨by omega, by omega⟩ ⟨by omega, by omega⟩ ⟨by omega, by omega⟩) (fun v214 m213 hqm213 => ?_))
                    obtain ⟨hIm213, hfm213, hvm213⟩ := hqm213
                    have hFm213 := zfr_tr hFm206 hfm213 rfl
                    exact zw_some ⟨hIm213, hFm213, trivial⟩
                · refine zw_bd (zw_mono (zk_281 n hIm136 hc0) (fun v216 m215 hqm215 => ?_))
                  obtain ⟨hIm215, hfm215, hvm215⟩ := hqm215
                  have hFm215 := zfr_tr hFm136 hfm215 rfl
                  exact zw_some ⟨hIm215, hFm215, trivial⟩
            · have b217 : 0 ≤ (m136 a0 3) ∧ (m136 a0 3) < 700 := by omega
              refine zw_if b217 ?_
              refine zw_ite (fun h218 => ?_) (fun h218 => ?_)
              · have b219 : 0 ≤ (m136 a0 3) ∧ (m136 a0 3) < 700 := by omega
                refine zw_if b219 ?_
                refine zw_ite (fun h220 => ?_) (fun h220 => ?_)
                · exfalso; omega
                · have b221 : 0 ≤ (m136 a0 3) ∧ (m136 a0 3) < 700 := by omega
                  refine zw_if b221 ?_
                  refine zw_ite (fun h222 => ?_) (fun h222 => ?_)
                  · have b223 : 0 ≤ (m136 a0 3) ∧ (m136 a0 3) < 700 := by omega
                    refine zw_if b223 ?_
                    refine zw_bd (zw_mono (zk_283 n hIm136 ⟨by omega, by omega⟩) (fun v225 m224 hqm224 => ?_))
                    obtain ⟨hIm224, hfm224, hvm224⟩ := hqm224
                    have hFm224 := zfr_tr hFm136 hfm224 rfl
                    generalize hmm226 : zu_up m224 a0 5 v225 = m226
                    have hIm226 := zi_up hmm226 hIm224 hc0 zb_9_5 (by omega) (by omega)
                    have hFm226 := zfr_up hmm226 hFm224 hc0 rfl
                    have r227 : (-2147483648) ≤ (m226 a0 5) ∧ (m226 a0 5) ≤ 2147483647 := zi_rd hIm226 hc0 zb_9_5
                    have e228 : (m226 a0 5) = v225 := (zs_eq hmm226)
                    refine zw_ite (fun h229 => ?_) (fun h229 => ?_)
                    · generalize hmm230 : zu_up m226 a0 4 4 = m230
                      have hIm230 := zi_up hmm230 hIm226 hc0 zb_9_4 (by omega) (by omega)
                      have hFm230 := zfr_up hmm230 hFm226 hc0 rfl
                      have r231 : 0 ≤ (m230 a0 3) ∧ (m230 a0 3) ≤ 700 := zi_rd hIm230 hc0 zb_9_3
                      have e232 : (m230 a0 3) = (m136 a0 3) := (Eq.trans (zs_ne hmm230 (Or.inr (by decide))) (Eq.trans (zs_ne hmm226 (Or.inr (by decide))) (zfr_ap hfm224 hc0 rfl)))
                      have w233 := zu_w32_id (z := (m230 a0 3) + 1) (by omega) (by omega)
                      generalize hmm234 : zu_up m230 a0 3 (zu_w32 ((m230 a0 3) + 1)) = m234
                      have hIm234 := zi_up hmm234 hIm230 hc0 zb_9_3 (by omega) (by omega)
                      have hFm234 := zfr_up hmm234 hFm230 hc0 rfl
                      have r235 : 0 ≤ (m234 a0 3) ∧ (m234 a0 3) ≤ 700 := zi_rd hIm234 hc0 zb_9_3
                      have e236 : (m234 a0 3) = (zu_w32 ((m230 a0 3) + 1)) := (zs_eq hmm234)
                      have r237 : 0 ≤ (m234 a0 2) ∧ (m234 a0 2) ≤ 700 := zi_rd hIm234 hc0 zb_9_2
                      have e238 : (m234 a0 2) = (m136 a0 2) := (Eq.trans (zs_ne hmm234 (Or.inr (by decide))) (Eq.trans (zs_ne hmm230 (Or.inr (by decide))) (Eq.trans (zs_ne hmm226 (Or.inr (by decide))) (zfr_ap hfm224 hc0 rfl))))
                      have r239 : (-2147483648) ≤ (m234 a0 5) ∧ (m234 a0 5) ≤ 2147483647 := zi_rd hIm234 hc0 zb_9_5
                      have e240 : (m234 a0 5) = (m226 a0 5) := (Eq.trans (zs_ne hmm234 (Or.inr (by decide))) (zs_ne hmm230 (Or.inr (by decide))))
                      refine zw_bd (zw_mono (zk_282 n hIm234 hc0 ⟨by omega, by omega⟩ ⟨by omega, by omega⟩ ⟨by omega, by omega⟩) (fun v242 m241 hqm241 => ?_))
                      obtain ⟨hIm241, hfm241, hvm241⟩ := hqm241
                      have hFm241 := zfr_tr hFm234 hfm241 rfl
                      exact zw_some ⟨hIm241, hFm241, trivial⟩
                    · generalize hmm243 : zu_up m226 a0 4 5 = m243
                      have hIm243 := zi_up hmm243 hIm226 hc0 zb_9_4 (by omega) (by omega)
                      have hFm243 := zfr_up hmm243 hFm226 hc0 rfl
                      have r244 : 0 ≤ (m243 a0 3) ∧ (m243 a0 3) ≤ 700 := zi_rd hIm243 hc0 zb_9_3
                      have e245 : (m243 a0 3) = (m136 a0 3) := (Eq.trans (zs_ne hmm243 (Or.inr (by decide))) (Eq.trans (zs_ne hmm226 (Or.inr (by decide))) (zfr_ap hfm224 hc0 rfl)))
                      have w246 := zu_w32_id (z := (m243 a0 3) + 1) (by omega) (by omega)
                      generalize hmm247 : zu_up m243 a0 3 (zu_w32 ((m243 a0 3) + 1)) = m247
                      have hIm247 := zi_up hmm247 hIm243 hc0 zb_9_3 (by omega) (by omega)
                      have hFm247 := zfr_up hmm247 hFm243 hc0 rfl
                      have r248 : 0 ≤ (m247 a0 3) ∧ (m247 a0 3) ≤ 700 := zi_rd hIm247 hc0 zb_9_3
                      have e249 : (m247 a0 3) = (zu_w32 ((m243 a0 3) + 1)) := (zs_eq hmm247)
                      have r250 : 0 ≤ (m247 a0 2) ∧ (m247 a0 2) ≤ 700 := zi_rd hIm247 hc0 zb_9_2
                      have e251 : (m247 a0 2) = (m136 a0 2) := (Eq.trans (zs_ne hmm247 (Or.inr (by decide))) (Eq.trans (zs_ne hmm243 (Or.inr (by decide))) (Eq.trans (zs_ne hmm226 (Or.inr (by decide))) (zfr_ap hfm224 hc0 rfl))))
                      have r252 : (-2147483648) ≤ (m247 a0 5) ∧ (m247 a0 5) ≤ 2147483647 := zi_rd hIm247 hc0 zb_9_5
                      have e253 : (m247 a0 5) = (m226 a0 5) := (Eq.trans (zs_ne hmm247 (Or.inr (by decide))) (zs_ne hmm243 (Or.inr (by decide))))
                      refine zw_bd (zw_mono (zk_282 n hIm247 hc0 ⟨by omega, by omega⟩ ⟨by omega, by omega⟩ ⟨by omega, by omega⟩) (fun v255 m254 hqm254 => ?_))
                      obtain ⟨hIm254, hfm254, hvm254⟩ := hqm254
                      have hFm254 := zfr_tr hFm247 hfm254 rfl
                      exact zw_some ⟨hIm254, hFm254, trivial⟩
                  · exfalso; omega
              · refine zw_bd (zw_mono (zk_280 n hIm136 hc0 ⟨by omega, by omega⟩ ⟨by omega, by omega⟩) (fun v257 m256 hqm256 => ?_))
                obtain ⟨hIm256, hfm256, hvm256⟩ := hqm256
                have hFm256 := zfr_tr hFm136 hfm256 rfl
                exact zw_some ⟨hIm256, hFm256, trivial⟩
          · generalize hmm258 : zu_up m136 a0 4 0 = m258
            have hIm258 := zi_up hmm258 hIm136 hc0 zb_9_4 (by omega) (by omega)
            have hFm258 := zfr_up hmm258 hFm136 hc0 rfl
            exact zw_some ⟨hIm258, hFm258, trivial⟩
        · have w259 := zu_w32_id (z := (mh a0 3) + 1) (by omega) (by omega)
          generalize hmm260 : zu_up mh a0 3 (zu_w32 ((mh a0 3) + 1)) = m260
          have hIm260 := zi_up hmm260 hImh hc0 zb_9_3 (by omega) (by omega)
          have hFm260 := zfr_up hmm260 hFmh hc0 rfl
          have r261 : 0 ≤ (m260 a0 3) ∧ (m260 a0 3) ≤ 700 := zi_rd hIm260 hc0 zb_9_3
          have e262 : (m260 a0 3) = (zu_w32 ((mh a0 3) + 1)) := (zs_eq hmm260)
          have hM : (700 - (m260 a0 3)) * 1 + 0 < (k : Int) := by omega
          exact ih  m260 hIm260 hFm260  hM
set_option maxHeartbeats 4000000 in
theorem zk_18 (n : Nat) {a0 : Int} {m0 : zu_m} (hIm0 : zi_I m0) (hc0 : zcls a0 = 9)     : zw (zu_call (zt_T n) 18 [(22, a0)] m0) (fun v m => zi_I m ∧ zfr [(9, 4), (9, 5), (9, 6), (9, 7)] m0 m ∧ True) := by
  have hFm0 : zfr [(9, 4), (9, 5), (9, 6), (9, 7)] m0 m0 := zfr_rf _ _
  show zw (zu_ex (zt_T n) 18 0 [(22, a0)] [] m0) _
  have r263 : 0 ≤ (m0 a0 3) ∧ (m0 a0 3) ≤ 700 := zi_rd hIm0 hc0 zb_9_3
  have hM : (700 - (m0 a0 3)) * 1 + 0 < ((701 : Nat) : Int) := by omega
  exact (zl_18 n (m0 := m0) hc0 701)  m0 hIm0 hFm0  hM
set_option maxHeartbeats 4000000 in
theorem zk_20 (n : Nat) {a0 a1 : Int} {m0 : zu_m} (hIm0 : zi_I m0) (hc0 : zcls a0 = 4) (hc1 : zcls a1 = 4)     : zw (zu_call (zt_T n) 20 [(8, a0), (8, a1)] m0) (fun v m => zi_I m ∧ zfr [(4, 1), (4, 2), (4, 3), (4, 4), (4, 5), (4, 6), (5, 6), (5, 7), (17, 0), (18, 0), (19, 0), (20, 0), (21, 0), (22, 0), (23, 0)] m0 m ∧ True) := by
  have hFm0 : zfr [(4, 1), (4, 2), (4, 3), (4, 4), (4, 5), (4, 6), (5, 6), (5, 7), (17, 0), (18, 0), (19, 0), (20, 0), (21, 0), (22, 0), (23, 0)] m0 m0 := zfr_rf _ _
  refine zw_eq (zr_20_0 n a0 a1 m0) ?_
  have r1 : 0 ≤ (m0 a1 3) ∧ (m0 a1 3) ≤ 6 := zi_rd hIm0 hc1 zb_4_3
  generalize hmm2 : zu_up m0 a0 3 (m0 a1 3) = m2
  have hIm2 := zi_up hmm2 hIm0 hc0 zb_4_3 (by omega) (by omega)
  have hFm2 := zfr_up hmm2 hFm0 hc0 rfl
  have r3 : 0 ≤ (m2 a1 4) ∧ (m2 a1 4) ≤ 99 := zi_rd hIm2 hc1 zb_4_4
  generalize hmm4 : zu_up m2 a0 4 (m2 a1 4) = m4
  have hIm4 := zi_up hmm4 hIm2 hc0 zb_4_4 (by omega) (by omega)
  have hFm4 := zfr_up hmm4 hFm2 hc0 rfl
  have r5 : 0 ≤ (m4 a1 5) ∧ (m4 a1 5) ≤ 99999 := zi_rd hIm4 hc1 zb_4_5
  generalize hmm6 : zu_up m4 a0 5 (m4 a1 5) = m6
  have hIm6 := zi_up hmm6 hIm4 hc0 zb_4_5 (by omega) (by omega)
  have hFm6 := zfr_up hmm6 hFm4 hc0 rfl
  refine zw_bd (zw_mono (zk_21 n hIm6 (zc_4_9 hc0) (zc_4_9 hc1)) (fun v8 m7 hqm7 => ?_))
  obtain ⟨hIm7, hfm7, hvm7⟩ := hqm7
  have hFm7 := zfr_tr hFm6 hfm7 rfl
  refine zw_if (by omega) ?_
  generalize hmm9 : zu_cp m7 (a1 + 3) 0 (a0 + 3) 0 48 = m9
  have hIm9 := zi_cp hmm9 hIm7 (zc_4_8 hc1) (zc_4_8 hc0) zb_19 zb_19 (by decide) (by decide)
  have hFm9 := zfr_cp hmm9 hFm7 (zc_4_8 hc0) (fun _ => rfl)
  have hfm9 : zfr [(19, 0)] m7 m9 := zfr_cp hmm9 (zfr_rf _ _) (zc_4_8 hc0) (fun _ => rfl)
  have r10 : 1 ≤ (m9 a1 0) ∧ (m9 a1 0) ≤ 8 := zi_rd hIm9 hc1 zb_4_0
  have r11 : 1 ≤ (m9 a1 1) ∧ (m9 a1 1) ≤ 6 := zi_rd hIm9 hc1 zb_4_1
  refine zw_bd (zw_mono (zk_15 n hIm9 hc0 ⟨by omega, by omega⟩ ⟨by omega, by omega⟩) (fun v13 m12 hqm12 => ?_))
  obtain ⟨hIm12, hfm12, hvm12⟩ := hqm12
  have hFm12 := zfr_tr hFm9 hfm12 rfl
  exact zw_some ⟨hIm12, hFm12, trivial⟩
set_option maxHeartbeats 4000000 in
theorem zl_22_11_11 (n : Nat) {a0 a1 : Int} {m0 : zu_m} (hc0 : zcls a0 = 11) (hc1 : zcls a1 = 11)  : ∀ k : Nat, (∀ (x2 : Int) (mh : zu_m), zi_I mh → zfr [(7, 1), (7, 2), (7, 3), (7, 4), (8, 1), (8, 2), (8, 3), (8, 4), (8, 5), (8, 6), (8, 7), (8, 8), (11, 3), (11, 5), (11, 9), (11, 10), (11, 11), (11, 12), (38, 0), (39, 0)] m0 mh → (0 ≤ x2 ∧ x2 ≤ 16) → (16 - x2) * 1 + 54 < (k : Int) → zw (zu_ex (zt_T n) 22 10 [(27, a0), (27, a1), (0, x2)] [] mh) (fun v m => zi_I m ∧ zfr [(7, 1), (7, 2), (7, 3), (7, 4), (8, 1), (8, 2), (8, 3), (8, 4), (8, 5), (8, 6), (8, 7), (8, 8), (11, 3), (11, 5), (11, 9), (11, 10), (11, 11), (11, 12), (38, 0), (39, 0)] m0 m ∧ True)) ∧ (∀ (x2 : Int) (mh : zu_m), zi_I mh → zfr [(7, 1), (7, 2), (7, 3), (7, 4), (8, 1), (8, 2), (8, 3), (8, 4), (8, 5), (8, 6), (8, 7), (8, 8), (11, 3), (11, 5), (11, 9), (11, 10), (11, 11), (11, 12), (38, 0), (39, 0)] m0 mh → (0 ≤ x2 ∧ x2 ≤ 4) → (4 - x2) * 1 + 49 < (k : Int) → zw (zu_ex (zt_T n) 22 49 [(27, a0), (27, a1), (0, x2)] [] mh) (fun v m => zi_I m ∧ zfr [(7, 1), (7, 2), (7, 3), (7, 4), (8, 1), (8, 2), (8, 3), (8, 4), (8, 5), (8, 6), (8, 7), (8, 8), (11, 3), (11, 5), (11, 9), (11, 10), (11, 11), (11, 12), (38, 0), (39, 0)] m0 m ∧ True)) ∧ (∀ (x2 : Int) (mh : zu_m), zi_I mh → zfr [(7, 1), (7, 2), (7, 3), (7, 4), (8, 1), (8, 2), (8, 3), (8, 4), (8, 5), (8, 6), (8, 7), (8, 8), (11, 3), (11, 5), (11, 9), (11, 10), (11, 11), (11, 12), (38, 0), (39, 0)] m0 mh → (0 ≤ x2 ∧ x2 ≤ 48) → (48 - x2) * 1 + 0 < (k : Int) → zw (zu_ex (zt_T n) 22 80 [(27, a0), (27, a1), (0, x2)] [] mh) (fun v m => zi_I m ∧ zfr [(7, 1), (7, 2), (7, 3), (7, 4), (8, 1), (8, 2), (8, 3), (8, 4), (8, 5), (8, 6), (8, 7), (8, 8), (11, 3), (11, 5), (11, 9), (11, 10), (11, 11), (11, 12), (38, 0), (39, 0)] m0 m ∧ True)) := by
  intro k
  induction k with
  | zero => exact ⟨fun x2 mh hImh hFmh hbx2 hM => by exfalso; omega, fun x2 mh hImh hFmh hbx2 hM => by exfalso; omega, fun x2 mh hImh hFmh hbx2 hM => by exfalso; omega⟩
  | succ k ih =>
    refine ⟨?_, ?_, ?_⟩
    · intro x2 mh hImh hFmh hbx2 hM
      refine zw_eq (zr_22_10 n a0 a1 x2 mh) ?_
      have r1 : 0 ≤ (mh a0 2) ∧ (mh a0 2) ≤ 16 := zi_rd hImh hc0 zb_11_2
      refine zw_ite (fun h2 => ?_) (fun h2 => ?_)
      · have r3 : 0 ≤ (mh a1 4) ∧ (mh a1 4) ≤ 4 := zi_rd hImh hc1 zb_11_4
        generalize hmm4 : zu_up mh a0 4 (mh a1 4) = m4
        have hIm4 := zi_up hmm4 hImh hc0 zb_11_4 (by omega) (by omega)
        have hFm4 := zfr_up hmm4 hFmh hc0 rfl
        have hM : (4 - 0) * 1 + 49 < (k : Int) := by omega
        exact ih.2.1 0 m4 hIm4 hFm4 ⟨by omega, by omega⟩ hM
      · have b5 : 0 ≤ x2 ∧ x2 < 16 := by omega
        refine zw_if b5 ?_
        have b6 : 0 ≤ x2 ∧ x2 < 16 := by omega
        refine zw_if b6 ?_
        refine zw_bd (zw_mono (zk_197 n hImh (zc_36_e (zc_11_1 hc0) b5) (zc_36_e (zc_11_1 hc1) b6)) (fun v8 m7 hqm7 => ?_))
        obtain ⟨hIm7, hfm7, hvm7⟩ := hqm7
        have hFm7 := zfr_tr hFmh hfm7 rfl
        have w9 := zu_w32_id (z := x2 + 1) (by omega) (by omega)
        have hM : (16 - (zu_w32 (x2 + 1))) * 1 + 54 < (k : Int) := by omega
        exact ih.1 (zu_w32 (x2 + 1)) m7 hIm7 hFm7 ⟨by omega, by omega⟩ hM
    · intro x2 mh hImh hFmh hbx2 hM
      refine zw_eq (zr_22_49 n a0 a1 x2 mh) ?_
      have r10 : 0 ≤ (mh a0 4) ∧ (mh a0 4) ≤ 4 := zi_rd hImh hc0 zb_11_4
      refine zw_ite (fun h11 => ?_) (fun h11 => ?_)
      · have hM : (48 - 0) * 1 + 0 < (k : Int) := by omega
        exact ih.2.2 0 mh hImh hFmh ⟨by omega, by omega⟩ hM
      · have b12 : 0 ≤ x2 ∧ x2 < 4 := by omega
        refine zw_if b12 ?_
        have b13 : 0 ≤ x2 ∧ x2 < 4 := by omega
        refine zw_if b13 ?_
        refine zw_bd (zw_mono (zk_196 n hImh (zc_37_e (zc_11_3 hc0) b12) (zc_37_e (zc_11_3 hc1) b13)) (fun v15 m14 hqm14 => ?_))
        obtain ⟨hIm14, hfm14, hvm14⟩ := hqm14
        have hFm14 := zfr_tr hFmh hfm14 rfl
        have w16 := zu_w32_id (z := x2 + 1) (by omega) (by omega)
        have hM : (4 - (zu_w32 (x2 + 1))) * 1 + 49 < (k : Int) := by omega
        exact ih.2.1 (zu_w32 (x2 + 1)) m14 hIm14 hFm14 ⟨by omega, by omega⟩ hM
    · intro x2 mh hImh hFmh hbx2 hM
      refine zw_eq (zr_22_80 n a0 a1 x2 mh) ?_
      refine zw_ite (fun h17 => ?_) (fun h17 => ?_)
      · have r18 : (-2147483648) ≤ (mh a1 8) ∧ (mh a1 8) ≤ 2147483647 := zi_rd hImh hc1 zb_11_8
        generalize hmm19 : zu_up mh a0 8 (mh a1 8) = m19
        have hIm19 := zi_up hmm19 hImh hc0 zb_11_8 (by omega) (by omega)
        have hFm19 := zfr_up hmm19 hFmh hc0 rfl
        have r20 : (-2147483648) ≤ (m19 a1 9) ∧ (m19 a1 9) ≤ 2147483647 := zi_rd hIm19 hc1 zb_11_9
        generalize hmm21 : zu_up m19 a0 9 (m19 a1 9) = m21
        have hIm21 := zi_up hmm21 hIm19 hc0 zb_11_9 (by omega) (by omega)
        have hFm21 := zfr_up hmm21 hFm19 hc0 rfl
        have r22 : 0 ≤ (m21 a1 10) ∧ (m21 a1 10) ≤ 3 := zi_rd hIm21 hc1 zb_11_10
        generalize hmm23 : zu_up m21 a0 10 (m21 a1 10) = m23
        have hIm23 := zi_up hmm23 hIm21 hc0 zb_11_10 (by omega) (by omega)
        have hFm23 := zfr_up hmm23 hFm21 hc0 rfl
        have r24 : (-2147483648) ≤ (m23 a1 11) ∧ (m23 a1 11) ≤ 2147483647 := zi_rd hIm23 hc1 zb_11_11
        generalize hmm25 : zu_up m23 a0 11 (m23 a1 11) = m25
        have hIm25 := zi_up hmm25 hIm23 hc0 zb_11_11 (by omega) (by omega)
        have hFm25 := zfr_up hmm25 hFm23 hc0 rfl
        exact zw_some ⟨hIm25, hFm25, trivial⟩
      · have b26 : 0 ≤ x2 ∧ x2 < 48 := by omega
        refine zw_if b26 ?_
        have r27 : 0 ≤ (mh (a1 + 3) x2) ∧ (mh (a1 + 3) x2) ≤ 1 := zi_rd hImh (zc_11_5 hc1) (zb_38 _)
        refine zw_b (by omega) ?_
        have b28 : 0 ≤ x2 ∧ x2 < 48 := by omega
        refine zw_if b28 ?_
        generalize hmm29 : zu_up mh (a0 + 3) x2 (mh (a1 + 3) x2) = m29
        have hIm29 := zi_up hmm29 hImh (zc_11_5 hc0) (zb_38 _) (by omega) (by omega)
        have hFm29 := zfr_up hmm29 hFmh (zc_11_5 hc0) rfl
        have b30 : 0 ≤ x2 ∧ x2 < 48 := by omega
        refine zw_if b30 ?_
        have r31 : 0 ≤ (m29 (a1 + 4) x2) ∧ (m29 (a1 + 4) x2) ≤ 999000 := zi_rd hIm29 (zc_11_6 hc1) (zb_39 _)
        have b32 : 0 ≤ x2 ∧ x2 < 48 := by omega
        refine zw_if b32 ?_
        generalize hmm33 : zu_up m29 (a0 + 4) x2 (m29 (a1 + 4) x2) = m33
        have hIm33 := zi_up hmm33 hIm29 (zc_11_6 hc0) (zb_39 _) (by omega) (by omega)
        have hFm33 := zfr_up hmm33 hFm29 (zc_11_6 hc0) rfl
        have w34 := zu_w32_id (z := x2 + 1) (by omega) (by omega)
        have hM : (48 - (zu_w32 (x2 + 1))) * 1 + 0 < (k : Int) := by omega
        exact ih.2.2 (zu_w32 (x2 + 1)) m33 hIm33 hFm33 ⟨by omega, by omega⟩ hM
set_option maxHeartbeats 4000000 in
theorem zk_22_11_11 (n : Nat) {a0 a1 : Int} {m0 : zu_m} (hIm0 : zi_I m0) (hc0 : zcls a0 = 11) (hc1 : zcls a1 = 11)     : zw (zu_call (zt_T n) 22 [(27, a0), (27, a1)] m0) (fun v m => zi_I m ∧ zfr [(7, 1), (7, 2), (7, 3), (7, 4), (8, 1), (8, 2), (8, 3), (8, 4), (8, 5), (8, 6), (8, 7), (8, 8), (11, 3), (11, 5), (11, 9), (11, 10), (11, 11), (11, 12), (38, 0), (39, 0)] m0 m ∧ True) := by
  have hFm0 : zfr [(7, 1), (7, 2), (7, 3), (7, 4), (8, 1), (8, 2), (8, 3), (8, 4), (8, 5), (8, 6), (8, 7), (8, 8), (11, 3), (11, 5), (11, 9), (11, 10), (11, 11), (11, 12), (38, 0), (39, 0)] m0 m0 := zfr_rf _ _
  refine zw_eq (zr_22_0 n a0 a1 m0) ?_
  have r35 : 0 ≤ (m0 a1 2) ∧ (m0 a1 2) ≤ 16 := zi_rd hIm0 hc1 zb_11_2
  generalize hmm36 : zu_up m0 a0 2 (m0 a1 2) = m36
  have hIm36 := zi_up hmm36 hIm0 hc0 zb_11_2 (by omega) (by omega)
  have hFm36 := zfr_up hmm36 hFm0 hc0 rfl
  have hM : (16 - 0) * 1 + 54 < ((71 : Nat) : Int) := by omega
  exact (zl_22_11_11 n (m0 := m0) hc0 hc1 71).1 0 m36 hIm36 hFm36 ⟨by omega, by omega⟩ hM
set_option maxHeartbeats 4000000 in
theorem zl_22_11_6 (n : Nat) {a0 a1 : Int} {m0 : zu_m} (hc0 : zcls a0 = 11) (hc1 : zcls a1 = 6)  : ∀ k : Nat, (∀ (x2 : Int) (mh : zu_m), zi_I mh → zfr [(7, 1), (7, 2), (7, 3), (7, 4), (8, 1), (8, 2), (8, 3), (8, 4), (8, 5), (8, 6), (8, 7), (8, 8), (11, 3), (11, 5), (11, 9), (11, 10), (11, 11), (11, 12), (38, 0), (39, 0)] m0 mh → (0 ≤ x2 ∧ x2 ≤ 16) → (16 - x2) * 1 + 54 < (k : Int) → zw (zu_ex (zt_T n) 22 10 [(27, a0), (16, a1), (0, x2)] [] mh) (fun v m => zi_I m ∧ zfr [(7, 1), (7, 2), (7, 3), (7, 4), (8, 1), (8, 2), (8, 3), (8, 4), (8, 5), (8, 6), (8, 7), (8, 8), (11, 3), (11, 5), (11, 9), (11, 10), (11, 11), (11, 12), (38, 0), (39, 0)] m0 m ∧ True)) ∧ (∀ (x2 : Int) (mh : zu_m), zi_I mh → zfr [(7, 1), (7, 2), (7, 3), (7, 4), (8, 1), (8, 2), (8, 3), (8, 4), (8, 5), (8, 6), (8, 7), (8, 8), (11, 3), (11, 5), (11, 9), (11, 10), (11, 11), (11, 12), (38, 0), (39, 0)] m0 mh → (0 ≤ x2 ∧ x2 ≤ 4) → (4 - x2) * 1 + 49 < (k : Int) → zw (zu_ex (zt_T n) 22 49 [(27, a0), (16, a1), (0, x2)] [] mh) (fun v m => zi_I m ∧ zfr [(7, 1), (7, 2), (7, 3), (7, 4), (8, 1), (8, 2), (8, 3), (8, 4), (8, 5), (8, 6), (8, 7), (8, 8), (11, 3), (11, 5), (11, 9), (11, 10), (11, 11), (11, 12), (38, 0), (39, 0)] m0 m ∧ True)) ∧ (∀ (x2 : Int) (mh : zu_m), zi_I mh → zfr [(7, 1), (7, 2), (7, 3), (7, 4), (8, 1), (8, 2), (8, 3), (8, 4), (8, 5), (8, 6), (8, 7), (8, 8), (11, 3), (11, 5), (11, 9), (11, 10), (11, 11), (11, 12), (38, 0), (39, 0)] m0 mh → (0 ≤ x2 ∧ x2 ≤ 48) → (48 - x2) * 1 + 0 < (k : Int) → zw (zu_ex (zt_T n) 22 80 [(27, a0), (16, a1), (0, x2)] [] mh) (fun v m => zi_I m ∧ zfr [(7, 1), (7, 2), (7, 3), (7, 4), (8, 1), (8, 2), (8, 3), (8, 4), (8, 5), (8, 6), (8, 7), (8, 8), (11, 3), (11, 5), (11, 9), (11, 10), (11, 11), (11, 12), (38, 0), (39, 0)] m0 m ∧ True)) := by
  intro k
  induction k with
  | zero => exact ⟨fun x2 mh hImh hFmh hbx2 hM => by exfalso; omega, fun x2 mh hImh hFmh hbx2 hM => by exfalso; omega, fun x2 mh hImh hFmh hbx2 hM => by exfalso; omega⟩
  | succ k ih =>
    refine ⟨?_, ?_, ?_⟩
    · intro x2 mh hImh hFmh hbx2 hM
      refine zw_eq (zr_22b_10 n a0 a1 x2 mh) ?_
      have r1 : 0 ≤ (mh a0 2) ∧ (mh a0 2) ≤ 16 := zi_rd hImh hc0 zb_11_2
      refine zw_ite (fun h2 => ?_) (fun h2 => ?_)
      · have r3 : 0 ≤ (mh a1 4) ∧ (mh a1 4) ≤ 4 := zi_rd hImh hc1 zb_6_4
        generalize hmm4 : zu_up mh a0 4 (mh a1 4) = m4
        have hIm4 := zi_up hmm4 hImh hc0 zb_11_4 (by omega) (by omega)
        have hFm4 := zfr_up hmm4 hFmh hc0 rfl
        have hM : (4 - 0) * 1 + 49 < (k : Int) := by omega
        exact ih.2.1 0 m4 hIm4 hFm4 ⟨by omega, by omega⟩ hM
      · have b5 : 0 ≤ x2 ∧ x2 < 16 := by omega
        refine zw_if b5 ?_
        have b6 : 0 ≤ x2 ∧ x2 < 16 := by omega
        refine zw_if b6 ?_
        refine zw_bd (zw_mono (zk_197 n hImh (zc_36_e (zc_11_1 hc0) b5) (zc_28_e zq_20 b6)) (fun v8 m7 hqm7 => ?_))
        obtain ⟨hIm7, hfm7, hvm7⟩ := hqm7
        have hFm7 := zfr_tr hFmh hfm7 rfl
        have w9 := zu_w32_id (z := x2 + 1) (by omega) (by omega)
        have hM : (16 - (zu_w32 (x2 + 1))) * 1 + 54 < (k : Int) := by omega
        exact ih.1 (zu_w32 (x2 + 1)) m7 hIm7 hFm7 ⟨by omega, by omega⟩ hM
    · intro x2 mh hImh hFmh hbx2 hM
      refine zw_eq (zr_22b_49 n a0 a1 x2 mh) ?_
      have r10 : 0 ≤ (mh a0 4) ∧ (mh a0 4) ≤ 4 := zi_rd hImh hc0 zb_11_4
      refine zw_ite (fun h11 => ?_) (fun h11 => ?_)
      · have hM : (48 - 0) * 1 + 0 < (k : Int) := by omega
        exact ih.2.2 0 mh hImh hFmh ⟨by omega, by omega⟩ hM
      · have b12 : 0 ≤ x2 ∧ x2 < 4 := by omega
        refine zw_if b12 ?_
        have b13 : 0 ≤ x2 ∧ x2 < 4 := by omega
        refine zw_if b13 ?_
        refine zw_bd (zw_mono (zk_196 n hImh (zc_37_e (zc_11_3 hc0) b12) (zc_29_e zq_21 b13)) (fun v15 m14 hqm14 => ?_))
        obtain ⟨hIm14, hfm14, hvm14⟩ := hqm14
        have hFm14 := zfr_tr hFmh hfm14 rfl
        have w16 := zu_w32_id (z := x2 + 1) (by omega) (by omega)
        have hM : (4 - (zu_w32 (x2 + 1))) * 1 + 49 < (k : Int) := by omega
        exact ih.2.1 (zu_w32 (x2 + 1)) m14 hIm14 hFm14 ⟨by omega, by omega⟩ hM
    · intro x2 mh hImh hFmh hbx2 hM
      refine zw_eq (zr_22b_80 n a0 a1 x2 mh) ?_
      refine zw_ite (fun h17 => ?_) (fun h17 => ?_)
      · have r18 : (-2147483648) ≤ (mh a1 8) ∧ (mh a1 8) ≤ 2147483647 := zi_rd hImh hc1 zb_6_8
        generalize hmm19 : zu_up mh a0 8 (mh a1 8) = m19
        have hIm19 := zi_up hmm19 hImh hc0 zb_11_8 (by omega) (by omega)
        have hFm19 := zfr_up hmm19 hFmh hc0 rfl
        have r20 : (-2147483648) ≤ (m19 a1 9) ∧ (m19 a1 9) ≤ 2147483647 := zi_rd hIm19 hc1 zb_6_9
        generalize hmm21 : zu_up m19 a0 9 (m19 a1 9) = m21
        have hIm21 := zi_up hmm21 hIm19 hc0 zb_11_9 (by omega) (by omega)
        have hFm21 := zfr_up hmm21 hFm19 hc0 rfl
        have r22 : 0 ≤ (m21 a1 10) ∧ (m21 a1 10) ≤ 3 := zi_rd hIm21 hc1 zb_6_10
        generalize hmm23 : zu_up m21 a0 10 (m21 a1 10) = m23
        have hIm23 := zi_up hmm23 hIm21 hc0 zb_11_10 (by omega) (by omega)
        have hFm23 := zfr_up hmm23 hFm21 hc0 rfl
        have r24 : (-2147483648) ≤ (m23 a1 11) ∧ (m23 a1 11) ≤ 2147483647 := zi_rd hIm23 hc1 zb_6_11
        generalize hmm25 : zu_up m23 a0 11 (m23 a1 11) = m25
        have hIm25 := zi_up hmm25 hIm23 hc0 zb_11_11 (by omega) (by omega)
        have hFm25 := zfr_up hmm25 hFm23 hc0 rfl
        exact zw_some ⟨hIm25, hFm25, trivial⟩
      · have b26 : 0 ≤ x2 ∧ x2 < 48 := by omega
        refine zw_if b26 ?_
        have r27 : 0 ≤ (mh 22 x2) ∧ (mh 22 x2) ≤ 1 := zi_rd hImh zq_22 (zb_30 _)
        refine zw_b (by omega) ?_
        have b28 : 0 ≤ x2 ∧ x2 < 48 := by omega
        refine zw_if b28 ?_
        generalize hmm29 : zu_up mh (a0 + 3) x2 (mh 22 x2) = m29
        have hIm29 := zi_up hmm29 hImh (zc_11_5 hc0) (zb_38 _) (by omega) (by omega)
        have hFm29 := zfr_up hmm29 hFmh (zc_11_5 hc0) rfl
        have b30 : 0 ≤ x2 ∧ x2 < 48 := by omega
        refine zw_if b30 ?_
        have r31 : 0 ≤ (m29 23 x2) ∧ (m29 23 x2) ≤ 999000 := zi_rd hIm29 zq_23 (zb_31 _)
        have b32 : 0 ≤ x2 ∧ x2 < 48 := by omega
        refine zw_if b32 ?_
        generalize hmm33 : zu_up m29 (a0 + 4) x2 (m29 23 x2) = m33
        have hIm33 := zi_up hmm33 hIm29 (zc_11_6 hc0) (zb_39 _) (by omega) (by omega)
        have hFm33 := zfr_up hmm33 hFm29 (zc_11_6 hc0) rfl
        have w34 := zu_w32_id (z := x2 + 1) (by omega) (by omega)
        have hM : (48 - (zu_w32 (x2 + 1))) * 1 + 0 < (k : Int) := by omega
        exact ih.2.2 (zu_w32 (x2 + 1)) m33 hIm33 hFm33 ⟨by omega, by omega⟩ hM
set_option maxHeartbeats 4000000 in
theorem zk_22_11_6 (n : Nat) {a0 a1 : Int} {m0 : zu_m} (hIm0 : zi_I m0) (hc0 : zcls a0 = 11) (hc1 : zcls a1 = 6)     : zw (zu_call (zt_T n) 22 [(27, a0), (16, a1)] m0) (fun v m => zi_I m ∧ zfr [(7, 1), (7, 2), (7, 3), (7, 4), (8, 1), (8, 2), (8, 3), (8, 4), (8, 5), (8, 6), (8, 7), (8, 8), (11, 3), (11, 5), (11, 9), (11, 10), (11, 11), (11, 12), (38, 0), (39, 0)] m0 m ∧ True) := by
  have hFm0 : zfr [(7, 1), (7, 2), (7, 3), (7, 4), (8, 1), (8, 2), (8, 3), (8, 4), (8, 5), (8, 6), (8, 7), (8, 8), (11, 3), (11, 5), (11, 9), (11, 10), (11, 11), (11, 12), (38, 0), (39, 0)] m0 m0 := zfr_rf _ _
  refine zw_eq (zr_22b_0 n a0 a1 m0) ?_
  have r35 : 0 ≤ (m0 a1 2) ∧ (m0 a1 2) ≤ 16 := zi_rd hIm0 hc1 zb_6_2
  generalize hmm36 : zu_up m0 a0 2 (m0 a1 2) = m36
  have hIm36 := zi_up hmm36 hIm0 hc0 zb_11_2 (by omega) (by omega)
  have hFm36 := zfr_up hmm36 hFm0 hc0 rfl
  have hM : (16 - 0) * 1 + 54 < ((71 : Nat) : Int) := by omega
  exact (zl_22_11_6 n (m0 := m0) hc0 hc1 71).1 0 m36 hIm36 hFm36 ⟨by omega, by omega⟩ hM
set_option maxHeartbeats 4000000 in
theorem zk_26 (n : Nat) {a0 a1 a2 : Int} {m0 : zu_m} (hIm0 : zi_I m0) (hc0 : zcls a0 = 5) (hc2 : zcls a2 = 27) (ha1 : 0 ≤ a1 ∧ a1 ≤ 3)    : zw (zu_call (zt_T n) 26 [(10, a0), (0, a1), (15, a2)] m0) (fun v m => zi_I m ∧ zfr [(24, 0)] m0 m ∧ ((-9223372036854775808) ≤ v ∧ v ≤ 9223372036854775807)) := by
  sorry
set_option maxHeartbeats 4000000 in
theorem zk_40 (n : Nat) {a0 a1 a2 a3 a4 a5 : Int} {m0 : zu_m} (hIm0 : zi_I m0) (hc0 : zcls a0 = 2) (ha1 : (-2147483648) ≤ a1 ∧ a1 ≤ 2147483647) (ha2 : (-2147483648) ≤ a2 ∧ a2 ≤ 2147483647) (ha3 : (-2147483648) ≤ a3 ∧ a3 ≤ 2147483647) (ha4 : (-2147483648) ≤ a4 ∧ a4 ≤ 2147483647) (ha5 : (-2147483648) ≤ a5 ∧ a5 ≤ 2147483647)    : zw (zu_call (zt_T n) 40 [(5, a0), (0, a1), (0, a2), (0, a3), (0, a4), (0, a5)] m0) (fun v m => zi_I m ∧ zfr [(2, 2), (16, 0)] m0 m ∧ ((-1) ≤ v ∧ v ≤ 700)) := by
  have hFm0 : zfr [(2, 2), (16, 0)] m0 m0 := zfr_rf _ _
  refine zw_eq (zr_40_0 n a0 a1 a2 a3 a4 a5 m0) ?_
  have r1 : 0 ≤ (m0 a0 1) ∧ (m0 a0 1) ≤ 700 := zi_rd hIm0 hc0 zb_2_1
  refine zw_ite (fun h2 => ?_) (fun h2 => ?_)
  · refine zw_bd (zw_mono (zk_41 n hIm0 hc0 ⟨by omega, by omega⟩) (fun v4 m3 hqm3 => ?_))
    obtain ⟨hIm3, hfm3, hvm3⟩ := hqm3
    have hFm3 := zfr_tr hFm0 hfm3 rfl
    refine zw_bd (zw_mono (zk_41 n hIm3 hc0 ⟨by omega, by omega⟩) (fun v6 m5 hqm5 => ?_))
    obtain ⟨hIm5, hfm5, hvm5⟩ := hqm5
    have hFm5 := zfr_tr hFm3 hfm5 rfl
    refine zw_bd (zw_mono (zk_41 n hIm5 hc0 ⟨by omega, by omega⟩) (fun v8 m7 hqm7 => ?_))
    obtain ⟨hIm7, hfm7, hvm7⟩ := hqm7
    have hFm7 := zfr_tr hFm5 hfm7 rfl
    refine zw_bd (zw_mono (zk_41 n hIm7 hc0 ⟨by omega, by omega⟩) (fun v10 m9 hqm9 => ?_))
    obtain ⟨hIm9, hfm9, hvm9⟩ := hqm9
    have hFm9 := zfr_tr hFm7 hfm9 rfl
    refine zw_bd (zw_mono (zk_41 n hIm9 hc0 ⟨by omega, by omega⟩) (fun v12 m11 hqm11 => ?_))
    obtain ⟨hIm11, hfm11, hvm11⟩ := hqm11
    have hFm11 := zfr_tr hFm9 hfm11 rfl
    have r13 : 0 ≤ (m11 a0 1) ∧ (m11 a0 1) ≤ 700 := zi_rd hIm11 hc0 zb_2_1
    exact zw_some ⟨hIm11, hFm11, ⟨by omega, by omega⟩⟩
  · exact zw_some ⟨hIm0, hFm0, ⟨by omega, by omega⟩⟩
