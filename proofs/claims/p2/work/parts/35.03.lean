set_option maxHeartbeats 4000000 in
theorem zl_280 (n : Nat) {a0 : Int} {m0 : zu_m} (hc0 : zcls a0 = 9)   : ∀ k : Nat, (∀ (x1 : Int) (mh : zu_m), zi_I mh → zfr [(9, 4), (9, 5), (9, 6)] m0 mh → ((-2147483648) ≤ x1 ∧ x1 ≤ 2147483647) → (1 ≤ mh a0 2 ∧ mh a0 2 ≤ 700) → (0 ≤ mh a0 6 ∧ mh a0 6 ≤ 699) → (700 - (mh a0 3)) * 1 + 37 < (k : Int) → zw (zu_ex (zt_T n) 280 2 [(22, a0), (0, x1), (2, 0)] [] mh) (fun v m => zi_I m ∧ zfr [(9, 4), (9, 5), (9, 6)] m0 m ∧ True ∧ (1 ≤ m a0 4 ∧ m a0 4 ≤ 5) ∧ ((m a0 4) ≠ 4))) ∧ (∀ (x1 x2 : Int) (mh : zu_m), zi_I mh → zfr [(9, 4), (9, 5), (9, 6)] m0 mh → ((-2147483648) ≤ x1 ∧ x1 ≤ 2147483647) → (0 ≤ x2 ∧ x2 ≤ 36) → (1 ≤ mh a0 2 ∧ mh a0 2 ≤ 700) → (1 ≤ mh a0 4 ∧ mh a0 4 ≤ 5) → (0 ≤ mh a0 6 ∧ mh a0 6 ≤ 699) → ((mh a0 4) ≠ 4) → (36 - x2) * 1 + 0 < (k : Int) → zw (zu_ex (zt_T n) 280 129 [(22, a0), (0, x1), (0, x2)] [] mh) (fun v m => zi_I m ∧ zfr [(9, 4), (9, 5), (9, 6)] m0 m ∧ True ∧ (1 ≤ m a0 4 ∧ m a0 4 ≤ 5) ∧ ((m a0 4) ≠ 4))) := by
  intro k
  induction k with
  | zero => exact ⟨fun x1 mh hImh hFmh hbx1 hg1 hg2 hM => by exfalso; omega, fun x1 x2 mh hImh hFmh hbx1 hbx2 hg2 hg3 hg4 hH0 hM => by exfalso; omega⟩
  | succ k ih =>
    refine ⟨?_, ?_⟩
    · intro x1 mh hImh hFmh hbx1 hg1 hg2 hM
      refine zw_eq (zu_rega_at (zt_T n) (zm_280 n) (zdp_280 n) _ _ _ _ _ _ (zr_280_2 n _ _ a0 x1 mh)) ?_
      have r1 : 0 ≤ (mh a0 3) ∧ (mh a0 3) ≤ 700 := zi_rd hImh hc0 zb_9_3
      refine zw_ite (fun h2 => ?_) (fun h2 => ?_)
      · generalize hmm3 : zu_up mh a0 5 x1 = m3
        have hIm3 := zi_up hmm3 hImh hc0 zb_9_5 (by omega) (by omega)
        have hFm3 := zfr_up hmm3 hFmh hc0 rfl
        have r4 : 0 ≤ (m3 a0 3) ∧ (m3 a0 3) ≤ 700 := zi_rd hIm3 hc0 zb_9_3
        have e5 : (m3 a0 3) = (mh a0 3) := (zs_ne hmm3 (Or.inr (by decide)))
        have r6 : 0 ≤ (m3 a0 6) ∧ (m3 a0 6) ≤ 700 := zi_rd hIm3 hc0 zb_9_6
        have e7 : (m3 a0 6) = (mh a0 6) := (zs_ne hmm3 (Or.inr (by decide)))
        have w8 := zu_w32_id (z := (m3 a0 3) - (m3 a0 6)) (by omega) (by omega)
        refine zw_ite (fun h9 => ?_) (fun h9 => ?_)
        · generalize hmm10 : zu_up m3 a0 4 2 = m10
          have hIm10 := zi_up hmm10 hIm3 hc0 zb_9_4 (by omega) (by omega)
          have hFm10 := zfr_up hmm10 hFm3 hc0 rfl
          have r11 : 0 ≤ (m10 a0 2) ∧ (m10 a0 2) ≤ 700 := zi_rd hIm10 hc0 zb_9_2
          have e12 : (m10 a0 2) = (mh a0 2) := (Eq.trans (zs_ne hmm10 (Or.inr (by decide))) (zs_ne hmm3 (Or.inr (by decide))))
          have r13 : 0 ≤ (m10 a0 6) ∧ (m10 a0 6) ≤ 700 := zi_rd hIm10 hc0 zb_9_6
          have e14 : (m10 a0 6) = (m3 a0 6) := (zs_ne hmm10 (Or.inr (by decide)))
          have r15 : 0 ≤ (m10 a0 4) ∧ (m10 a0 4) ≤ 5 := zi_rd hIm10 hc0 zb_9_4
          have e16 : (m10 a0 4) = 2 := (zs_eq hmm10)
          have r17 : 0 ≤ (m10 a0 3) ∧ (m10 a0 3) ≤ 700 := zi_rd hIm10 hc0 zb_9_3
          have e18 : (m10 a0 3) = (m3 a0 3) := (zs_ne hmm10 (Or.inr (by decide)))
          have hM : (36 - 0) * 1 + 0 < (k : Int) := by omega
          exact ih.2 x1 0 m10 hIm10 hFm10 ⟨by omega, by omega⟩ ⟨by omega, by omega⟩ ⟨by omega, by omega⟩ ⟨by omega, by omega⟩ ⟨by omega, by omega⟩ (by omega) hM
        · generalize hmm19 : zu_up m3 a0 4 5 = m19
          have hIm19 := zi_up hmm19 hIm3 hc0 zb_9_4 (by omega) (by omega)
          have hFm19 := zfr_up hmm19 hFm3 hc0 rfl
          have r20 : 0 ≤ (m19 a0 2) ∧ (m19 a0 2) ≤ 700 := zi_rd hIm19 hc0 zb_9_2
          have e21 : (m19 a0 2) = (mh a0 2) := (Eq.trans (zs_ne hmm19 (Or.inr (by decide))) (zs_ne hmm3 (Or.inr (by decide))))
          have r22 : 0 ≤ (m19 a0 6) ∧ (m19 a0 6) ≤ 700 := zi_rd hIm19 hc0 zb_9_6
          have e23 : (m19 a0 6) = (m3 a0 6) := (zs_ne hmm19 (Or.inr (by decide)))
          have r24 : 0 ≤ (m19 a0 4) ∧ (m19 a0 4) ≤ 5 := zi_rd hIm19 hc0 zb_9_4
          have e25 : (m19 a0 4) = 5 := (zs_eq hmm19)
          have r26 : 0 ≤ (m19 a0 3) ∧ (m19 a0 3) ≤ 700 := zi_rd hIm19 hc0 zb_9_3
          have e27 : (m19 a0 3) = (m3 a0 3) := (zs_ne hmm19 (Or.inr (by decide)))
          have hM : (36 - 0) * 1 + 0 < (k : Int) := by omega
          exact ih.2 x1 0 m19 hIm19 hFm19 ⟨by omega, by omega⟩ ⟨by omega, by omega⟩ ⟨by omega, by omega⟩ ⟨by omega, by omega⟩ ⟨by omega, by omega⟩ (by omega) hM
      · have b28 : 0 ≤ (mh a0 3) ∧ (mh a0 3) < 700 := by omega
        refine zw_if b28 ?_
        have r29 : (-2147483648) ≤ (mh 4 (mh a0 3)) ∧ (mh 4 (mh a0 3)) ≤ 2147483647 := zi_rd hImh zq_4 (zb_29 _)
        refine zw_ite (fun h30 => ?_) (fun h30 => ?_)
        · generalize hmm31 : zu_up mh a0 5 x1 = m31
          have hIm31 := zi_up hmm31 hImh hc0 zb_9_5 (by omega) (by omega)
          have hFm31 := zfr_up hmm31 hFmh hc0 rfl
          have r32 : 0 ≤ (m31 a0 3) ∧ (m31 a0 3) ≤ 700 := zi_rd hIm31 hc0 zb_9_3
          have e33 : (m31 a0 3) = (mh a0 3) := (zs_ne hmm31 (Or.inr (by decide)))
          have r34 : 0 ≤ (m31 a0 6) ∧ (m31 a0 6) ≤ 700 := zi_rd hIm31 hc0 zb_9_6
          have e35 : (m31 a0 6) = (mh a0 6) := (zs_ne hmm31 (Or.inr (by decide)))
          have w36 := zu_w32_id (z := (m31 a0 3) - (m31 a0 6)) (by omega) (by omega)
          refine zw_ite (fun h37 => ?_) (fun h37 => ?_)
          · generalize hmm38 : zu_up m31 a0 4 2 = m38
            have hIm38 := zi_up hmm38 hIm31 hc0 zb_9_4 (by omega) (by omega)
            have hFm38 := zfr_up hmm38 hFm31 hc0 rfl
            have r39 : 0 ≤ (m38 a0 2) ∧ (m38 a0 2) ≤ 700 := zi_rd hIm38 hc0 zb_9_2
            have e40 : (m38 a0 2) = (mh a0 2) := (Eq.trans (zs_ne hmm38 (Or.inr (by decide))) (zs_ne hmm31 (Or.inr (by decide))))
            have r41 : 0 ≤ (m38 a0 6) ∧ (m38 a0 6) ≤ 700 := zi_rd hIm38 hc0 zb_9_6
            have e42 : (m38 a0 6) = (m31 a0 6) := (zs_ne hmm38 (Or.inr (by decide)))
            have r43 : 0 ≤ (m38 a0 4) ∧ (m38 a0 4) ≤ 5 := zi_rd hIm38 hc0 zb_9_4
            have e44 : (m38 a0 4) = 2 := (zs_eq hmm38)
            have r45 : 0 ≤ (m38 a0 3) ∧ (m38 a0 3) ≤ 700 := zi_rd hIm38 hc0 zb_9_3
            have e46 : (m38 a0 3) = (m31 a0 3) := (zs_ne hmm38 (Or.inr (by decide)))
            have hM : (36 - 0) * 1 + 0 < (k : Int) := by omega
            exact ih.2 x1 0 m38 hIm38 hFm38 ⟨by omega, by omega⟩ ⟨by omega, by omega⟩ ⟨by omega, by omega⟩ ⟨by omega, by omega⟩ ⟨by omega, by omega⟩ (by omega) hM
          · generalize hmm47 : zu_up m31 a0 4 5 = m47
            have hIm47 := zi_up hmm47 hIm31 hc0 zb_9_4 (by omega) (by omega)
            have hFm47 := zfr_up hmm47 hFm31 hc0 rfl
            have r48 : 0 ≤ (m47 a0 2) ∧ (m47 a0 2) ≤ 700 := zi_rd hIm47 hc0 zb_9_2
            have e49 : (m47 a0 2) = (mh a0 2) := (Eq.trans (zs_ne hmm47 (Or.inr (by decide))) (zs_ne hmm31 (Or.inr (by decide))))
            have r50 : 0 ≤ (m47 a0 6) ∧ (m47 a0 6) ≤ 700 := zi_rd hIm47 hc0 zb_9_6
            have e51 : (m47 a0 6) = (m31 a0 6) := (zs_ne hmm47 (Or.inr (by decide)))
            have r52 : 0 ≤ (m47 a0 4) ∧ (m47 a0 4) ≤ 5 := zi_rd hIm47 hc0 zb_9_4
            have e53 : (m47 a0 4) = 5 := (zs_eq hmm47)
            have r54 : 0 ≤ (m47 a0 3) ∧ (m47 a0 3) ≤ 700 := zi_rd hIm47 hc0 zb_9_3
            have e55 : (m47 a0 3) = (m31 a0 3) := (zs_ne hmm47 (Or.inr (by decide)))
            have hM : (36 - 0) * 1 + 0 < (k : Int) := by omega
            exact ih.2 x1 0 m47 hIm47 hFm47 ⟨by omega, by omega⟩ ⟨by omega, by omega⟩ ⟨by omega, by omega⟩ ⟨by omega, by omega⟩ ⟨by omega, by omega⟩ (by omega) hM
        · have b56 : 0 ≤ (mh a0 3) ∧ (mh a0 3) < 700 := by omega
          refine zw_if b56 ?_
          refine zw_ite (fun h57 => ?_) (fun h57 => ?_)
          · generalize hmm58 : zu_up mh a0 5 x1 = m58
            have hIm58 := zi_up hmm58 hImh hc0 zb_9_5 (by omega) (by omega)
            have hFm58 := zfr_up hmm58 hFmh hc0 rfl
            have r59 : 0 ≤ (m58 a0 3) ∧ (m58 a0 3) ≤ 700 := zi_rd hIm58 hc0 zb_9_3
            have e60 : (m58 a0 3) = (mh a0 3) := (zs_ne hmm58 (Or.inr (by decide)))
            have r61 : 0 ≤ (m58 a0 6) ∧ (m58 a0 6) ≤ 700 := zi_rd hIm58 hc0 zb_9_6
            have e62 : (m58 a0 6) = (mh a0 6) := (zs_ne hmm58 (Or.inr (by decide)))
            have w63 := zu_w32_id (z := (m58 a0 3) - (m58 a0 6)) (by omega) (by omega)
            refine zw_ite (fun h64 => ?_) (fun h64 => ?_)
            · generalize hmm65 : zu_up m58 a0 4 2 = m65
              have hIm65 := zi_up hmm65 hIm58 hc0 zb_9_4 (by omega) (by omega)
              have hFm65 := zfr_up hmm65 hFm58 hc0 rfl
              have r66 : 0 ≤ (m65 a0 2) ∧ (m65 a0 2) ≤ 700 := zi_rd hIm65 hc0 zb_9_2
              have e67 : (m65 a0 2) = (mh a0 2) := (Eq.trans (zs_ne hmm65 (Or.inr (by decide))) (zs_ne hmm58 (Or.inr (by decide))))
              have r68 : 0 ≤ (m65 a0 6) ∧ (m65 a0 6) ≤ 700 := zi_rd hIm65 hc0 zb_9_6
              have e69 : (m65 a0 6) = (m58 a0 6) := (zs_ne hmm65 (Or.inr (by decide)))
              have r70 : 0 ≤ (m65 a0 4) ∧ (m65 a0 4) ≤ 5 := zi_rd hIm65 hc0 zb_9_4
              have e71 : (m65 a0 4) = 2 := (zs_eq hmm65)
              have r72 : 0 ≤ (m65 a0 3) ∧ (m65 a0 3) ≤ 700 := zi_rd hIm65 hc0 zb_9_3
              have e73 : (m65 a0 3) = (m58 a0 3) := (zs_ne hmm65 (Or.inr (by decide)))
              have hM : (36 - 0) * 1 + 0 < (k : Int) := by omega
              exact ih.2 x1 0 m65 hIm65 hFm65 ⟨by omega, by omega⟩ ⟨by omega, by omega⟩ ⟨by omega, by omega⟩ ⟨by omega, by omega⟩ ⟨by omega, by omega⟩ (by omega) hM
            · generalize hmm74 : zu_up m58 a0 4 5 = m74
              have hIm74 := zi_up hmm74 hIm58 hc0 zb_9_4 (by omega) (by omega)
              have hFm74 := zfr_up hmm74 hFm58 hc0 rfl
              have r75 : 0 ≤ (m74 a0 2) ∧ (m74 a0 2) ≤ 700 := zi_rd hIm74 hc0 zb_9_2
              have e76 : (m74 a0 2) = (mh a0 2) := (Eq.trans (zs_ne hmm74 (Or.inr (by decide))) (zs_ne hmm58 (Or.inr (by decide))))
              have r77 : 0 ≤ (m74 a0 6) ∧ (m74 a0 6) ≤ 700 := zi_rd hIm74 hc0 zb_9_6
              have e78 : (m74 a0 6) = (m58 a0 6) := (zs_ne hmm74 (Or.inr (by decide)))
              have r79 : 0 ≤ (m74 a0 4) ∧ (m74 a0 4) ≤ 5 := zi_rd hIm74 hc0 zb_9_4
              have e80 : (m74 a0 4) = 5 := (zs_eq hmm74)
              have r81 : 0 ≤ (m74 a0 3) ∧ (m74 a0 3) ≤ 700 := zi_rd hIm74 hc0 zb_9_3
              have e82 : (m74 a0 3) = (m58 a0 3) := (zs_ne hmm74 (Or.inr (by decide)))
              have hM : (36 - 0) * 1 + 0 < (k : Int) := by omega
              exact ih.2 x1 0 m74 hIm74 hFm74 ⟨by omega, by omega⟩ ⟨by omega, by omega⟩ ⟨by omega, by omega⟩ ⟨by omega, by omega⟩ ⟨by omega, by omega⟩ (by omega) hM
          · have w83 := zu_w32_id (z := (mh a0 3) - (mh a0 6)) (by omega) (by omega)
            refine zw_ite (fun h84 => ?_) (fun h84 => ?_)
            · have w85 := zu_w32_id (z := (mh a0 3) + 1) (by omega) (by omega)
              generalize hmm86 : zu_up mh a0 3 (zu_w32 ((mh a0 3) + 1)) = m86
              have hIm86 := zi_up hmm86 hImh hc0 zb_9_3 (by omega) (by omega)
              have hFm86 := zfr_up hmm86 hFmh hc0 rfl
              have r87 : 0 ≤ (m86 a0 2) ∧ (m86 a0 2) ≤ 700 := zi_rd hIm86 hc0 zb_9_2
              have e88 : (m86 a0 2) = (mh a0 2) := (zs_ne hmm86 (Or.inr (by decide)))
              have r89 : 0 ≤ (m86 a0 6) ∧ (m86 a0 6) ≤ 700 := zi_rd hIm86 hc0 zb_9_6
              have e90 : (m86 a0 6) = (mh a0 6) := (zs_ne hmm86 (Or.inr (by decide)))
              have r91 : 0 ≤ (m86 a0 3) ∧ (m86 a0 3) ≤ 700 := zi_rd hIm86 hc0 zb_9_3
              have e92 : (m86 a0 3) = (zu_w32 ((mh a0 3) + 1)) := (zs_eq hmm86)
              have hM : (700 - (m86 a0 3)) * 1 + 37 < (k : Int) := by omega
              exact ih.1 x1 m86 hIm86 hFm86 ⟨by omega, by omega⟩ ⟨by omega, by omega⟩ ⟨by omega, by omega⟩ hM
            · have b93 : 0 ≤ (mh a0 3) ∧ (mh a0 3) < 700 := by omega
              refine zw_if b93 ?_
              have w94 := zu_w32_id (z := (mh 4 (mh a0 3)) - 97) (by omega) (by omega)
              have w95 := zu_w32_id (z := (zu_w32 ((mh 4 (mh a0 3)) - 97)) + 1) (by omega) (by omega)
              have w96 := zu_w32_id (z := 5 - (zu_w32 ((mh a0 3) - (mh a0 6)))) (by omega) (by omega)
              have w97 := zu_w32_id (z := 5 * (zu_w32 (5 - (zu_w32 ((mh a0 3) - (mh a0 6)))))) (by omega) (by omega)
              have b98 := zu_i32_rg 5 (zu_w32 ((zu_w32 ((mh 4 (mh a0 3)) - 97)) + 1)) (zu_w32 (5 * (zu_w32 (5 - (zu_w32 ((mh a0 3) - (mh a0 6)))))))
              have b99 := zu_i32_rg 4 x1 (zu_i32 5 (zu_w32 ((zu_w32 ((mh 4 (mh a0 3)) - 97)) + 1)) (zu_w32 (5 * (zu_w32 (5 - (zu_w32 ((mh a0 3) - (mh a0 6))))))))
              have w100 := zu_w32_id (z := (mh a0 3) + 1) (by omega) (by omega)
              generalize hmm101 : zu_up mh a0 3 (zu_w32 ((mh a0 3) + 1)) = m101
              have hIm101 := zi_up hmm101 hImh hc0 zb_9_3 (by omega) (by omega)
              have hFm101 := zfr_up hmm101 hFmh hc0 rfl
              have r102 : 0 ≤ (m101 a0 2) ∧ (m101 a0 2) ≤ 700 := zi_rd hIm101 hc0 zb_9_2
              have e103 : (m101 a0 2) = (mh a0 2) := (zs_ne hmm101 (Or.inr (by decide)))
              have r104 : 0 ≤ (m101 a0 6) ∧ (m101 a0 6) ≤ 700 := zi_rd hIm101 hc0 zb_9_6
              have e105 : (m101 a0 6) = (mh a0 6) := (zs_ne hmm101 (Or.inr (by decide)))
              have r106 : 0 ≤ (m101 a0 3) ∧ (m101 a0 3) ≤ 700 := zi_rd hIm101 hc0 zb_9_3
              have e107 : (m101 a0 3) = (zu_w32 ((mh a0 3) + 1)) := (zs_eq hmm101)
              have hM : (700 - (m101 a0 3)) * 1 + 37 < (k : Int) := by omega
              exact ih.1 (zu_i32 4 x1 (zu_i32 5 (zu_w32 ((zu_w32 ((mh 4 (mh a0 3)) - 97)) + 1)) (zu_w32 (5 * (zu_w32 (5 - (zu_w32 ((mh a0 3) - (mh a0 6))))))))) m101 hIm101 hFm101 ⟨by omega, by omega⟩ ⟨by omega, by omega⟩ ⟨by omega, by omega⟩ hM
    · intro x1 x2 mh hImh hFmh hbx1 hbx2 hg2 hg3 hg4 hH0 hM
      refine zw_eq (zu_rega_at (zt_T n) (zm_280 n) (zdp_280 n) _ _ _ _ _ _ (zr_280_129 n _ _ a0 x1 x2 mh)) ?_
      have r108 : 0 ≤ (mh a0 3) ∧ (mh a0 3) ≤ 700 := zi_rd hImh hc0 zb_9_3
      refine zw_ite (fun h109 => ?_) (fun h109 => ?_)
      · exact zw_some ⟨hImh, hFmh, trivial, ⟨by omega, by omega⟩, by omega⟩
      · refine zw_ite (fun h110 => ?_) (fun h110 => ?_)
        · exact zw_some ⟨hImh, hFmh, trivial, ⟨by omega, by omega⟩, by omega⟩
        · have b111 : 0 ≤ x2 ∧ x2 < 33 := by omega
          refine zw_if b111 ?_
          have r112 : (-2147483648) ≤ (mh 46 x2) ∧ (mh 46 x2) ≤ 2147483647 := zi_rd hImh zq_46 (zb_46 _)
          refine zw_ite (fun h113 => ?_) (fun h113 => ?_)
          · have w114 := zu_w32_id (z := x2 + 1) (by omega) (by omega)
            have hM : (36 - (zu_w32 (x2 + 1))) * 1 + 0 < (k : Int) := by omega
            exact ih.2 x1 (zu_w32 (x2 + 1)) mh hImh hFmh ⟨by omega, by omega⟩ ⟨by omega, by omega⟩ ⟨by omega, by omega⟩ ⟨by omega, by omega⟩ ⟨by omega, by omega⟩ (by omega) hM
          · generalize hmm115 : zu_up mh a0 4 1 = m115
            have hIm115 := zi_up hmm115 hImh hc0 zb_9_4 (by omega) (by omega)
            have hFm115 := zfr_up hmm115 hFmh hc0 rfl
            generalize hmm116 : zu_up m115 a0 5 x2 = m116
            have hIm116 := zi_up hmm116 hIm115 hc0 zb_9_5 (by omega) (by omega)
            have hFm116 := zfr_up hmm116 hFm115 hc0 rfl
            have w117 := zu_w32_id (z := x2 + 1) (by omega) (by omega)
            have r118 : 0 ≤ (m116 a0 2) ∧ (m116 a0 2) ≤ 700 := zi_rd hIm116 hc0 zb_9_2
            have e119 : (m116 a0 2) = (mh a0 2) := (Eq.trans (zs_ne hmm116 (Or.inr (by decide))) (zs_ne hmm115 (Or.inr (by decide))))
            have r120 : 0 ≤ (m116 a0 6) ∧ (m116 a0 6) ≤ 700 := zi_rd hIm116 hc0 zb_9_6
            have e121 : (m116 a0 6) = (mh a0 6) := (Eq.trans (zs_ne hmm116 (Or.inr (by decide))) (zs_ne hmm115 (Or.inr (by decide))))
            have r122 : 0 ≤ (m116 a0 4) ∧ (m116 a0 4) ≤ 5 := zi_rd hIm116 hc0 zb_9_4
            have e123 : (m116 a0 4) = 1 := (Eq.trans (zs_ne hmm116 (Or.inr (by decide))) (zs_eq hmm115))
            have r124 : 0 ≤ (m116 a0 3) ∧ (m116 a0 3) ≤ 700 := zi_rd hIm116 hc0 zb_9_3
            have e125 : (m116 a0 3) = (mh a0 3) := (Eq.trans (zs_ne hmm116 (Or.inr (by decide))) (zs_ne hmm115 (Or.inr (by decide))))
            have hM : (36 - (zu_w32 (x2 + 1))) * 1 + 0 < (k : Int) := by omega
            exact ih.2 x1 (zu_w32 (x2 + 1)) m116 hIm116 hFm116 ⟨by omega, by omega⟩ ⟨by omega, by omega⟩ ⟨by omega, by omega⟩ ⟨by omega, by omega⟩ ⟨by omega, by omega⟩ (by omega) hM
set_option maxHeartbeats 4000000 in
theorem zk_280 (n : Nat) {a0 : Int} {m0 : zu_m} (hIm0 : zi_I m0) (hc0 : zcls a0 = 9)   (he0 : 1 ≤ m0 a0 2 ∧ m0 a0 2 ≤ 700) (he1 : 0 ≤ m0 a0 3 ∧ m0 a0 3 ≤ 699) (he2 : 0 ≤ m0 a0 6 ∧ m0 a0 6 ≤ 699)   : zw (zu_call (zt_T n) 280 [(22, a0)] m0) (fun v m => zi_I m ∧ zfr [(9, 4), (9, 5), (9, 6)] m0 m ∧ True ∧ (1 ≤ m a0 4 ∧ m a0 4 ≤ 5) ∧ ((m a0 4) ≠ 4)) := by
  have hFm0 : zfr [(9, 4), (9, 5), (9, 6)] m0 m0 := zfr_rf _ _
  refine zw_eq (zu_call_at (zt_T n) (zm_280 n) (zdp_280 n) _ _ _ _ _ rfl (zr_280_0 n _ _ a0 m0)) ?_
  have hM : (700 - (m0 a0 3)) * 1 + 37 < ((738 : Nat) : Int) := by omega
  exact (zl_280 n (m0 := m0) hc0 738).1 0 m0 hIm0 hFm0 ⟨by omega, by omega⟩ ⟨by omega, by omega⟩ ⟨by omega, by omega⟩ hM
set_option maxHeartbeats 4000000 in
theorem zl_281 (n : Nat) {a0 : Int} {m0 : zu_m} (hc0 : zcls a0 = 9)   : ∀ k : Nat, (∀ (mh : zu_m), zi_I mh → zfr [(9, 4), (9, 5), (9, 6)] m0 mh → (3 ≤ mh a0 4 ∧ mh a0 4 ≤ 3) → (0 ≤ mh a0 5 ∧ mh a0 5 ≤ 10000000) → (700 - (mh a0 3)) * 1 + 0 < (k : Int) → zw (zu_ex (zt_T n) 281 10 [(22, a0)] [] mh) (fun v m => zi_I m ∧ zfr [(9, 4), (9, 5), (9, 6)] m0 m ∧ True ∧ (3 ≤ m a0 4 ∧ m a0 4 ≤ 3) ∧ (0 ≤ m a0 5 ∧ m a0 5 ≤ 10000000))) := by
  intro k
  induction k with
  | zero => exact fun mh hImh hFmh hg0 hg1 hM => by exfalso; omega
  | succ k ih =>
    intro mh hImh hFmh hg0 hg1 hM
    refine zw_eq (zu_rega_at (zt_T n) (zm_281 n) (zdp_281 n) _ _ _ _ _ _ (zr_281_10 n _ _ a0 mh)) ?_
    have r1 : 0 ≤ (mh a0 3) ∧ (mh a0 3) ≤ 700 := zi_rd hImh hc0 zb_9_3
    have r2 : 0 ≤ (mh a0 2) ∧ (mh a0 2) ≤ 700 := zi_rd hImh hc0 zb_9_2
    refine zw_ite (fun h3 => ?_) (fun h3 => ?_)
    · exact zw_some ⟨hImh, hFmh, trivial, ⟨by omega, by omega⟩, ⟨by omega, by omega⟩⟩
    · have b4 : 0 ≤ (mh a0 3) ∧ (mh a0 3) < 700 := by omega
      refine zw_if b4 ?_
      have r5 : (-2147483648) ≤ (mh 4 (mh a0 3)) ∧ (mh 4 (mh a0 3)) ≤ 2147483647 := zi_rd hImh zq_4 (zb_29 _)
      refine zw_ite (fun h6 => ?_) (fun h6 => ?_)
      · exact zw_some ⟨hImh, hFmh, trivial, ⟨by omega, by omega⟩, ⟨by omega, by omega⟩⟩
      · have b7 : 0 ≤ (mh a0 3) ∧ (mh a0 3) < 700 := by omega
        refine zw_if b7 ?_
        refine zw_ite (fun h8 => ?_) (fun h8 => ?_)
        · exact zw_some ⟨hImh, hFmh, trivial, ⟨by omega, by omega⟩, ⟨by omega, by omega⟩⟩
        · refine zw_ite (fun h9 => ?_) (fun h9 => ?_)
          · have w10 := zu_w32_id (z := (mh a0 5) * 10) (by omega) (by omega)
            have b11 : 0 ≤ (mh a0 3) ∧ (mh a0 3) < 700 := by omega
            refine zw_if b11 ?_
            have w12 := zu_w32_id (z := (zu_w32 ((mh a0 5) * 10)) + (mh 4 (mh a0 3))) (by omega) (by omega)
            have w13 := zu_w32_id (z := (zu_w32 ((zu_w32 ((mh a0 5) * 10)) + (mh 4 (mh a0 3)))) - 48) (by omega) (by omega)
            generalize hmm14 : zu_up mh a0 5 (zu_w32 ((zu_w32 ((zu_w32 ((mh a0 5) * 10)) + (mh 4 (mh a0 3)))) - 48)) = m14
            have hIm14 := zi_up hmm14 hImh hc0 zb_9_5 (by omega) (by omega)
            have hFm14 := zfr_up hmm14 hFmh hc0 rfl
            have r15 : 0 ≤ (m14 a0 3) ∧ (m14 a0 3) ≤ 700 := zi_rd hIm14 hc0 zb_9_3
            have e16 : (m14 a0 3) = (mh a0 3) := (zs_ne hmm14 (Or.inr (by decide)))
            have w17 := zu_w32_id (z := (m14 a0 3) + 1) (by omega) (by omega)
            generalize hmm18 : zu_up m14 a0 3 (zu_w32 ((m14 a0 3) + 1)) = m18
            have hIm18 := zi_up hmm18 hIm14 hc0 zb_9_3 (by omega) (by omega)
            have hFm18 := zfr_up hmm18 hFm14 hc0 rfl
            have r19 : 0 ≤ (m18 a0 4) ∧ (m18 a0 4) ≤ 5 := zi_rd hIm18 hc0 zb_9_4
            have e20 : (m18 a0 4) = (mh a0 4) := (Eq.trans (zs_ne hmm18 (Or.inr (by decide))) (zs_ne hmm14 (Or.inr (by decide))))
            have r21 : (-2147483648) ≤ (m18 a0 5) ∧ (m18 a0 5) ≤ 2147483647 := zi_rd hIm18 hc0 zb_9_5
            have e22 : (m18 a0 5) = (zu_w32 ((zu_w32 ((zu_w32 ((mh a0 5) * 10)) + (mh 4 (mh a0 3)))) - 48)) := (Eq.trans (zs_ne hmm18 (Or.inr (by decide))) (zs_eq hmm14))
            have r23 : 0 ≤ (m18 a0 3) ∧ (m18 a0 3) ≤ 700 := zi_rd hIm18 hc0 zb_9_3
            have e24 : (m18 a0 3) = (zu_w32 ((m14 a0 3) + 1)) := (zs_eq hmm18)
            have hM : (700 - (m18 a0 3)) * 1 + 0 < (k : Int) := by omega
            exact ih  m18 hIm18 hFm18 ⟨by omega, by omega⟩ ⟨by omega, by omega⟩ hM
          · generalize hmm25 : zu_up mh a0 5 1000000 = m25
            have hIm25 := zi_up hmm25 hImh hc0 zb_9_5 (by omega) (by omega)
            have hFm25 := zfr_up hmm25 hFmh hc0 rfl
            have r26 : 0 ≤ (m25 a0 3) ∧ (m25 a0 3) ≤ 700 := zi_rd hIm25 hc0 zb_9_3
            have e27 : (m25 a0 3) = (mh a0 3) := (zs_ne hmm25 (Or.inr (by decide)))
            have w28 := zu_w32_id (z := (m25 a0 3) + 1) (by omega) (by omega)
            generalize hmm29 : zu_up m25 a0 3 (zu_w32 ((m25 a0 3) + 1)) = m29
            have hIm29 := zi_up hmm29 hIm25 hc0 zb_9_3 (by omega) (by omega)
            have hFm29 := zfr_up hmm29 hFm25 hc0 rfl
            have r30 : 0 ≤ (m29 a0 4) ∧ (m29 a0 4) ≤ 5 := zi_rd hIm29 hc0 zb_9_4
            have e31 : (m29 a0 4) = (mh a0 4) := (Eq.trans (zs_ne hmm29 (Or.inr (by decide))) (zs_ne hmm25 (Or.inr (by decide))))
            have r32 : (-2147483648) ≤ (m29 a0 5) ∧ (m29 a0 5) ≤ 2147483647 := zi_rd hIm29 hc0 zb_9_5
            have e33 : (m29 a0 5) = 1000000 := (Eq.trans (zs_ne hmm29 (Or.inr (by decide))) (zs_eq hmm25))
            have r34 : 0 ≤ (m29 a0 3) ∧ (m29 a0 3) ≤ 700 := zi_rd hIm29 hc0 zb_9_3
            have e35 : (m29 a0 3) = (zu_w32 ((m25 a0 3) + 1)) := (zs_eq hmm29)
            have hM : (700 - (m29 a0 3)) * 1 + 0 < (k : Int) := by omega
            exact ih  m29 hIm29 hFm29 ⟨by omega, by omega⟩ ⟨by omega, by omega⟩ hM
set_option maxHeartbeats 4000000 in
theorem zk_281 (n : Nat) {a0 : Int} {m0 : zu_m} (hIm0 : zi_I m0) (hc0 : zcls a0 = 9)      : zw (zu_call (zt_T n) 281 [(22, a0)] m0) (fun v m => zi_I m ∧ zfr [(9, 4), (9, 5), (9, 6)] m0 m ∧ True ∧ (3 ≤ m a0 4 ∧ m a0 4 ≤ 3) ∧ (0 ≤ m a0 5 ∧ m a0 5 ≤ 10000000)) := by
  have hFm0 : zfr [(9, 4), (9, 5), (9, 6)] m0 m0 := zfr_rf _ _
  refine zw_eq (zu_call_at (zt_T n) (zm_281 n) (zdp_281 n) _ _ _ _ _ rfl (zr_281_0 n _ _ a0 m0)) ?_
  generalize hmm36 : zu_up m0 a0 4 3 = m36
  have hIm36 := zi_up hmm36 hIm0 hc0 zb_9_4 (by omega) (by omega)
  have hFm36 := zfr_up hmm36 hFm0 hc0 rfl
  generalize hmm37 : zu_up m36 a0 5 0 = m37
  have hIm37 := zi_up hmm37 hIm36 hc0 zb_9_5 (by omega) (by omega)
  have hFm37 := zfr_up hmm37 hFm36 hc0 rfl
  have r38 : 0 ≤ (m37 a0 4) ∧ (m37 a0 4) ≤ 5 := zi_rd hIm37 hc0 zb_9_4
  have e39 : (m37 a0 4) = 3 := (Eq.trans (zs_ne hmm37 (Or.inr (by decide))) (zs_eq hmm36))
  have r40 : (-2147483648) ≤ (m37 a0 5) ∧ (m37 a0 5) ≤ 2147483647 := zi_rd hIm37 hc0 zb_9_5
  have e41 : (m37 a0 5) = 0 := (zs_eq hmm37)
  have r42 : 0 ≤ (m37 a0 3) ∧ (m37 a0 3) ≤ 700 := zi_rd hIm37 hc0 zb_9_3
  have hM : (700 - (m37 a0 3)) * 1 + 0 < ((701 : Nat) : Int) := by omega
  exact (zl_281 n (m0 := m0) hc0 701)  m37 hIm37 hFm37 ⟨by omega, by omega⟩ ⟨by omega, by omega⟩ hM
set_option maxHeartbeats 4000000 in
theorem zk_282 (n : Nat) {a0 : Int} {m0 : zu_m} (hIm0 : zi_I m0) (hc0 : zcls a0 = 9)   (he0 : 1 ≤ m0 a0 2 ∧ m0 a0 2 ≤ 700) (he1 : 1 ≤ m0 a0 3 ∧ m0 a0 3 ≤ 700) (he2 : (-1) ≤ m0 a0 5 ∧ m0 a0 5 ≤ 12)   : zw (zu_call (zt_T n) 282 [(22, a0)] m0) (fun v m => zi_I m ∧ zfr [(9, 4), (9, 6)] m0 m ∧ True ∧ (1 ≤ m a0 3 ∧ m a0 3 ≤ 700) ∧ ((-1) ≤ m a0 5 ∧ m a0 5 ≤ 12) ∧ ((m a0 5) = (m0 a0 5) ∨ (8 ≤ (m a0 5) ∧ (m a0 5) ≤ 11))) := by
  have hFm0 : zfr [(9, 4), (9, 6)] m0 m0 := zfr_rf _ _
  refine zw_eq (zu_call_at (zt_T n) (zm_282 n) (zdp_282 n) _ _ _ _ _ rfl (zr_282_0 n _ _ a0 m0)) ?_
  refine zw_ite (fun h1 => ?_) (fun h1 => ?_)
  · refine zw_ite (fun h2 => ?_) (fun h2 => ?_)
    · refine zw_ite (fun h3 => ?_) (fun h3 => ?_)
      · refine zw_ite (fun h4 => ?_) (fun h4 => ?_)
        · exact zw_some ⟨hIm0, hFm0, trivial, ⟨by omega, by omega⟩, ⟨by omega, by omega⟩, by omega⟩
        · refine zw_ite (fun h5 => ?_) (fun h5 => ?_)
          · exact zw_some ⟨hIm0, hFm0, trivial, ⟨by omega, by omega⟩, ⟨by omega, by omega⟩, by omega⟩
          · exfalso; omega
      · exfalso; omega
    · refine zw_ite (fun h6 => ?_) (fun h6 => ?_)
      · refine zw_ite (fun h7 => ?_) (fun h7 => ?_)
        · exfalso; omega
        · refine zw_ite (fun h8 => ?_) (fun h8 => ?_)
          · refine zw_ite (fun h9 => ?_) (fun h9 => ?_)
            · exact zw_some ⟨hIm0, hFm0, trivial, ⟨by omega, by omega⟩, ⟨by omega, by omega⟩, by omega⟩
            · exfalso; omega
          · exfalso; omega
      · exfalso; omega
  · have b10 : 0 ≤ (m0 a0 3) ∧ (m0 a0 3) < 700 := by omega
    refine zw_if b10 ?_
    have r11 : (-2147483648) ≤ (m0 4 (m0 a0 3)) ∧ (m0 4 (m0 a0 3)) ≤ 2147483647 := zi_rd hIm0 zq_4 (zb_29 _)
    refine zw_ite (fun h12 => ?_) (fun h12 => ?_)
    · refine zw_ite (fun h13 => ?_) (fun h13 => ?_)
      · refine zw_ite (fun h14 => ?_) (fun h14 => ?_)
        · exact zw_some ⟨hIm0, hFm0, trivial, ⟨by omega, by omega⟩, ⟨by omega, by omega⟩, by omega⟩
        · refine zw_ite (fun h15 => ?_) (fun h15 => ?_)
          · exact zw_some ⟨hIm0, hFm0, trivial, ⟨by omega, by omega⟩, ⟨by omega, by omega⟩, by omega⟩
          · generalize hmm16 : zu_up m0 a0 5 11 = m16
            have hIm16 := zi_up hmm16 hIm0 hc0 zb_9_5 (by omega) (by omega)
            have hFm16 := zfr_up hmm16 hFm0 hc0 rfl
            have r17 : 0 ≤ (m16 a0 3) ∧ (m16 a0 3) ≤ 700 := zi_rd hIm16 hc0 zb_9_3
            have e18 : (m16 a0 3) = (m0 a0 3) := (zs_ne hmm16 (Or.inr (by decide)))
            have w19 := zu_w32_id (z := (m16 a0 3) + 1) (by omega) (by omega)
            generalize hmm20 : zu_up m16 a0 3 (zu_w32 ((m16 a0 3) + 1)) = m20
            have hIm20 := zi_up hmm20 hIm16 hc0 zb_9_3 (by omega) (by omega)
            have hFm20 := zfr_up hmm20 hFm16 hc0 rfl
            have r21 : (-2147483648) ≤ (m20 a0 5) ∧ (m20 a0 5) ≤ 2147483647 := zi_rd hIm20 hc0 zb_9_5
            have e22 : (m20 a0 5) = 11 := (Eq.trans (zs_ne hmm20 (Or.inr (by decide))) (zs_eq hmm16))
            have r23 : 0 ≤ (m20 a0 3) ∧ (m20 a0 3) ≤ 700 := zi_rd hIm20 hc0 zb_9_3
            have e24 : (m20 a0 3) = (zu_w32 ((m16 a0 3) + 1)) := (zs_eq hmm20)
            exact zw_some ⟨hIm20, hFm20, trivial, ⟨by omega, by omega⟩, ⟨by omega, by omega⟩, by omega⟩
      · exfalso; omega
    · refine zw_ite (fun h25 => ?_) (fun h25 => ?_)
      · refine zw_ite (fun h26 => ?_) (fun h26 => ?_)
        · exfalso; omega
        · refine zw_ite (fun h27 => ?_) (fun h27 => ?_)
          · refine zw_ite (fun h28 => ?_) (fun h28 => ?_)
            · exact zw_some ⟨hIm0, hFm0, trivial, ⟨by omega, by omega⟩, ⟨by omega, by omega⟩, by omega⟩
            · exfalso; omega
          · generalize hmm29 : zu_up m0 a0 5 10 = m29
            have hIm29 := zi_up hmm29 hIm0 hc0 zb_9_5 (by omega) (by omega)
            have hFm29 := zfr_up hmm29 hFm0 hc0 rfl
            have r30 : 0 ≤ (m29 a0 3) ∧ (m29 a0 3) ≤ 700 := zi_rd hIm29 hc0 zb_9_3
            have e31 : (m29 a0 3) = (m0 a0 3) := (zs_ne hmm29 (Or.inr (by decide)))
            have w32 := zu_w32_id (z := (m29 a0 3) + 1) (by omega) (by omega)
            generalize hmm33 : zu_up m29 a0 3 (zu_w32 ((m29 a0 3) + 1)) = m33
            have hIm33 := zi_up hmm33 hIm29 hc0 zb_9_3 (by omega) (by omega)
            have hFm33 := zfr_up hmm33 hFm29 hc0 rfl
            have r34 : (-2147483648) ≤ (m33 a0 5) ∧ (m33 a0 5) ≤ 2147483647 := zi_rd hIm33 hc0 zb_9_5
            have e35 : (m33 a0 5) = 10 := (Eq.trans (zs_ne hmm33 (Or.inr (by decide))) (zs_eq hmm29))
            have r36 : 0 ≤ (m33 a0 3) ∧ (m33 a0 3) ≤ 700 := zi_rd hIm33 hc0 zb_9_3
            have e37 : (m33 a0 3) = (zu_w32 ((m29 a0 3) + 1)) := (zs_eq hmm33)
            exact zw_some ⟨hIm33, hFm33, trivial, ⟨by omega, by omega⟩, ⟨by omega, by omega⟩, by omega⟩
      · generalize hmm38 : zu_up m0 a0 5 8 = m38
        have hIm38 := zi_up hmm38 hIm0 hc0 zb_9_5 (by omega) (by omega)
        have hFm38 := zfr_up hmm38 hFm0 hc0 rfl
        have r39 : 0 ≤ (m38 a0 3) ∧ (m38 a0 3) ≤ 700 := zi_rd hIm38 hc0 zb_9_3
        have e40 : (m38 a0 3) = (m0 a0 3) := (zs_ne hmm38 (Or.inr (by decide)))
        have w41 := zu_w32_id (z := (m38 a0 3) + 1) (by omega) (by omega)
        generalize hmm42 : zu_up m38 a0 3 (zu_w32 ((m38 a0 3) + 1)) = m42
        have hIm42 := zi_up hmm42 hIm38 hc0 zb_9_3 (by omega) (by omega)
        have hFm42 := zfr_up hmm42 hFm38 hc0 rfl
        have r43 : (-2147483648) ≤ (m42 a0 5) ∧ (m42 a0 5) ≤ 2147483647 := zi_rd hIm42 hc0 zb_9_5
        have e44 : (m42 a0 5) = 8 := (Eq.trans (zs_ne hmm42 (Or.inr (by decide))) (zs_eq hmm38))
        have r45 : 0 ≤ (m42 a0 3) ∧ (m42 a0 3) ≤ 700 := zi_rd hIm42 hc0 zb_9_3
        have e46 : (m42 a0 3) = (zu_w32 ((m38 a0 3) + 1)) := (zs_eq hmm42)
        exact zw_some ⟨hIm42, hFm42, trivial, ⟨by omega, by omega⟩, ⟨by omega, by omega⟩, by omega⟩
set_option maxHeartbeats 4000000 in
theorem zk_283 (n : Nat) {a0 : Int} {m0 : zu_m} (hIm0 : zi_I m0)  (ha0 : (-2147483648) ≤ a0 ∧ a0 ≤ 2147483647)     : zw (zu_call (zt_T n) 283 [(0, a0)] m0) (fun v m => zi_I m ∧ zfr [] m0 m ∧ ((-1) ≤ v ∧ v ≤ 12)) := by
  have hFm0 : zfr [] m0 m0 := zfr_rf _ _
  refine zw_eq (zu_call_at (zt_T n) (zm_283 n) (zdp_283 n) _ _ _ _ _ rfl (zr_283_0 n _ _ a0 m0)) ?_
  refine zw_ite (fun h1 => ?_) (fun h1 => ?_)
  · exact zw_some ⟨hIm0, hFm0, ⟨by omega, by omega⟩⟩
  · refine zw_ite (fun h2 => ?_) (fun h2 => ?_)
    · exact zw_some ⟨hIm0, hFm0, ⟨by omega, by omega⟩⟩
    · refine zw_ite (fun h3 => ?_) (fun h3 => ?_)
      · exact zw_some ⟨hIm0, hFm0, ⟨by omega, by omega⟩⟩
      · refine zw_ite (fun h4 => ?_) (fun h4 => ?_)
        · exact zw_some ⟨hIm0, hFm0, ⟨by omega, by omega⟩⟩
        · refine zw_ite (fun h5 => ?_) (fun h5 => ?_)
          · exact zw_some ⟨hIm0, hFm0, ⟨by omega, by omega⟩⟩
          · refine zw_ite (fun h6 => ?_) (fun h6 => ?_)
            · exact zw_some ⟨hIm0, hFm0, ⟨by omega, by omega⟩⟩
            · refine zw_ite (fun h7 => ?_) (fun h7 => ?_)
              · exact zw_some ⟨hIm0, hFm0, ⟨by omega, by omega⟩⟩
              · refine zw_ite (fun h8 => ?_) (fun h8 => ?_)
                · exact zw_some ⟨hIm0, hFm0, ⟨by omega, by omega⟩⟩
                · refine zw_ite (fun h9 => ?_) (fun h9 => ?_)
                  · exact zw_some ⟨hIm0, hFm0, ⟨by omega, by omega⟩⟩
                  · refine zw_ite (fun h10 => ?_) (fun h10 => ?_)
                    · exact zw_some ⟨hIm0, hFm0, ⟨by omega, by omega⟩⟩
                    · refine zw_ite (fun h11 => ?_) (fun h11 => ?_)
                      · exact zw_some ⟨hIm0, hFm0, ⟨by omega, by omega⟩⟩
                      · refine zw_ite (fun h12 => ?_) (fun h12 => ?_)
                        · exact zw_some ⟨hIm0, hFm0, ⟨by omega, by omega⟩⟩
                        · refine zw_ite (fun h13 => ?_) (fun h13 => ?_)
                          · exact zw_some ⟨hIm0, hFm0, ⟨by omega, by omega⟩⟩
                          · refine zw_ite (fun h14 => ?_) (fun h14 => ?_)
                            · exact zw_some ⟨hIm0, hFm0, ⟨by omega, by omega⟩⟩
                            · refine zw_ite (fun h15 => ?_) (fun h15 => ?_)
                              · exact zw_some ⟨hIm0, hFm0, ⟨by omega, by omega⟩⟩
                              · refine zw_ite (fun h16 => ?_) (fun h16 => ?_)
                                · exact zw_some ⟨hIm0, hFm0, ⟨by omega, by omega⟩⟩
                                · refine zw_ite (fun h17 => ?_) (fun h17 => ?_)
                                  · exact zw_some ⟨hIm0, hFm0, ⟨by omega, by omega⟩⟩
                                  · refine zw_ite (fun h18 => ?_) (fun h18 => ?_)
                                    · exact zw_some ⟨hIm0, hFm0, ⟨by omega, by omega⟩⟩
                                    · refine zw_ite (fun h19 => ?_) (fun h19 => ?_)
                                      · exact zw_some ⟨hIm0, hFm0, ⟨by omega, by omega⟩⟩
                                      · refine zw_ite (fun h20 => ?_) (fun h20 => ?_)
                                        · exact zw_some ⟨hIm0, hFm0, ⟨by omega, by omega⟩⟩
                                        · refine zw_ite (fun h21 => ?_) (fun h21 => ?_)
                                          · exact zw_some ⟨hIm0, hFm0, ⟨by omega, by omega⟩⟩
                                          · refine zw_ite (fun h22 => ?_) (fun h22 => ?_)
                                            · exact zw_some ⟨hIm0, hFm0, ⟨by omega, by omega⟩⟩
                                            · refine zw_ite (fun h23 => ?_) (fun h23 => ?_)
                                              · exact zw_some ⟨hIm0, hFm0, ⟨by omega, by omega⟩⟩
                                              · exact zw_some ⟨hIm0, hFm0, ⟨by omega, by omega⟩⟩
set_option maxHeartbeats 4000000 in
theorem zl_288 (n : Nat) {a0 a1 a2 a3 : Int} {m0 : zu_m} (hc0 : zcls a0 = 24)   : ∀ k : Nat, (∀ (x4 : Int) (mh : zu_m), zi_I mh → zfr [(86, 0), (87, 0), (88, 0), (89, 0)] m0 mh → (1 ≤ a1 ∧ a1 ≤ 2) → (0 ≤ a2 ∧ a2 ≤ 47) → (0 ≤ a3 ∧ a3 ≤ 47) → (0 ≤ x4 ∧ x4 ≤ 48) → (48 - x4) * 1 + 24 < (k : Int) → zw (zu_ex (zt_T n) 288 3 [(33, a0), (0, a1), (0, a2), (0, a3), (0, x4), (2, 0), (2, 0)] [] mh) (fun v m => zi_I m ∧ zfr [(86, 0), (87, 0), (88, 0), (89, 0)] m0 m ∧ True)) ∧ (∀ (x4 : Int) (mh : zu_m), zi_I mh → zfr [(86, 0), (87, 0), (88, 0), (89, 0)] m0 mh → (1 ≤ a1 ∧ a1 ≤ 2) → (0 ≤ a2 ∧ a2 ≤ 47) → (0 ≤ a3 ∧ a3 ≤ 47) → (0 ≤ x4 ∧ x4 ≤ 4) → (4 - x4) * 1 + 19 < (k : Int) → zw (zu_ex (zt_T n) 288 32 [(33, a0), (0, a1), (0, a2), (0, a3), (0, x4), (2, 0), (2, 0)] [] mh) (fun v m => zi_I m ∧ zfr [(86, 0), (87, 0), (88, 0), (89, 0)] m0 m ∧ True)) ∧ (∀ (x4 x5 : Int) (mh : zu_m), zi_I mh → zfr [(86, 0), (87, 0), (88, 0), (89, 0)] m0 mh → (1 ≤ a1 ∧ a1 ≤ 2) → (0 ≤ a2 ∧ a2 ≤ 47) → (0 ≤ a3 ∧ a3 ≤ 47) → (1 ≤ x4 ∧ x4 ≤ 18) → (0 ≤ x5 ∧ x5 ≤ 18) → (18 - x5) * 1 + 0 < (k : Int) → zw (zu_ex (zt_T n) 288 84 [(33, a0), (0, a1), (0, a2), (0, a3), (0, x4), (0, x5), (2, 0)] [] mh) (fun v m => zi_I m ∧ zfr [(86, 0), (87, 0), (88, 0), (89, 0)] m0 m ∧ True)) := by
  intro k
  induction k with
  | zero => exact ⟨fun x4 mh hImh hFmh hba1 hba2 hba3 hbx4 hM => by exfalso; omega, fun x4 mh hImh hFmh hba1 hba2 hba3 hbx4 hM => by exfalso; omega, fun x4 x5 mh hImh hFmh hba1 hba2 hba3 hbx4 hbx5 hM => by exfalso; omega⟩
  | succ k ih =>
    refine ⟨?_, ?_, ?_⟩
    · intro x4 mh hImh hFmh hba1 hba2 hba3 hbx4 hM
      refine zw_eq (zu_rega_at (zt_T n) (zm_288 n) (zdp_288 n) _ _ _ _ _ _ (zr_288_3 n _ _ a0 a1 a2 a3 x4 mh)) ?_
      have r1 : 1 ≤ (mh 50 2) ∧ (mh 50 2) ≤ 48 := zi_rd hImh zq_50 zb_11_2
      refine zw_ite (fun h2 => ?_) (fun h2 => ?_)
      · have hM : (4 - 0) * 1 + 19 < (k : Int) := by omega
        exact ih.2.1 0 mh hImh hFmh ⟨by omega, by omega⟩ ⟨by omega, by omega⟩ ⟨by omega, by omega⟩ ⟨by omega, by omega⟩ hM
      · have b3 : 0 ≤ x4 ∧ x4 < 48 := by omega
        refine zw_if b3 ?_
        generalize hmm4 : zu_up mh 157 x4 0 = m4
        have hIm4 := zi_up hmm4 hImh zq_157 (zb_88 _) (by omega) (by omega)
        have hFm4 := zfr_up hmm4 hFmh zq_157 rfl
        have w5 := zu_w32_id (z := x4 + 1) (by omega) (by omega)
        have hM : (48 - (zu_w32 (x4 + 1))) * 1 + 24 < (k : Int) := by omega
        exact ih.1 (zu_w32 (x4 + 1)) m4 hIm4 hFm4 ⟨by omega, by omega⟩ ⟨by omega, by omega⟩ ⟨by omega, by omega⟩ ⟨by omega, by omega⟩ hM
    · intro x4 mh hImh hFmh hba1 hba2 hba3 hbx4 hM
      refine zw_eq (zu_rega_at (zt_T n) (zm_288 n) (zdp_288 n) _ _ _ _ _ _ (zr_288_32 n _ _ a0 a1 a2 a3 x4 mh)) ?_
      have r6 : 0 ≤ (mh 89 4) ∧ (mh 89 4) ≤ 4 := zi_rd hImh zq_89 zb_16_4
      refine zw_ite (fun h7 => ?_) (fun h7 => ?_)
      · have r8 : 0 ≤ (mh 89 2) ∧ (mh 89 2) ≤ 16 := zi_rd hImh zq_89 zb_16_2
        have w9 := zu_w32_id (z := (mh 89 2) + a1) (by omega) (by omega)
        have hM : (18 - 0) * 1 + 0 < (k : Int) := by omega
        exact ih.2.2 (zu_w32 ((mh 89 2) + a1)) 0 mh hImh hFmh ⟨by omega, by omega⟩ ⟨by omega, by omega⟩ ⟨by omega, by omega⟩ ⟨by omega, by omega⟩ ⟨by omega, by omega⟩ hM
      · have b10 : 0 ≤ x4 ∧ x4 < 4 := by omega
        refine zw_if b10 ?_
        have r11 : (-2147483648) ≤ (mh ((89 + 2) + 20 + x4) 6) ∧ (mh ((89 + 2) + 20 + x4) 6) ≤ 2147483647 := zi_rd hImh (zc_66_e (zc_16_3 zq_89) b10) zb_18_6
        have b12 : 0 ≤ x4 ∧ x4 < 4 := by omega
        refine zw_if b12 ?_
        generalize hmm13 : zu_up mh 158 x4 (mh ((89 + 2) + 20 + x4) 6) = m13
        have hIm13 := zi_up hmm13 hImh zq_158 (zb_89 _) (by omega) (by omega)
        have hFm13 := zfr_up hmm13 hFmh zq_158 rfl
        have w14 := zu_w32_id (z := x4 + 1) (by omega) (by omega)
        have hM : (4 - (zu_w32 (x4 + 1))) * 1 + 19 < (k : Int) := by omega
        exact ih.2.1 (zu_w32 (x4 + 1)) m13 hIm13 hFm13 ⟨by omega, by omega⟩ ⟨by omega, by omega⟩ ⟨by omega, by omega⟩ ⟨by omega, by omega⟩ hM
    · intro x4 x5 mh hImh hFmh hba1 hba2 hba3 hbx4 hbx5 hM
      refine zw_eq (zu_rega_at (zt_T n) (zm_288 n) (zdp_288 n) _ _ _ _ _ _ (zr_288_84 n _ _ a0 a1 a2 a3 x4 x5 mh)) ?_
      refine zw_ite (fun h15 => ?_) (fun h15 => ?_)
      · exact zw_some ⟨hImh, hFmh, trivial⟩
      · refine zw_ite (fun h16 => ?_) (fun h16 => ?_)
        · exfalso; omega
        · have r17 : 0 ≤ (mh 89 2) ∧ (mh 89 2) ≤ 16 := zi_rd hImh zq_89 zb_16_2
          refine zw_ite (fun h18 => ?_) (fun h18 => ?_)
          · refine zw_ite (fun h19 => ?_) (fun h19 => ?_)
            · refine zw_ite (fun h20 => ?_) (fun h20 => ?_)
              · have b21 : 0 ≤ x5 ∧ x5 < 18 := by omega
                refine zw_if b21 ?_
                generalize hmm22 : zu_up mh 155 x5 a3 = m22
                have hIm22 := zi_up hmm22 hImh zq_155 (zb_86 _) (by omega) (by omega)
                have hFm22 := zfr_up hmm22 hFmh zq_155 rfl
                refine zw_ite (fun h23 => ?_) (fun h23 => ?_)
                · refine zw_b (by omega) ?_
                  have b24 : 0 ≤ x5 ∧ x5 < 18 := by omega
                  refine zw_if b24 ?_
                  generalize hmm25 : zu_up m22 156 x5 0 = m25
                  have hIm25 := zi_up hmm25 hIm22 zq_156 (zb_87 _) (by omega) (by omega)
                  have hFm25 := zfr_up hmm25 hFm22 zq_156 rfl
                  have b26 : 0 ≤ x5 ∧ x5 < 18 := by omega
                  refine zw_if b26 ?_
                  have r27 : 0 ≤ (m25 156 x5) ∧ (m25 156 x5) ≤ 1 := zi_rd hIm25 zq_156 (zb_87 _)
                  have e28 : (m25 156 x5) = 0 := (zs_eq hmm25)
                  refine zw_ite (fun h29 => ?_) (fun h29 => ?_)
                  · exfalso; omega
                  · have b30 : 0 ≤ x5 ∧ x5 < 18 := by omega
                    refine zw_if b30 ?_
                    have r31 : 0 ≤ (m25 155 x5) ∧ (m25 155 x5) ≤ 47 := zi_rd hIm25 zq_155 (zb_86 _)
                    have e32 : (m25 155 x5) = a3 := (Eq.trans (zs_ne hmm25 (Or.inl (zc_ne zq_155 zq_156 (by decide)))) (zs_eq hmm22))
                    have b33 : 0 ≤ (m25 155 x5) ∧ (m25 155 x5) < 48 := by omega
                    refine zw_if b33 ?_
                    have r34 : (-2147483648) ≤ (m25 157 (m25 155 x5)) ∧ (m25 157 (m25 155 x5)) ≤ 2147483647 := zi_rd hIm25 zq_157 (zb_88 _)
                    have w35 := zu_w32_rg ((m25 157 (m25 155 x5)) + 1)
                    have b36 : 0 ≤ (m25 155 x5) ∧ (m25 155 x5) < 48 := by omega
                    refine zw_if b36 ?_
                    generalize hmm37 : zu_up m25 157 (m25 155 x5) (zu_w32 ((m25 157 (m25 155 x5)) + 1)) = m37
                    have hIm37 := zi_up hmm37 hIm25 zq_157 (zb_88 _) (by omega) (by omega)
                    have hFm37 := zfr_up hmm37 hFm25 zq_157 rfl
                    have w38 := zu_w32_id (z := x5 + 1) (by omega) (by omega)
                    have hM : (18 - (zu_w32 (x5 + 1))) * 1 + 0 < (k : Int) := by omega
                    exact zw_le (zu_forget (zu_lr_same (zu_lr_same (zu_lr_same (zu_lr_same (zu_lr_same (zu_lr_same (zu_lr_drop zu_lr_nil)))))))) (ih.2.2 x4 (zu_w32 (x5 + 1)) m37 hIm37 hFm37 ⟨by omega, by omega⟩ ⟨by omega, by omega⟩ ⟨by omega, by omega⟩ ⟨by omega, by omega⟩ ⟨by omega, by omega⟩ hM)
                · exfalso; omega
              · have b39 : 0 ≤ x5 ∧ x5 < 18 := by omega
                refine zw_if b39 ?_
                generalize hmm40 : zu_up mh 155 x5 a2 = m40
                have hIm40 := zi_up hmm40 hImh zq_155 (zb_86 _) (by omega) (by omega)
                have hFm40 := zfr_up hmm40 hFmh zq_155 rfl
                refine zw_ite (fun h41 => ?_) (fun h41 => ?_)
                · refine zw_b (by omega) ?_
                  have b42 : 0 ≤ x5 ∧ x5 < 18 := by omega
                  refine zw_if b42 ?_
                  generalize hmm43 : zu_up m40 156 x5 0 = m43
                  have hIm43 := zi_up hmm43 hIm40 zq_156 (zb_87 _) (by omega) (by omega)
                  have hFm43 := zfr_up hmm43 hFm40 zq_156 rfl
                  have b44 : 0 ≤ x5 ∧ x5 < 18 := by omega
                  refine zw_if b44 ?_
                  have r45 : 0 ≤ (m43 156 x5) ∧ (m43 156 x5) ≤ 1 := zi_rd hIm43 zq_156 (zb_87 _)
                  have e46 : (m43 156 x5) = 0 := (zs_eq hmm43)
                  refine zw_ite (fun h47 => ?_) (fun h47 => ?_)
                  · exfalso; omega
                  · have b48 : 0 ≤ x5 ∧ x5 < 18 := by omega
                    refine zw_if b48 ?_
                    have r49 : 0 ≤ (m43 155 x5) ∧ (m43 155 x5) ≤ 47 := zi_rd hIm43 zq_155 (zb_86 _)
                    have e50 : (m43 155 x5) = a2 := (Eq.trans (zs_ne hmm43 (Or.inl (zc_ne zq_155 zq_156 (by decide)))) (zs_eq hmm40))
                    have b51 : 0 ≤ (m43 155 x5) ∧ (m43 155 x5) < 48 := by omega
                    refine zw_if b51 ?_
                    have r52 : (-2147483648) ≤ (m43 157 (m43 155 x5)) ∧ (m43 157 (m43 155 x5)) ≤ 2147483647 := zi_rd hIm43 zq_157 (zb_88 _)
                    have w53 := zu_w32_rg ((m43 157 (m43 155 x5)) + 1)
                    have b54 : 0 ≤ (m43 155 x5) ∧ (m43 155 x5) < 48 := by omega
                    refine zw_if b54 ?_
                    generalize hmm55 : zu_up m43 157 (m43 155 x5) (zu_w32 ((m43 157 (m43 155 x5)) + 1)) = m55
                    have hIm55 := zi_up hmm55 hIm43 zq_157 (zb_88 _) (by omega) (by omega)
                    have hFm55 := zfr_up hmm55 hFm43 zq_157 rfl
                    have w56 := zu_w32_id (z := x5 + 1) (by omega) (by omega)
                    have hM : (18 - (zu_w32 (x5 + 1))) * 1 + 0 < (k : Int) := by omega
                    exact zw_le (zu_forget (zu_lr_same (zu_lr_same (zu_lr_same (zu_lr_same (zu_lr_same (zu_lr_same (zu_lr_drop zu_lr_nil)))))))) (ih.2.2 x4 (zu_w32 (x5 + 1)) m55 hIm55 hFm55 ⟨by omega, by omega⟩ ⟨by omega, by omega⟩ ⟨by omega, by omega⟩ ⟨by omega, by omega⟩ ⟨by omega, by omega⟩ hM)
                · exfalso; omega
            · exfalso; omega
          · refine zw_ite (fun h57 => ?_) (fun h57 => ?_)
            · exfalso; omega
            · have b58 : 0 ≤ x5 ∧ x5 < 16 := by omega
              refine zw_if b58 ?_
              have r59 : 0 ≤ (mh ((89 + 1) + 5 + x5) 0) ∧ (mh ((89 + 1) + 5 + x5) 0) ≤ 47 := zi_rd hImh (zc_65_e (zc_16_1 zq_89) b58) zb_17_0
              have b60 : 0 ≤ x5 ∧ x5 < 18 := by omega
              refine zw_if b60 ?_
              generalize hmm61 : zu_up mh 155 x5 (mh ((89 + 1) + 5 + x5) 0) = m61
              have hIm61 := zi_up hmm61 hImh zq_155 (zb_86 _) (by omega) (by omega)
              have hFm61 := zfr_up hmm61 hFmh zq_155 rfl
              refine zw_ite (fun h62 => ?_) (fun h62 => ?_)
              · exfalso; omega
              · have b63 : 0 ≤ x5 ∧ x5 < 16 := by omega
                refine zw_if b63 ?_
                have r64 : (-3) ≤ (m61 ((89 + 1) + 5 + x5) 3) ∧ (m61 ((89 + 1) + 5 + x5) 3) ≤ 3 := zi_rd hIm61 (zc_65_e (zc_16_1 zq_89) b63) zb_17_3
                refine zw_ite (fun h65 => ?_) (fun h65 => ?_)
                · refine zw_b (by omega) ?_
                  have b66 : 0 ≤ x5 ∧ x5 < 18 := by omega
                  refine zw_if b66 ?_
                  generalize hmm67 : zu_up m61 156 x5 0 = m67
                  have hIm67 := zi_up hmm67 hIm61 zq_156 (zb_87 _) (by omega) (by omega)
                  have hFm67 := zfr_up hmm67 hFm61 zq_156 rfl
                  have b68 : 0 ≤ x5 ∧ x5 < 18 := by omega
                  refine zw_if b68 ?_
                  have r69 : 0 ≤ (m67 156 x5) ∧ (m67 156 x5) ≤ 1 := zi_rd hIm67 zq_156 (zb_87 _)
                  have e70 : (m67 156 x5) = 0 := (zs_eq hmm67)
                  refine zw_ite (fun h71 => ?_) (fun h71 => ?_)
                  · exfalso; omega
                  · have b72 : 0 ≤ x5 ∧ x5 < 18 := by omega
                    refine zw_if b72 ?_
                    have r73 : 0 ≤ (m67 155 x5) ∧ (m67 155 x5) ≤ 47 := zi_rd hIm67 zq_155 (zb_86 _)
                    have e74 : (m67 155 x5) = (mh ((89 + 1) + 5 + x5) 0) := (Eq.trans (zs_ne hmm67 (Or.inl (zc_ne zq_155 zq_156 (by decide)))) (zs_eq hmm61))
                    have b75 : 0 ≤ (m67 155 x5) ∧ (m67 155 x5) < 48 := by omega
                    refine zw_if b75 ?_
                    have r76 : (-2147483648) ≤ (m67 157 (m67 155 x5)) ∧ (m67 157 (m67 155 x5)) ≤ 2147483647 := zi_rd hIm67 zq_157 (zb_88 _)
                    have w77 := zu_w32_rg ((m67 157 (m67 155 x5)) + 1)
                    have b78 : 0 ≤ (m67 155 x5) ∧ (m67 155 x5) < 48 := by omega
                    refine zw_if b78 ?_
                    generalize hmm79 : zu_up m67 157 (m67 155 x5) (zu_w32 ((m67 157 (m67 155 x5)) + 1)) = m79
                    have hIm79 := zi_up hmm79 hIm67 zq_157 (zb_88 _) (by omega) (by omega)
                    have hFm79 := zfr_up hmm79 hFm67 zq_157 rfl
                    have w80 := zu_w32_id (z := x5 + 1) (by omega) (by omega)
                    have hM : (18 - (zu_w32 (x5 + 1))) * 1 + 0 < (k : Int) := by omega
                    exact zw_le (zu_forget (zu_lr_same (zu_lr_same (zu_lr_same (zu_lr_same (zu_lr_same (zu_lr_same (zu_lr_drop zu_lr_nil)))))))) (ih.2.2 x4 (zu_w32 (x5 + 1)) m79 hIm79 hFm79 ⟨by omega, by omega⟩ ⟨by omega, by omega⟩ ⟨by omega, by omega⟩ ⟨by omega, by omega⟩ ⟨by omega, by omega⟩ hM)
                · refine zw_b (by omega) ?_
                  have b81 : 0 ≤ x5 ∧ x5 < 18 := by omega
                  refine zw_if b81 ?_
                  generalize hmm82 : zu_up m61 156 x5 1 = m82
                  have hIm82 := zi_up hmm82 hIm61 zq_156 (zb_87 _) (by omega) (by omega)
                  have hFm82 := zfr_up hmm82 hFm61 zq_156 rfl
                  have b83 : 0 ≤ x5 ∧ x5 < 18 := by omega
                  refine zw_if b83 ?_
                  have r84 : 0 ≤ (m82 156 x5) ∧ (m82 156 x5) ≤ 1 := zi_rd hIm82 zq_156 (zb_87 _)
                  have e85 : (m82 156 x5) = 1 := (zs_eq hmm82)
                  refine zw_ite (fun h86 => ?_) (fun h86 => ?_)
                  · have w87 := zu_w32_id (z := x5 + 1) (by omega) (by omega)
                    have hM : (18 - (zu_w32 (x5 + 1))) * 1 + 0 < (k : Int) := by omega
                    exact zw_le (zu_forget (zu_lr_same (zu_lr_same (zu_lr_same (zu_lr_same (zu_lr_same (zu_lr_same (zu_lr_drop zu_lr_nil)))))))) (ih.2.2 x4 (zu_w32 (x5 + 1)) m82 hIm82 hFm82 ⟨by omega, by omega⟩ ⟨by omega, by omega⟩ ⟨by omega, by omega⟩ ⟨by omega, by omega⟩ ⟨by omega, by omega⟩ hM)
                  · exfalso; omega
set_option maxHeartbeats 4000000 in
theorem zk_288 (n : Nat) {a0 a1 a2 a3 : Int} {m0 : zu_m} (hIm0 : zi_I m0) (hc0 : zcls a0 = 24) (ha1 : 1 ≤ a1 ∧ a1 ≤ 2) (ha2 : 0 ≤ a2 ∧ a2 ≤ 47) (ha3 : 0 ≤ a3 ∧ a3 ≤ 47)     : zw (zu_call (zt_T n) 288 [(33, a0), (0, a1), (0, a2), (0, a3)] m0) (fun v m => zi_I m ∧ zfr [(86, 0), (87, 0), (88, 0), (89, 0)] m0 m ∧ True) := by
  have hFm0 : zfr [(86, 0), (87, 0), (88, 0), (89, 0)] m0 m0 := zfr_rf _ _
  refine zw_eq (zu_call_at (zt_T n) (zm_288 n) (zdp_288 n) _ _ _ _ _ rfl (zr_288_0 n _ _ a0 a1 a2 a3 m0)) ?_
  have hM : (48 - 0) * 1 + 24 < ((73 : Nat) : Int) := by omega
  exact (zl_288 n (m0 := m0) hc0 73).1 0 m0 hIm0 hFm0 ⟨by omega, by omega⟩ ⟨by omega, by omega⟩ ⟨by omega, by omega⟩ ⟨by omega, by omega⟩ hM
set_option maxHeartbeats 4000000 in
theorem zl_289 (n : Nat) {a0 a1 : Int} {m0 : zu_m} (hc0 : zcls a0 = 24)   : ∀ k : Nat, (∀ (x2 : Int) (mh : zu_m), zi_I mh → zfr [(87, 0), (88, 0)] m0 mh → (1 ≤ a1 ∧ a1 ≤ 18) → (0 ≤ x2 ∧ x2 ≤ 18) → (18 - x2) * 1 + 0 < (k : Int) → zw (zu_ex (zt_T n) 289 2 [(33, a0), (0, a1), (0, x2)] [] mh) (fun v m => zi_I m ∧ zfr [(87, 0), (88, 0)] m0 m ∧ True)) := by
  intro k
  induction k with
  | zero => exact fun x2 mh hImh hFmh hba1 hbx2 hM => by exfalso; omega
  | succ k ih =>
    intro x2 mh hImh hFmh hba1 hbx2 hM
    refine zw_eq (zu_rega_at (zt_T n) (zm_289 n) (zdp_289 n) _ _ _ _ _ _ (zr_289_2 n _ _ a0 a1 x2 mh)) ?_
    refine zw_ite (fun h1 => ?_) (fun h1 => ?_)
    · exact zw_some ⟨hImh, hFmh, trivial⟩
    · refine zw_ite (fun h2 => ?_) (fun h2 => ?_)
      · exfalso; omega
      · have b3 : 0 ≤ x2 ∧ x2 < 18 := by omega
        refine zw_if b3 ?_
        have r4 : 0 ≤ (mh 156 x2) ∧ (mh 156 x2) ≤ 1 := zi_rd hImh zq_156 (zb_87 _)
        refine zw_ite (fun h5 => ?_) (fun h5 => ?_)
        · have w6 := zu_w32_id (z := x2 + 1) (by omega) (by omega)
          have hM : (18 - (zu_w32 (x2 + 1))) * 1 + 0 < (k : Int) := by omega
          exact ih (zu_w32 (x2 + 1)) mh hImh hFmh ⟨by omega, by omega⟩ ⟨by omega, by omega⟩ hM
        · have b7 : 0 ≤ x2 ∧ x2 < 18 := by omega
          refine zw_if b7 ?_
          have r8 : 0 ≤ (mh 155 x2) ∧ (mh 155 x2) ≤ 47 := zi_rd hImh zq_155 (zb_86 _)
          have b9 : 0 ≤ (mh 155 x2) ∧ (mh 155 x2) < 48 := by omega
          refine zw_if b9 ?_
          have r10 : 0 ≤ (mh (50 + 3) (mh 155 x2)) ∧ (mh (50 + 3) (mh 155 x2)) ≤ 3 := zi_rd hImh (zc_11_8 zq_50) (zb_51 _)
          refine zw_ite (fun h11 => ?_) (fun h11 => ?_)
          · have w12 := zu_w32_id (z := x2 + 1) (by omega) (by omega)
            have hM : (18 - (zu_w32 (x2 + 1))) * 1 + 0 < (k : Int) := by omega
            exact ih (zu_w32 (x2 + 1)) mh hImh hFmh ⟨by omega, by omega⟩ ⟨by omega, by omega⟩ hM
          · refine zw_b (by omega) ?_
            have b13 : 0 ≤ x2 ∧ x2 < 18 := by omega
            refine zw_if b13 ?_
            generalize hmm14 : zu_up mh 156 x2 1 = m14
            have hIm14 := zi_up hmm14 hImh zq_156 (zb_87 _) (by omega) (by omega)
            have hFm14 := zfr_up hmm14 hFmh zq_156 rfl
            have b15 : 0 ≤ x2 ∧ x2 < 18 := by omega
            refine zw_if b15 ?_
            have r16 : 0 ≤ (m14 155 x2) ∧ (m14 155 x2) ≤ 47 := zi_rd hIm14 zq_155 (zb_86 _)
            have e17 : (m14 155 x2) = (mh 155 x2) := (zs_ne hmm14 (Or.inl (zc_ne zq_155 zq_156 (by decide))))
            have b18 : 0 ≤ (m14 155 x2) ∧ (m14 155 x2) < 48 := by omega
            refine zw_if b18 ?_
            have r19 : (-2147483648) ≤ (m14 157 (m14 155 x2)) ∧ (m14 157 (m14 155 x2)) ≤ 2147483647 := zi_rd hIm14 zq_157 (zb_88 _)
            have w20 := zu_w32_rg ((m14 157 (m14 155 x2)) - 1)
            have b21 : 0 ≤ (m14 155 x2) ∧ (m14 155 x2) < 48 := by omega
            refine zw_if b21 ?_
            generalize hmm22 : zu_up m14 157 (m14 155 x2) (zu_w32 ((m14 157 (m14 155 x2)) - 1)) = m22
            have hIm22 := zi_up hmm22 hIm14 zq_157 (zb_88 _) (by omega) (by omega)
            have hFm22 := zfr_up hmm22 hFm14 zq_157 rfl
            have w23 := zu_w32_id (z := x2 + 1) (by omega) (by omega)
            have hM : (18 - (zu_w32 (x2 + 1))) * 1 + 0 < (k : Int) := by omega
            exact ih (zu_w32 (x2 + 1)) m22 hIm22 hFm22 ⟨by omega, by omega⟩ ⟨by omega, by omega⟩ hM
set_option maxHeartbeats 4000000 in
theorem zk_289 (n : Nat) {a0 a1 : Int} {m0 : zu_m} (hIm0 : zi_I m0) (hc0 : zcls a0 = 24) (ha1 : 1 ≤ a1 ∧ a1 ≤ 18)     : zw (zu_call (zt_T n) 289 [(33, a0), (0, a1)] m0) (fun v m => zi_I m ∧ zfr [(87, 0), (88, 0)] m0 m ∧ True) := by
  have hFm0 : zfr [(87, 0), (88, 0)] m0 m0 := zfr_rf _ _
  refine zw_eq (zu_call_at (zt_T n) (zm_289 n) (zdp_289 n) _ _ _ _ _ rfl (zr_289_0 n _ _ a0 a1 m0)) ?_
  have hM : (18 - 0) * 1 + 0 < ((19 : Nat) : Int) := by omega
  exact (zl_289 n (m0 := m0) hc0 19) 0 m0 hIm0 hFm0 ⟨by omega, by omega⟩ ⟨by omega, by omega⟩ hM
set_option maxHeartbeats 4000000 in
theorem zl_293 (n : Nat) {a0 : Int} {m0 : zu_m} (hc0 : zcls a0 = 24)   : ∀ k : Nat, (∀ (x1 x2 x3 : Int) (mh : zu_m), zi_I mh → zfr [] m0 mh → ((-2147483648) ≤ x1 ∧ x1 ≤ 2147483647) → ((-2147483648) ≤ x2 ∧ x2 ≤ 2147483647) → (1 ≤ x3 ∧ x3 ≤ 4) → (4 - x3) * 1 + 0 < (k : Int) → zw (zu_ex (zt_T n) 293 16 [(33, a0), (0, x1), (0, x2), (0, x3)] [] mh) (fun v m => zi_I m ∧ zfr [] m0 m ∧ ((-2147483648) ≤ v ∧ v ≤ 2147483647))) := by
  intro k
  induction k with
  | zero => exact fun x1 x2 x3 mh hImh hFmh hbx1 hbx2 hbx3 hM => by exfalso; omega
  | succ k ih =>
    intro x1 x2 x3 mh hImh hFmh hbx1 hbx2 hbx3 hM
    refine zw_eq (zu_rega_at (zt_T n) (zm_293 n) (zdp_293 n) _ _ _ _ _ _ (zr_293_16 n _ _ a0 x1 x2 x3 mh)) ?_
    have r1 : 0 ≤ (mh 89 4) ∧ (mh 89 4) ≤ 4 := zi_rd hImh zq_89 zb_16_4
    refine zw_ite (fun h2 => ?_) (fun h2 => ?_)
    · have w3 := zu_w32_rg (x1 - x2)
      exact zw_some ⟨hImh, hFmh, ⟨by omega, by omega⟩⟩
    · have b4 : 0 ≤ x3 ∧ x3 < 4 := by omega
      refine zw_if b4 ?_
      have r5 : (-2147483648) ≤ (mh 158 x3) ∧ (mh 158 x3) ≤ 2147483647 := zi_rd hImh zq_158 (zb_89 _)
      have k6 := zmax_bd x1 (mh 158 x3)
      have b7 : 0 ≤ x3 ∧ x3 < 4 := by omega
      refine zw_if b7 ?_
      have k8 := zmin_bd x2 (mh 158 x3)
      have w9 := zu_w32_id (z := x3 + 1) (by omega) (by omega)
      have hM : (4 - (zu_w32 (x3 + 1))) * 1 + 0 < (k : Int) := by omega
      exact ih (zu_max x1 (mh 158 x3)) (zu_min x2 (mh 158 x3)) (zu_w32 (x3 + 1)) mh hImh hFmh ⟨by omega, by omega⟩ ⟨by omega, by omega⟩ ⟨by omega, by omega⟩ hM
set_option maxHeartbeats 4000000 in
theorem zk_293 (n : Nat) {a0 : Int} {m0 : zu_m} (hIm0 : zi_I m0) (hc0 : zcls a0 = 24)      : zw (zu_call (zt_T n) 293 [(33, a0)] m0) (fun v m => zi_I m ∧ zfr [] m0 m ∧ ((-2147483648) ≤ v ∧ v ≤ 2147483647)) := by
  have hFm0 : zfr [] m0 m0 := zfr_rf _ _
  refine zw_eq (zu_call_at (zt_T n) (zm_293 n) (zdp_293 n) _ _ _ _ _ rfl (zr_293_0 n _ _ a0 m0)) ?_
  have b10 : 0 ≤ (0 : Int) ∧ (0 : Int) < 4 := by omega
  refine zw_if b10 ?_
  have r11 : (-2147483648) ≤ (m0 158 0) ∧ (m0 158 0) ≤ 2147483647 := zi_rd hIm0 zq_158 (zb_89 _)
  have b12 : 0 ≤ (0 : Int) ∧ (0 : Int) < 4 := by omega
  refine zw_if b12 ?_
  have hM : (4 - 1) * 1 + 0 < ((4 : Nat) : Int) := by omega
  exact (zl_293 n (m0 := m0) hc0 4) (m0 158 0) (m0 158 0) 1 m0 hIm0 hFm0 ⟨by omega, by omega⟩ ⟨by omega, by omega⟩ ⟨by omega, by omega⟩ hM
set_option maxHeartbeats 4000000 in
theorem zl_295 (n : Nat) {a0 a1 : Int} {m0 : zu_m} (hc0 : zcls a0 = 24)   : ∀ k : Nat, (∀ (x2 : Int) (mh : zu_m), zi_I mh → zfr [(24, 19), (93, 0)] m0 mh → (0 ≤ a1 ∧ a1 ≤ 999000) → (0 ≤ x2 ∧ x2 ≤ 4) → (1 ≤ mh a0 18 ∧ mh a0 18 ≤ 4) → (x2 - 0) * 1 + 0 < (k : Int) → zw (zu_ex (zt_T n) 295 23 [(33, a0), (0, a1), (0, x2)] [] mh) (fun v m => zi_I m ∧ zfr [(24, 19), (93, 0)] m0 m ∧ True ∧ (1 ≤ m a0 18 ∧ m a0 18 ≤ 4))) := by
  intro k
  induction k with
  | zero => exact fun x2 mh hImh hFmh hba1 hbx2 hg2 hM => by exfalso; omega
  | succ k ih =>
    intro x2 mh hImh hFmh hba1 hbx2 hg2 hM
    refine zw_eq (zu_rega_at (zt_T n) (zm_295 n) (zdp_295 n) _ _ _ _ _ _ (zr_295_23 n _ _ a0 a1 x2 mh)) ?_
    refine zw_ite (fun h1 => ?_) (fun h1 => ?_)
    · refine zw_ite (fun h2 => ?_) (fun h2 => ?_)
      · exfalso; omega
      · have b3 : 0 ≤ x2 ∧ x2 < 4 := by omega
        refine zw_if b3 ?_
        generalize hmm4 : zu_up mh 162 x2 a1 = m4
        have hIm4 := zi_up hmm4 hImh zq_162 (zb_93 _) (by omega) (by omega)
        have hFm4 := zfr_up hmm4 hFmh zq_162 rfl
        have r5 : 0 ≤ (m4 a0 18) ∧ (m4 a0 18) ≤ 4 := zi_rd hIm4 hc0 zb_24_18
        have e6 : (m4 a0 18) = (mh a0 18) := (zs_ne hmm4 (Or.inl (zc_ne hc0 zq_162 (by decide))))
        exact zw_some ⟨hIm4, hFm4, trivial, ⟨by omega, by omega⟩⟩
    · have w7 := zu_w32_id (z := x2 - 1) (by omega) (by omega)
      have b8 : 0 ≤ (zu_w32 (x2 - 1)) ∧ (zu_w32 (x2 - 1)) < 4 := by omega
      refine zw_if b8 ?_
      have r9 : 0 ≤ (mh 162 (zu_w32 (x2 - 1))) ∧ (mh 162 (zu_w32 (x2 - 1))) ≤ 999000 := zi_rd hImh zq_162 (zb_93 _)
      refine zw_ite (fun h10 => ?_) (fun h10 => ?_)
      · refine zw_ite (fun h11 => ?_) (fun h11 => ?_)
        · exact zw_some ⟨hImh, hFmh, trivial, ⟨by omega, by omega⟩⟩
        · have b12 : 0 ≤ x2 ∧ x2 < 4 := by omega
          refine zw_if b12 ?_
          generalize hmm13 : zu_up mh 162 x2 a1 = m13
          have hIm13 := zi_up hmm13 hImh zq_162 (zb_93 _) (by omega) (by omega)
          have hFm13 := zfr_up hmm13 hFmh zq_162 rfl
          have r14 : 0 ≤ (m13 a0 18) ∧ (m13 a0 18) ≤ 4 := zi_rd hIm13 hc0 zb_24_18
          have e15 : (m13 a0 18) = (mh a0 18) := (zs_ne hmm13 (Or.inl (zc_ne hc0 zq_162 (by decide))))
          exact zw_some ⟨hIm13, hFm13, trivial, ⟨by omega, by omega⟩⟩
      · refine zw_ite (fun h16 => ?_) (fun h16 => ?_)
        · have w17 := zu_w32_id (z := x2 + (-1)) (by omega) (by omega)
          have hM : ((zu_w32 (x2 + (-1))) - 0) * 1 + 0 < (k : Int) := by omega
          exact ih (zu_w32 (x2 + (-1))) mh hImh hFmh ⟨by omega, by omega⟩ ⟨by omega, by omega⟩ ⟨by omega, by omega⟩ hM
        · have b18 : 0 ≤ (zu_w32 (x2 - 1)) ∧ (zu_w32 (x2 - 1)) < 4 := by omega
          refine zw_if b18 ?_
          have b19 : 0 ≤ x2 ∧ x2 < 4 := by omega
          refine zw_if b19 ?_
          generalize hmm20 : zu_up mh 162 x2 (mh 162 (zu_w32 (x2 - 1))) = m20
          have hIm20 := zi_up hmm20 hImh zq_162 (zb_93 _) (by omega) (by omega)
          have hFm20 := zfr_up hmm20 hFmh zq_162 rfl
          have w21 := zu_w32_id (z := x2 + (-1)) (by omega) (by omega)
          have r22 : 0 ≤ (m20 a0 18) ∧ (m20 a0 18) ≤ 4 := zi_rd hIm20 hc0 zb_24_18
          have e23 : (m20 a0 18) = (mh a0 18) := (zs_ne hmm20 (Or.inl (zc_ne hc0 zq_162 (by decide))))
          have hM : ((zu_w32 (x2 + (-1))) - 0) * 1 + 0 < (k : Int) := by omega
          exact ih (zu_w32 (x2 + (-1))) m20 hIm20 hFm20 ⟨by omega, by omega⟩ ⟨by omega, by omega⟩ ⟨by omega, by omega⟩ hM
set_option maxHeartbeats 4000000 in
theorem zk_295 (n : Nat) {a0 a1 : Int} {m0 : zu_m} (hIm0 : zi_I m0) (hc0 : zcls a0 = 24) (ha1 : 0 ≤ a1 ∧ a1 ≤ 999000)     : zw (zu_call (zt_T n) 295 [(33, a0), (0, a1)] m0) (fun v m => zi_I m ∧ zfr [(24, 19), (93, 0)] m0 m ∧ True ∧ (1 ≤ m a0 18 ∧ m a0 18 ≤ 4)) := by
  have hFm0 : zfr [(24, 19), (93, 0)] m0 m0 := zfr_rf _ _
  refine zw_eq (zu_call_at (zt_T n) (zm_295 n) (zdp_295 n) _ _ _ _ _ rfl (zr_295_0 n _ _ a0 a1 m0)) ?_
  have r24 : 0 ≤ (m0 a0 18) ∧ (m0 a0 18) ≤ 4 := zi_rd hIm0 hc0 zb_24_18
  refine zw_ite (fun h25 => ?_) (fun h25 => ?_)
  · have hM : ((m0 a0 18) - 0) * 1 + 0 < ((5 : Nat) : Int) := by omega
    exact (zl_295 n (m0 := m0) hc0 5) (m0 a0 18) m0 hIm0 hFm0 ⟨by omega, by omega⟩ ⟨by omega, by omega⟩ ⟨by omega, by omega⟩ hM
  · have w26 := zu_w32_id (z := (m0 a0 18) + 1) (by omega) (by omega)
    generalize hmm27 : zu_up m0 a0 18 (zu_w32 ((m0 a0 18) + 1)) = m27
    have hIm27 := zi_up hmm27 hIm0 hc0 zb_24_18 (by omega) (by omega)
    have hFm27 := zfr_up hmm27 hFm0 hc0 rfl
    have r28 : 0 ≤ (m27 a0 18) ∧ (m27 a0 18) ≤ 4 := zi_rd hIm27 hc0 zb_24_18
    have e29 : (m27 a0 18) = (zu_w32 ((m0 a0 18) + 1)) := (zs_eq hmm27)
    have hM : ((m0 a0 18) - 0) * 1 + 0 < ((5 : Nat) : Int) := by omega
    exact (zl_295 n (m0 := m0) hc0 5) (m0 a0 18) m27 hIm27 hFm27 ⟨by omega, by omega⟩ ⟨by omega, by omega⟩ ⟨by omega, by omega⟩ hM
set_option maxHeartbeats 4000000 in
theorem zk_296 (n : Nat) {a0 a1 a2 : Int} {m0 : zu_m} (hIm0 : zi_I m0) (hc0 : zcls a0 = 24) (ha1 : 0 ≤ a1 ∧ a1 ≤ 3) (ha2 : 0 ≤ a2 ∧ a2 ≤ 3)     : zw (zu_call (zt_T n) 296 [(33, a0), (0, a1), (0, a2)] m0) (fun v m => zi_I m ∧ zfr [] m0 m ∧ (0 ≤ v ∧ v ≤ 999000)) := by
  have hFm0 : zfr [] m0 m0 := zfr_rf _ _
  refine zw_eq (zu_call_at (zt_T n) (zm_296 n) (zdp_296 n) _ _ _ _ _ rfl (zr_296_0 n _ _ a0 a1 a2 m0)) ?_
  refine zw_ite (fun h1 => ?_) (fun h1 => ?_)
  · have b2 : 0 ≤ a1 ∧ a1 < 4 := by omega
    refine zw_if b2 ?_
    have r3 : 0 ≤ (m0 162 a1) ∧ (m0 162 a1) ≤ 999000 := zi_rd hIm0 zq_162 (zb_93 _)
    exact zw_some ⟨hIm0, hFm0, ⟨by omega, by omega⟩⟩
  · have b4 : 0 ≤ a1 ∧ a1 < 4 := by omega
    refine zw_if b4 ?_
    have r5 : 0 ≤ (m0 162 a1) ∧ (m0 162 a1) ≤ 999000 := zi_rd hIm0 zq_162 (zb_93 _)
    refine zw_nif (by omega) ?_
    have d6 : Int.tdiv (m0 162 a1) 2 = (m0 162 a1) / 2 := Int.tdiv_eq_ediv_of_nonneg (by omega)
    have w7 := zu_w32_id (z := Int.tdiv (m0 162 a1) 2) (by omega) (by omega)
    exact zw_some ⟨hIm0, hFm0, ⟨by omega, by omega⟩⟩
set_option maxHeartbeats 4000000 in
theorem zl_306 (n : Nat) {a0 : Int} {m0 : zu_m} (hc0 : zcls a0 = 23)   : ∀ k : Nat, (∀ (x1 : Int) (mh : zu_m), zi_I mh → zfr [(23, 5), (81, 0), (82, 0), (83, 0), (84, 0)] m0 mh → (1 ≤ x1 ∧ x1 ≤ 20) → (20 ≤ mh a0 4 ∧ mh a0 4 ≤ 20) → (zdr m0 mh 149 x1) → (zdr m0 mh 151 x1) → ((mh a0 4) = (m0 a0 4)) → (20 - x1) * 1 + 0 < (k : Int) → zw (zu_ex (zt_T n) 306 2 [(31, a0), (0, x1)] [] mh) (fun v m => zi_I m ∧ zfr [(23, 5), (81, 0), (82, 0), (83, 0), (84, 0)] m0 m ∧ True ∧ (19 ≤ m a0 4 ∧ m a0 4 ≤ 19) ∧ (∀ s, zUN m0 s → zUN m s) ∧ (zR_UW m0 → zR_UW m))) := by
  intro k
  induction k with
  | zero => exact fun x1 mh hImh hFmh hbx1 hg1 hH0 hH1 hH2 hM => by exfalso; omega
  | succ k ih =>
    intro x1 mh hImh hFmh hbx1 hg1 hH0 hH1 hH2 hM
    refine zw_eq (zu_rega_at (zt_T n) (zm_306 n) (zdp_306 n) _ _ _ _ _ _ (zr_306_2 n _ _ a0 x1 mh)) ?_
    refine zw_ite (fun h1 => ?_) (fun h1 => ?_)
    · have w2 := zu_w32_id (z := (mh a0 4) - 1) (by omega) (by omega)
      generalize hmm3 : zu_up mh a0 4 (zu_w32 ((mh a0 4) - 1)) = m3
      have hIm3 := zi_up hmm3 hImh hc0 zb_23_4 (by omega) (by omega)
      have hFm3 := zfr_up hmm3 hFmh hc0 rfl
      have hun : ∀ s, zUN m0 s → zUN m3 s := fun s h => zUN_drop (zone_148 hc0) hH0 (by omega) (zfr_ap hFmh zq_89 rfl) (by omega) hmm3 (by omega) h
      have huw : zR_UW m0 → zR_UW m3 := fun h => zUW_drop (zone_148 hc0) hH0 hH1 (by omega) (zfr_ap hFmh zq_50 rfl) (by omega) hmm3 (by omega) h
      have r4 : 0 ≤ (m3 a0 4) ∧ (m3 a0 4) ≤ 20 := zi_rd hIm3 hc0 zb_23_4
      have e5 : (m3 a0 4) = (zu_w32 ((mh a0 4) - 1)) := (zs_eq hmm3)
      exact zw_some ⟨hIm3, hFm3, trivial, ⟨by omega, by omega⟩, hun, huw⟩
    · have w6 := zu_w32_id (z := x1 - 1) (by omega) (by omega)
      have b7 : 0 ≤ x1 ∧ x1 < 20 := by omega
      refine zw_if b7 ?_
      have r8 : 0 ≤ (mh 149 x1) ∧ (mh 149 x1) ≤ 3 := zi_rd hImh zq_149 (zb_81 _)
      have b9 : 0 ≤ (zu_w32 (x1 - 1)) ∧ (zu_w32 (x1 - 1)) < 20 := by omega
      refine zw_if b9 ?_
      generalize hmm10 : zu_up mh 149 (zu_w32 (x1 - 1)) (mh 149 x1) = m10
      have hIm10 := zi_up hmm10 hImh zq_149 (zb_81 _) (by omega) (by omega)
      have hFm10 := zfr_up hmm10 hFmh zq_149 rfl
      have b11 : 0 ≤ x1 ∧ x1 < 20 := by omega
      refine zw_if b11 ?_
      have r12 : 0 ≤ (m10 150 x1) ∧ (m10 150 x1) ≤ 3 := zi_rd hIm10 zq_150 (zb_82 _)
      have b13 : 0 ≤ (zu_w32 (x1 - 1)) ∧ (zu_w32 (x1 - 1)) < 20 := by omega
      refine zw_if b13 ?_
      generalize hmm14 : zu_up m10 150 (zu_w32 (x1 - 1)) (m10 150 x1) = m14
      have hIm14 := zi_up hmm14 hIm10 zq_150 (zb_82 _) (by omega) (by omega)
      have hFm14 := zfr_up hmm14 hFm10 zq_150 rfl
      have b15 : 0 ≤ x1 ∧ x1 < 20 := by omega
      refine zw_if b15 ?_
      have r16 : 0 ≤ (m14 151 x1) ∧ (m14 151 x1) ≤ 47 := zi_rd hIm14 zq_151 (zb_83 _)
      have b17 : 0 ≤ (zu_w32 (x1 - 1)) ∧ (zu_w32 (x1 - 1)) < 20 := by omega
      refine zw_if b17 ?_
      generalize hmm18 : zu_up m14 151 (zu_w32 (x1 - 1)) (m14 151 x1) = m18
      have hIm18 := zi_up hmm18 hIm14 zq_151 (zb_83 _) (by omega) (by omega)
      have hFm18 := zfr_up hmm18 hFm14 zq_151 rfl
      have b19 : 0 ≤ x1 ∧ x1 < 20 := by omega
      refine zw_if b19 ?_
      have r20 : 0 ≤ (m18 152 x1) ∧ (m18 152 x1) ≤ 9 := zi_rd hIm18 zq_152 (zb_84 _)
      have b21 : 0 ≤ (zu_w32 (x1 - 1)) ∧ (zu_w32 (x1 - 1)) < 20 := by omega
      refine zw_if b21 ?_
      generalize hmm22 : zu_up m18 152 (zu_w32 (x1 - 1)) (m18 152 x1) = m22
      have hIm22 := zi_up hmm22 hIm18 zq_152 (zb_84 _) (by omega) (by omega)
      have hFm22 := zfr_up hmm22 hFm18 zq_152 rfl
      have w23 := zu_w32_id (z := x1 + 1) (by omega) (by omega)
      have r24 : 0 ≤ (m22 a0 4) ∧ (m22 a0 4) ≤ 20 := zi_rd hIm22 hc0 zb_23_4
      have e25 : (m22 a0 4) = (mh a0 4) := (Eq.trans (zs_ne hmm22 (Or.inl (zc_ne hc0 zq_152 (by decide)))) (Eq.trans (zs_ne hmm18 (Or.inl (zc_ne hc0 zq_151 (by decide)))) (Eq.trans (zs_ne hmm14 (Or.inl (zc_ne hc0 zq_150 (by decide)))) (zs_ne hmm10 (Or.inl (zc_ne hc0 zq_149 (by decide)))))))
      have hM : (20 - (zu_w32 (x1 + 1))) * 1 + 0 < (k : Int) := by omega
      exact ih (zu_w32 (x1 + 1)) m22 hIm22 hFm22 ⟨by omega, by omega⟩ ⟨by omega, by omega⟩ (zdr_mv (zdr_s hmm10 (by omega) rfl (by omega) hH0) (fun _ => (Eq.trans (zs_ne hmm22 (Or.inl (zc_ne zq_149 zq_152 (by decide)))) (Eq.trans (zs_ne hmm18 (Or.inl (zc_ne zq_149 zq_151 (by decide)))) (zs_ne hmm14 (Or.inl (zc_ne zq_149 zq_150 (by decide)))))))) (zdr_mv (zdr_s hmm18 (by omega) rfl (by omega) (zdr_mv hH1 (fun _ => (Eq.trans (zs_ne hmm14 (Or.inl (zc_ne zq_151 zq_150 (by decide)))) (zs_ne hmm10 (Or.inl (zc_ne zq_151 zq_149 (by decide)))))))) (fun _ => (zs_ne hmm22 (Or.inl (zc_ne zq_151 zq_152 (by decide)))))) (by omega) hM
set_option maxHeartbeats 4000000 in
theorem zk_306 (n : Nat) {a0 : Int} {m0 : zu_m} (hIm0 : zi_I m0) (hc0 : zcls a0 = 23)   (he0 : 20 ≤ m0 a0 4 ∧ m0 a0 4 ≤ 20)   : zw (zu_call (zt_T n) 306 [(31, a0)] m0) (fun v m => zi_I m ∧ zfr [(23, 5), (81, 0), (82, 0), (83, 0), (84, 0)] m0 m ∧ True ∧ (19 ≤ m a0 4 ∧ m a0 4 ≤ 19) ∧ (∀ s, zUN m0 s → zUN m s) ∧ (zR_UW m0 → zR_UW m)) := by
  have hFm0 : zfr [(23, 5), (81, 0), (82, 0), (83, 0), (84, 0)] m0 m0 := zfr_rf _ _
  refine zw_eq (zu_call_at (zt_T n) (zm_306 n) (zdp_306 n) _ _ _ _ _ rfl (zr_306_0 n _ _ a0 m0)) ?_
  have hM : (20 - 1) * 1 + 0 < ((20 : Nat) : Int) := by omega
  exact (zl_306 n (m0 := m0) hc0 20) 1 m0 hIm0 hFm0 ⟨by omega, by omega⟩ ⟨by omega, by omega⟩ (zdr_0 rfl) (zdr_0 rfl) (by omega) hM
set_option maxHeartbeats 4000000 in
theorem zl_13 (n : Nat) {a0 : Int} {m0 : zu_m} (hc0 : zcls a0 = 4)   : ∀ k : Nat, (∀ (x1 : Int) (mh : zu_m), zi_I mh → zfr [(4, 1), (4, 2), (4, 3), (4, 4), (4, 5), (4, 6), (5, 6), (5, 7), (30, 0), (31, 0), (32, 0), (35, 0), (36, 0)] m0 mh → (0 ≤ x1 ∧ x1 ≤ 48) → (0 ≤ mh a0 3 ∧ mh a0 3 ≤ 0) → (0 ≤ mh a0 4 ∧ mh a0 4 ≤ 0) → (0 ≤ mh a0 5 ∧ mh a0 5 ≤ 0) → (48 - x1) * 1 + 0 < (k : Int) → zw (zu_ex (zt_T n) 13 24 [(8, a0), (0, x1)] [] mh) (fun v m => zi_I m ∧ zfr [(4, 1), (4, 2), (4, 3), (4, 4), (4, 5), (4, 6), (5, 6), (5, 7), (30, 0), (31, 0), (32, 0), (35, 0), (36, 0)] m0 m ∧ (m 6 2 = m 6 0 * m 6 1) ∧ True ∧ (0 ≤ m a0 3 ∧ m a0 3 ≤ 0) ∧ (0 ≤ m a0 4 ∧ m a0 4 ≤ 0) ∧ (0 ≤ m a0 5 ∧ m a0 5 ≤ 0))) := by
  intro k
  induction k with
  | zero => exact fun x1 mh hImh hFmh hbx1 hg1 hg2 hg3 hM => by exfalso; omega
  | succ k ih =>
    intro x1 mh hImh hFmh hbx1 hg1 hg2 hg3 hM
    refine zw_eq (zu_rega_at (zt_T n) (zm_13 n) (zdp_13 n) _ _ _ _ _ _ (zr_13_24 n _ _ a0 x1 mh)) ?_
    refine zw_ite (fun h1 => ?_) (fun h1 => ?_)
    · refine zw_bd (zw_mono (zk_15_4 n hImh hc0 ⟨by omega, by omega⟩ ⟨by omega, by omega⟩) (fun v3 m2 hqm2 => ?_))
      obtain ⟨hIm2, hfm2, hvm2⟩ := hqm2
      have hFm2 := zfr_tr hFmh hfm2 rfl
      obtain ⟨hRG6m2, hvm2⟩ := hvm2
      have r4 : 0 ≤ (m2 a0 3) ∧ (m2 a0 3) ≤ 6 := zi_rd hIm2 hc0 zb_4_3
      have e5 : (m2 a0 3) = (mh a0 3) := (zfr_ap hfm2 hc0 rfl)
      have r6 : 0 ≤ (m2 a0 4) ∧ (m2 a0 4) ≤ 99 := zi_rd hIm2 hc0 zb_4_4
      have e7 : (m2 a0 4) = (mh a0 4) := (zfr_ap hfm2 hc0 rfl)
      have r8 : 0 ≤ (m2 a0 5) ∧ (m2 a0 5) ≤ 99999 := zi_rd hIm2 hc0 zb_4_5
      have e9 : (m2 a0 5) = (mh a0 5) := (zfr_ap hfm2 hc0 rfl)
      exact zw_some ⟨hIm2, hFm2, hRG6m2, trivial, ⟨by omega, by omega⟩, ⟨by omega, by omega⟩, ⟨by omega, by omega⟩⟩
    · have b10 : 0 ≤ x1 ∧ x1 < 48 := by omega
      refine zw_if b10 ?_
      generalize hmm11 : zu_up mh (a0 + 3) x1 0 = m11
      have hIm11 := zi_up hmm11 hImh (zc_4_8 hc0) (zb_32 _) (by omega) (by omega)
      have hFm11 := zfr_up hmm11 hFmh (zc_4_8 hc0) rfl
      have w12 := zu_w32_id (z := x1 + 1) (by omega) (by omega)
      have r13 : 0 ≤ (m11 a0 3) ∧ (m11 a0 3) ≤ 6 := zi_rd hIm11 hc0 zb_4_3
      have e14 : (m11 a0 3) = (mh a0 3) := (zs_ne hmm11 (Or.inl (zc_ne hc0 (zc_4_8 hc0) (by decide))))
      have r15 : 0 ≤ (m11 a0 4) ∧ (m11 a0 4) ≤ 99 := zi_rd hIm11 hc0 zb_4_4
      have e16 : (m11 a0 4) = (mh a0 4) := (zs_ne hmm11 (Or.inl (zc_ne hc0 (zc_4_8 hc0) (by decide))))
      have r17 : 0 ≤ (m11 a0 5) ∧ (m11 a0 5) ≤ 99999 := zi_rd hIm11 hc0 zb_4_5
      have e18 : (m11 a0 5) = (mh a0 5) := (zs_ne hmm11 (Or.inl (zc_ne hc0 (zc_4_8 hc0) (by decide))))
      have hM : (48 - (zu_w32 (x1 + 1))) * 1 + 0 < (k : Int) := by omega
      exact ih (zu_w32 (x1 + 1)) m11 hIm11 hFm11 ⟨by omega, by omega⟩ ⟨by omega, by omega⟩ ⟨by omega, by omega⟩ ⟨by omega, by omega⟩ hM
set_option maxHeartbeats 4000000 in
theorem zk_13 (n : Nat) {a0 : Int} {m0 : zu_m} (hIm0 : zi_I m0) (hc0 : zcls a0 = 4)      : zw (zu_call (zt_T n) 13 [(8, a0)] m0) (fun v m => zi_I m ∧ zfr [(4, 1), (4, 2), (4, 3), (4, 4), (4, 5), (4, 6), (5, 6), (5, 7), (30, 0), (31, 0), (32, 0), (35, 0), (36, 0)] m0 m ∧ (m 6 2 = m 6 0 * m 6 1) ∧ True ∧ (0 ≤ m a0 3 ∧ m a0 3 ≤ 0) ∧ (0 ≤ m a0 4 ∧ m a0 4 ≤ 0) ∧ (0 ≤ m a0 5 ∧ m a0 5 ≤ 0)) := by
  have hFm0 : zfr [(4, 1), (4, 2), (4, 3), (4, 4), (4, 5), (4, 6), (5, 6), (5, 7), (30, 0), (31, 0), (32, 0), (35, 0), (36, 0)] m0 m0 := zfr_rf _ _
  refine zw_eq (zu_call_at (zt_T n) (zm_13 n) (zdp_13 n) _ _ _ _ _ rfl (zr_13_0 n _ _ a0 m0)) ?_
  generalize hmm19 : zu_up m0 a0 3 0 = m19
  have hIm19 := zi_up hmm19 hIm0 hc0 zb_4_3 (by omega) (by omega)
  have hFm19 := zfr_up hmm19 hFm0 hc0 rfl
  generalize hmm20 : zu_up m19 a0 4 0 = m20
  have hIm20 := zi_up hmm20 hIm19 hc0 zb_4_4 (by omega) (by omega)
  have hFm20 := zfr_up hmm20 hFm19 hc0 rfl
  generalize hmm21 : zu_up m20 a0 5 0 = m21
  have hIm21 := zi_up hmm21 hIm20 hc0 zb_4_5 (by omega) (by omega)
  have hFm21 := zfr_up hmm21 hFm20 hc0 rfl
  refine zw_bd (zw_mono (zk_14 n hIm21 (zc_4_9 hc0)) (fun v23 m22 hqm22 => ?_))
  obtain ⟨hIm22, hfm22, hvm22⟩ := hqm22
  have hFm22 := zfr_tr hFm21 hfm22 rfl
  have r24 : 0 ≤ (m22 a0 3) ∧ (m22 a0 3) ≤ 6 := zi_rd hIm22 hc0 zb_4_3
  have e25 : (m22 a0 3) = 0 := (Eq.trans (zfr_ap hfm22 hc0 rfl) (Eq.trans (zs_ne hmm21 (Or.inr (by decide))) (Eq.trans (zs_ne hmm20 (Or.inr (by decide))) (zs_eq hmm19))))
  have r26 : 0 ≤ (m22 a0 4) ∧ (m22 a0 4) ≤ 99 := zi_rd hIm22 hc0 zb_4_4
  have e27 : (m22 a0 4) = 0 := (Eq.trans (zfr_ap hfm22 hc0 rfl) (Eq.trans (zs_ne hmm21 (Or.inr (by decide))) (zs_eq hmm20)))
  have r28 : 0 ≤ (m22 a0 5) ∧ (m22 a0 5) ≤ 99999 := zi_rd hIm22 hc0 zb_4_5
  have e29 : (m22 a0 5) = 0 := (Eq.trans (zfr_ap hfm22 hc0 rfl) (zs_eq hmm21))
  have hM : (48 - 0) * 1 + 0 < ((49 : Nat) : Int) := by omega
  exact (zl_13 n (m0 := m0) hc0 49) 0 m22 hIm22 hFm22 ⟨by omega, by omega⟩ ⟨by omega, by omega⟩ ⟨by omega, by omega⟩ ⟨by omega, by omega⟩ hM
set_option maxHeartbeats 4000000 in
theorem zl_18 (n : Nat) {a0 : Int} {m0 : zu_m} (hc0 : zcls a0 = 9)   : ∀ k : Nat, (∀ (mh : zu_m), zi_I mh → zfr [(9, 4), (9, 5), (9, 6), (9, 7)] m0 mh → (700 - (mh a0 3)) * 1 + 0 < (k : Int) → zw (zu_ex (zt_T n) 18 0 [(22, a0)] [] mh) (fun v m => zi_I m ∧ zfr [(9, 4), (9, 5), (9, 6), (9, 7)] m0 m ∧ zR_TV m ∧ True)) := by
  intro k
  induction k with
  | zero => exact fun mh hImh hFmh hM => by exfalso; omega
  | succ k ih =>
    intro mh hImh hFmh hM
    refine zw_eq (zu_rega_at (zt_T n) (zm_18 n) (zdp_18 n) _ _ _ _ _ _ (zr_18_0 n _ _ a0 mh)) ?_
    have r1 : 0 ≤ (mh a0 3) ∧ (mh a0 3) ≤ 700 := zi_rd hImh hc0 zb_9_3
    have r2 : 0 ≤ (mh a0 2) ∧ (mh a0 2) ≤ 700 := zi_rd hImh hc0 zb_9_2
    refine zw_ite (fun h3 => ?_) (fun h3 => ?_)
    · generalize hmm4 : zu_up mh a0 6 (mh a0 3) = m4
      have hIm4 := zi_up hmm4 hImh hc0 zb_9_6 (by omega) (by omega)
      have hFm4 := zfr_up hmm4 hFmh hc0 rfl
      have r5 : 0 ≤ (m4 a0 3) ∧ (m4 a0 3) ≤ 700 := zi_rd hIm4 hc0 zb_9_3
      have e6 : (m4 a0 3) = (mh a0 3) := (zs_ne hmm4 (Or.inr (by decide)))
      have r7 : 0 ≤ (m4 a0 2) ∧ (m4 a0 2) ≤ 700 := zi_rd hIm4 hc0 zb_9_2
      have e8 : (m4 a0 2) = (mh a0 2) := (zs_ne hmm4 (Or.inr (by decide)))
      refine zw_ite (fun h9 => ?_) (fun h9 => ?_)
      · exfalso; omega
      · generalize hmm10 : zu_up m4 a0 4 0 = m10
        have hIm10 := zi_up hmm10 hIm4 hc0 zb_9_4 (by omega) (by omega)
        have hFm10 := zfr_up hmm10 hFm4 hc0 rfl
        have r11 : 0 ≤ (m10 a0 4) ∧ (m10 a0 4) ≤ 5 := zi_rd hIm10 hc0 zb_9_4
        have e12 : (m10 a0 4) = 0 := (zs_eq hmm10)
        have r13 : (-2147483648) ≤ (m10 a0 5) ∧ (m10 a0 5) ≤ 2147483647 := zi_rd hIm10 hc0 zb_9_5
        have hRTVm10 := zR_TV_of hc0 (show m10 a0 4 = 4 → (0 ≤ m10 a0 5 ∧ m10 a0 5 ≤ 12) by omega)
        exact zw_some ⟨hIm10, hFm10, hRTVm10, trivial⟩
    · have b14 : 0 ≤ (mh a0 3) ∧ (mh a0 3) < 700 := by omega
      refine zw_if b14 ?_
      have r15 : (-2147483648) ≤ (mh 4 (mh a0 3)) ∧ (mh 4 (mh a0 3)) ≤ 2147483647 := zi_rd hImh zq_4 (zb_29 _)
      refine zw_ite (fun h16 => ?_) (fun h16 => ?_)
      · have w17 := zu_w32_id (z := (mh a0 3) + 1) (by omega) (by omega)
        generalize hmm18 : zu_up mh a0 3 (zu_w32 ((mh a0 3) + 1)) = m18
        have hIm18 := zi_up hmm18 hImh hc0 zb_9_3 (by omega) (by omega)
        have hFm18 := zfr_up hmm18 hFmh hc0 rfl
        have r19 : 0 ≤ (m18 a0 3) ∧ (m18 a0 3) ≤ 700 := zi_rd hIm18 hc0 zb_9_3
        have e20 : (m18 a0 3) = (zu_w32 ((mh a0 3) + 1)) := (zs_eq hmm18)
        have hM : (700 - (m18 a0 3)) * 1 + 0 < (k : Int) := by omega
        exact ih  m18 hIm18 hFm18  hM
      · have b21 : 0 ≤ (mh a0 3) ∧ (mh a0 3) < 700 := by omega
        refine zw_if b21 ?_
        refine zw_ite (fun h22 => ?_) (fun h22 => ?_)
        · generalize hmm23 : zu_up mh a0 6 (mh a0 3) = m23
          have hIm23 := zi_up hmm23 hImh hc0 zb_9_6 (by omega) (by omega)
          have hFm23 := zfr_up hmm23 hFmh hc0 rfl
          have r24 : 0 ≤ (m23 a0 3) ∧ (m23 a0 3) ≤ 700 := zi_rd hIm23 hc0 zb_9_3
          have e25 : (m23 a0 3) = (mh a0 3) := (zs_ne hmm23 (Or.inr (by decide)))
          have r26 : 0 ≤ (m23 a0 2) ∧ (m23 a0 2) ≤ 700 := zi_rd hIm23 hc0 zb_9_2
          have e27 : (m23 a0 2) = (mh a0 2) := (zs_ne hmm23 (Or.inr (by decide)))
          refine zw_ite (fun h28 => ?_) (fun h28 => ?_)
          · have b29 : 0 ≤ (m23 a0 3) ∧ (m23 a0 3) < 700 := by omega
            refine zw_if b29 ?_
            have r30 : (-2147483648) ≤ (m23 4 (m23 a0 3)) ∧ (m23 4 (m23 a0 3)) ≤ 2147483647 := zi_rd hIm23 zq_4 (zb_29 _)
            refine zw_ite (fun h31 => ?_) (fun h31 => ?_)
            · have b32 : 0 ≤ (m23 a0 3) ∧ (m23 a0 3) < 700 := by omega
              refine zw_if b32 ?_
              refine zw_ite (fun h33 => ?_) (fun h33 => ?_)
              · have b34 : 0 ≤ (m23 a0 3) ∧ (m23 a0 3) < 700 := by omega
                refine zw_if b34 ?_
                refine zw_bd (zw_mono (zk_283 n hIm23 ⟨by omega, by omega⟩) (fun v36 m35 hqm35 => ?_))
                obtain ⟨hIm35, hfm35, hvm35⟩ := hqm35
                have hFm35 := zfr_tr hFm23 hfm35 rfl
                generalize hmm37 : zu_up m35 a0 5 v36 = m37
                have hIm37 := zi_up hmm37 hIm35 hc0 zb_9_5 (by omega) (by omega)
                have hFm37 := zfr_up hmm37 hFm35 hc0 rfl
                have r38 : (-2147483648) ≤ (m37 a0 5) ∧ (m37 a0 5) ≤ 2147483647 := zi_rd hIm37 hc0 zb_9_5
                have e39 : (m37 a0 5) = v36 := (zs_eq hmm37)
                refine zw_ite (fun h40 => ?_) (fun h40 => ?_)
                · generalize hmm41 : zu_up m37 a0 4 4 = m41
                  have hIm41 := zi_up hmm41 hIm37 hc0 zb_9_4 (by omega) (by omega)
                  have hFm41 := zfr_up hmm41 hFm37 hc0 rfl
                  have r42 : 0 ≤ (m41 a0 3) ∧ (m41 a0 3) ≤ 700 := zi_rd hIm41 hc0 zb_9_3
                  have e43 : (m41 a0 3) = (m23 a0 3) := (Eq.trans (zs_ne hmm41 (Or.inr (by decide))) (Eq.trans (zs_ne hmm37 (Or.inr (by decide))) (zfr_ap hfm35 hc0 rfl)))
                  have w44 := zu_w32_id (z := (m41 a0 3) + 1) (by omega) (by omega)
                  generalize hmm45 : zu_up m41 a0 3 (zu_w32 ((m41 a0 3) + 1)) = m45
                  have hIm45 := zi_up hmm45 hIm41 hc0 zb_9_3 (by omega) (by omega)
                  have hFm45 := zfr_up hmm45 hFm41 hc0 rfl
                  have r46 : 0 ≤ (m45 a0 3) ∧ (m45 a0 3) ≤ 700 := zi_rd hIm45 hc0 zb_9_3
                  have e47 : (m45 a0 3) = (zu_w32 ((m41 a0 3) + 1)) := (zs_eq hmm45)
                  have r48 : 0 ≤ (m45 a0 2) ∧ (m45 a0 2) ≤ 700 := zi_rd hIm45 hc0 zb_9_2
                  have e49 : (m45 a0 2) = (m23 a0 2) := (Eq.trans (zs_ne hmm45 (Or.inr (by decide))) (Eq.trans (zs_ne hmm41 (Or.inr (by decide))) (Eq.trans (zs_ne hmm37 (Or.inr (by decide))) (zfr_ap hfm35 hc0 rfl))))
                  have r50 : (-2147483648) ≤ (m45 a0 5) ∧ (m45 a0 5) ≤ 2147483647 := zi_rd hIm45 hc0 zb_9_5
                  have e51 : (m45 a0 5) = (m37 a0 5) := (Eq.trans (zs_ne hmm45 (Or.inr (by decide))) (zs_ne hmm41 (Or.inr (by decide))))
                  refine zw_bd (zw_mono (zk_282 n hIm45 hc0 ⟨by omega, by omega⟩ ⟨by omega, by omega⟩ ⟨by omega, by omega⟩) (fun v53 m52 hqm52 => ?_))
                  obtain ⟨hIm52, hfm52, hvm52⟩ := hqm52
                  have hFm52 := zfr_tr hFm45 hfm52 rfl
                  have r54 : 0 ≤ (m52 a0 4) ∧ (m52 a0 4) ≤ 5 := zi_rd hIm52 hc0 zb_9_4
                  have e55 : (m52 a0 4) = 4 := (Eq.trans (zfr_ap hfm52 hc0 rfl) (Eq.trans (zs_ne hmm45 (Or.inr (by decide))) (zs_eq hmm41)))
                  have hRTVm52 := zR_TV_of hc0 (show m52 a0 4 = 4 → (0 ≤ m52 a0 5 ∧ m52 a0 5 ≤ 12) by omega)
                  exact zw_some ⟨hIm52, hFm52, hRTVm52, trivial⟩
                · generalize hmm56 : zu_up m37 a0 4 5 = m56
                  have hIm56 := zi_up hmm56 hIm37 hc0 zb_9_4 (by omega) (by omega)
                  have hFm56 := zfr_up hmm56 hFm37 hc0 rfl
                  have r57 : 0 ≤ (m56 a0 3) ∧ (m56 a0 3) ≤ 700 := zi_rd hIm56 hc0 zb_9_3
                  have e58 : (m56 a0 3) = (m23 a0 3) := (Eq.trans (zs_ne hmm56 (Or.inr (by decide))) (Eq.trans (zs_ne hmm37 (Or.inr (by decide))) (zfr_ap hfm35 hc0 rfl)))
                  have w59 := zu_w32_id (z := (m56 a0 3) + 1) (by omega) (by omega)
                  generalize hmm60 : zu_up m56 a0 3 (zu_w32 ((m56 a0 3) + 1)) = m60
                  have hIm60 := zi_up hmm60 hIm56 hc0 zb_9_3 (by omega) (by omega)
                  have hFm60 := zfr_up hmm60 hFm56 hc0 rfl
                  have r61 : 0 ≤ (m60 a0 3) ∧ (m60 a0 3) ≤ 700 := zi_rd hIm60 hc0 zb_9_3
                  have e62 : (m60 a0 3) = (zu_w32 ((m56 a0 3) + 1)) := (zs_eq hmm60)
                  have r63 : 0 ≤ (m60 a0 2) ∧ (m60 a0 2) ≤ 700 := zi_rd hIm60 hc0 zb_9_2
                  have e64 : (m60 a0 2) = (m23 a0 2) := (Eq.trans (zs_ne hmm60 (Or.inr (by decide))) (Eq.trans (zs_ne hmm56 (Or.inr (by decide))) (Eq.trans (zs_ne hmm37 (Or.inr (by decide))) (zfr_ap hfm35 hc0 rfl))))
                  have r65 : (-2147483648) ≤ (m60 a0 5) ∧ (m60 a0 5) ≤ 2147483647 := zi_rd hIm60 hc0 zb_9_5
                  have e66 : (m60 a0 5) = (m37 a0 5) := (Eq.trans (zs_ne hmm60 (Or.inr (by decide))) (zs_ne hmm56 (Or.inr (by decide))))
                  refine zw_bd (zw_mono (zk_282 n hIm60 hc0 ⟨by omega, by omega⟩ ⟨by omega, by omega⟩ ⟨by omega, by omega⟩) (fun v68 m67 hqm67 => ?_))
                  obtain ⟨hIm67, hfm67, hvm67⟩ := hqm67
                  have hFm67 := zfr_tr hFm60 hfm67 rfl
                  have r69 : 0 ≤ (m67 a0 4) ∧ (m67 a0 4) ≤ 5 := zi_rd hIm67 hc0 zb_9_4
                  have e70 : (m67 a0 4) = 5 := (Eq.trans (zfr_ap hfm67 hc0 rfl) (Eq.trans (zs_ne hmm60 (Or.inr (by decide))) (zs_eq hmm56)))
                  have hRTVm67 := zR_TV_of hc0 (show m67 a0 4 = 4 → (0 ≤ m67 a0 5 ∧ m67 a0 5 ≤ 12) by omega)
                  exact zw_some ⟨hIm67, hFm67, hRTVm67, trivial⟩
              · have b71 : 0 ≤ (m23 a0 3) ∧ (m23 a0 3) < 700 := by omega
                refine zw_if b71 ?_
                refine zw_ite (fun h72 => ?_) (fun h72 => ?_)
                · have b73 : 0 ≤ (m23 a0 3) ∧ (m23 a0 3) < 700 := by omega
                  refine zw_if b73 ?_
                  refine zw_bd (zw_mono (zk_283 n hIm23 ⟨by omega, by omega⟩) (fun v75 m74 hqm74 => ?_))
                  obtain ⟨hIm74, hfm74, hvm74⟩ := hqm74
                  have hFm74 := zfr_tr hFm23 hfm74 rfl
                  generalize hmm76 : zu_up m74 a0 5 v75 = m76
                  have hIm76 := zi_up hmm76 hIm74 hc0 zb_9_5 (by omega) (by omega)
                  have hFm76 := zfr_up hmm76 hFm74 hc0 rfl
                  have r77 : (-2147483648) ≤ (m76 a0 5) ∧ (m76 a0 5) ≤ 2147483647 := zi_rd hIm76 hc0 zb_9_5
                  have e78 : (m76 a0 5) = v75 := (zs_eq hmm76)
                  refine zw_ite (fun h79 => ?_) (fun h79 => ?_)
                  · generalize hmm80 : zu_up m76 a0 4 4 = m80
                    have hIm80 := zi_up hmm80 hIm76 hc0 zb_9_4 (by omega) (by omega)
                    have hFm80 := zfr_up hmm80 hFm76 hc0 rfl
                    have r81 : 0 ≤ (m80 a0 3) ∧ (m80 a0 3) ≤ 700 := zi_rd hIm80 hc0 zb_9_3
                    have e82 : (m80 a0 3) = (m23 a0 3) := (Eq.trans (zs_ne hmm80 (Or.inr (by decide))) (Eq.trans (zs_ne hmm76 (Or.inr (by decide))) (zfr_ap hfm74 hc0 rfl)))
                    have w83 := zu_w32_id (z := (m80 a0 3) + 1) (by omega) (by omega)
                    generalize hmm84 : zu_up m80 a0 3 (zu_w32 ((m80 a0 3) + 1)) = m84
                    have hIm84 := zi_up hmm84 hIm80 hc0 zb_9_3 (by omega) (by omega)
                    have hFm84 := zfr_up hmm84 hFm80 hc0 rfl
                    have r85 : 0 ≤ (m84 a0 3) ∧ (m84 a0 3) ≤ 700 := zi_rd hIm84 hc0 zb_9_3
                    have e86 : (m84 a0 3) = (zu_w32 ((m80 a0 3) + 1)) := (zs_eq hmm84)
                    have r87 : 0 ≤ (m84 a0 2) ∧ (m84 a0 2) ≤ 700 := zi_rd hIm84 hc0 zb_9_2
                    have e88 : (m84 a0 2) = (m23 a0 2) := (Eq.trans (zs_ne hmm84 (Or.inr (by decide))) (Eq.trans (zs_ne hmm80 (Or.inr (by decide))) (Eq.trans (zs_ne hmm76 (Or.inr (by decide))) (zfr_ap hfm74 hc0 rfl))))
                    have r89 : (-2147483648) ≤ (m84 a0 5) ∧ (m84 a0 5) ≤ 2147483647 := zi_rd hIm84 hc0 zb_9_5
                    have e90 : (m84 a0 5) = (m76 a0 5) := (Eq.trans (zs_ne hmm84 (Or.inr (by decide))) (zs_ne hmm80 (Or.inr (by decide))))
                    refine zw_bd (zw_mono (zk_282 n hIm84 hc0 ⟨by omega, by omega⟩ ⟨by omega, by omega⟩ ⟨by omega, by omega⟩) (fun v92 m91 hqm91 => ?_))
                    obtain ⟨hIm91, hfm91, hvm91⟩ := hqm91
                    have hFm91 := zfr_tr hFm84 hfm91 rfl
                    have r93 : 0 ≤ (m91 a0 4) ∧ (m91 a0 4) ≤ 5 := zi_rd hIm91 hc0 zb_9_4
                    have e94 : (m91 a0 4) = 4 := (Eq.trans (zfr_ap hfm91 hc0 rfl) (Eq.trans (zs_ne hmm84 (Or.inr (by decide))) (zs_eq hmm80)))
                    have hRTVm91 := zR_TV_of hc0 (show m91 a0 4 = 4 → (0 ≤ m91 a0 5 ∧ m91 a0 5 ≤ 12) by omega)
                    exact zw_some ⟨hIm91, hFm91, hRTVm91, trivial⟩
                  · generalize hmm95 : zu_up m76 a0 4 5 = m95
                    have hIm95 := zi_up hmm95 hIm76 hc0 zb_9_4 (by omega) (by omega)
                    have hFm95 := zfr_up hmm95 hFm76 hc0 rfl
                    have r96 : 0 ≤ (m95 a0 3) ∧ (m95 a0 3) ≤ 700 := zi_rd hIm95 hc0 zb_9_3
                    have e97 : (m95 a0 3) = (m23 a0 3) := (Eq.trans (zs_ne hmm95 (Or.inr (by decide))) (Eq.trans (zs_ne hmm76 (Or.inr (by decide))) (zfr_ap hfm74 hc0 rfl)))
                    have w98 := zu_w32_id (z := (m95 a0 3) + 1) (by omega) (by omega)
                    generalize hmm99 : zu_up m95 a0 3 (zu_w32 ((m95 a0 3) + 1)) = m99
                    have hIm99 := zi_up hmm99 hIm95 hc0 zb_9_3 (by omega) (by omega)
                    have hFm99 := zfr_up hmm99 hFm95 hc0 rfl
                    have r100 : 0 ≤ (m99 a0 3) ∧ (m99 a0 3) ≤ 700 := zi_rd hIm99 hc0 zb_9_3
                    have e101 : (m99 a0 3) = (zu_w32 ((m95 a0 3) + 1)) := (zs_eq hmm99)
                    have r102 : 0 ≤ (m99 a0 2) ∧ (m99 a0 2) ≤ 700 := zi_rd hIm99 hc0 zb_9_2
                    have e103 : (m99 a0 2) = (m23 a0 2) := (Eq.trans (zs_ne hmm99 (Or.inr (by decide))) (Eq.trans (zs_ne hmm95 (Or.inr (by decide))) (Eq.trans (zs_ne hmm76 (Or.inr (by decide))) (zfr_ap hfm74 hc0 rfl))))
                    have r104 : (-2147483648) ≤ (m99 a0 5) ∧ (m99 a0 5) ≤ 2147483647 := zi_rd hIm99 hc0 zb_9_5
                    have e105 : (m99 a0 5) = (m76 a0 5) := (Eq.trans (zs_ne hmm99 (Or.inr (by decide))) (zs_ne hmm95 (Or.inr (by decide))))
                    refine zw_bd (zw_mono (zk_282 n hIm99 hc0 ⟨by omega, by omega⟩ ⟨by omega, by omega⟩ ⟨by omega, by omega⟩) (fun v107 m106 hqm106 => ?_))
                    obtain ⟨hIm106, hfm106, hvm106⟩ := hqm106
                    have hFm106 := zfr_tr hFm99 hfm106 rfl
                    have r108 : 0 ≤ (m106 a0 4) ∧ (m106 a0 4) ≤ 5 := zi_rd hIm106 hc0 zb_9_4
                    have e109 : (m106 a0 4) = 5 := (Eq.trans (zfr_ap hfm106 hc0 rfl) (Eq.trans (zs_ne hmm99 (Or.inr (by decide))) (zs_eq hmm95)))
                    have hRTVm106 := zR_TV_of hc0 (show m106 a0 4 = 4 → (0 ≤ m106 a0 5 ∧ m106 a0 5 ≤ 12) by omega)
                    exact zw_some ⟨hIm106, hFm106, hRTVm106, trivial⟩
                · refine zw_bd (zw_mono (zk_281 n hIm23 hc0) (fun v111 m110 hqm110 => ?_))
                  obtain ⟨hIm110, hfm110, hvm110⟩ := hqm110
                  have hFm110 := zfr_tr hFm23 hfm110 rfl
                  have hRTVm110 := zR_TV_of hc0 (show m110 a0 4 = 4 → (0 ≤ m110 a0 5 ∧ m110 a0 5 ≤ 12) by omega)
                  exact zw_some ⟨hIm110, hFm110, hRTVm110, trivial⟩
            · have b112 : 0 ≤ (m23 a0 3) ∧ (m23 a0 3) < 700 := by omega
              refine zw_if b112 ?_
              refine zw_ite (fun h113 => ?_) (fun h113 => ?_)
              · have b114 : 0 ≤ (m23 a0 3) ∧ (m23 a0 3) < 700 := by omega
                refine zw_if b114 ?_
                refine zw_ite (fun h115 => ?_) (fun h115 => ?_)
                · exfalso; omega
                · have b116 : 0 ≤ (m23 a0 3) ∧ (m23 a0 3) < 700 := by omega
                  refine zw_if b116 ?_
                  refine zw_ite (fun h117 => ?_) (fun h117 => ?_)
                  · have b118 : 0 ≤ (m23 a0 3) ∧ (m23 a0 3) < 700 := by omega
                    refine zw_if b118 ?_
                    refine zw_bd (zw_mono (zk_283 n hIm23 ⟨by omega, by omega⟩) (fun v120 m119 hqm119 => ?_))
                    obtain ⟨hIm119, hfm119, hvm119⟩ := hqm119
                    have hFm119 := zfr_tr hFm23 hfm119 rfl
                    generalize hmm121 : zu_up m119 a0 5 v120 = m121
                    have hIm121 := zi_up hmm121 hIm119 hc0 zb_9_5 (by omega) (by omega)
                    have hFm121 := zfr_up hmm121 hFm119 hc0 rfl
                    have r122 : (-2147483648) ≤ (m121 a0 5) ∧ (m121 a0 5) ≤ 2147483647 := zi_rd hIm121 hc0 zb_9_5
                    have e123 : (m121 a0 5) = v120 := (zs_eq hmm121)
                    refine zw_ite (fun h124 => ?_) (fun h124 => ?_)
                    · generalize hmm125 : zu_up m121 a0 4 4 = m125
                      have hIm125 := zi_up hmm125 hIm121 hc0 zb_9_4 (by omega) (by omega)
                      have hFm125 := zfr_up hmm125 hFm121 hc0 rfl
                      have r126 : 0 ≤ (m125 a0 3) ∧ (m125 a0 3) ≤ 700 := zi_rd hIm125 hc0 zb_9_3
                      have e127 : (m125 a0 3) = (m23 a0 3) := (Eq.trans (zs_ne hmm125 (Or.inr (by decide))) (Eq.trans (zs_ne hmm121 (Or.inr (by decide))) (zfr_ap hfm119 hc0 rfl)))
                      have w128 := zu_w32_id (z := (m125 a0 3) + 1) (by omega) (by omega)
                      generalize hmm129 : zu_up m125 a0 3 (zu_w32 ((m125 a0 3) + 1)) = m129
                      have hIm129 := zi_up hmm129 hIm125 hc0 zb_9_3 (by omega) (by omega)
                      have hFm129 := zfr_up hmm129 hFm125 hc0 rfl
                      have r130 : 0 ≤ (m129 a0 3) ∧ (m129 a0 3) ≤ 700 := zi_rd hIm129 hc0 zb_9_3
                      have e131 : (m129 a0 3) = (zu_w32 ((m125 a0 3) + 1)) := (zs_eq hmm129)
                      have r132 : 0 ≤ (m129 a0 2) ∧ (m129 a0 2) ≤ 700 := zi_rd hIm129 hc0 zb_9_2
                      have e133 : (m129 a0 2) = (m23 a0 2) := (Eq.trans (zs_ne hmm129 (Or.inr (by decide))) (Eq.trans (zs_ne hmm125 (Or.inr (by decide))) (Eq.trans (zs_ne hmm121 (Or.inr (by decide))) (zfr_ap hfm119 hc0 rfl))))
                      have r134 : (-2147483648) ≤ (m129 a0 5) ∧ (m129 a0 5) ≤ 2147483647 := zi_rd hIm129 hc0 zb_9_5
                      have e135 : (m129 a0 5) = (m121 a0 5) := (Eq.trans (zs_ne hmm129 (Or.inr (by decide))) (zs_ne hmm125 (Or.inr (by decide))))
                      refine zw_bd (zw_mono (zk_282 n hIm129 hc0 ⟨by omega, by omega⟩ ⟨by omega, by omega⟩ ⟨by omega, by omega⟩) (fun v137 m136 hqm136 => ?_))
                      obtain ⟨hIm136, hfm136, hvm136⟩ := hqm136
                      have hFm136 := zfr_tr hFm129 hfm136 rfl
                      have r138 : 0 ≤ (m136 a0 4) ∧ (m136 a0 4) ≤ 5 := zi_rd hIm136 hc0 zb_9_4
                      have e139 : (m136 a0 4) = 4 := (Eq.trans (zfr_ap hfm136 hc0 rfl) (Eq.trans (zs_ne hmm129 (Or.inr (by decide))) (zs_eq hmm125)))
                      have hRTVm136 := zR_TV_of hc0 (show m136 a0 4 = 4 → (0 ≤ m136 a0 5 ∧ m136 a0 5 ≤ 12) by omega)
                      exact zw_some ⟨hIm136, hFm136, hRTVm136, trivial⟩
                    · generalize hmm140 : zu_up m121 a0 4 5 = m140
                      have hIm140 := zi_up hmm140 hIm121 hc0 zb_9_4 (by omega) (by omega)
                      have hFm140 := zfr_up hmm140 hFm121 hc0 rfl
                      have r141 : 0 ≤ (m140 a0 3) ∧ (m140 a0 3) ≤ 700 := zi_rd hIm140 hc0 zb_9_3
                      have e142 : (m140 a0 3) = (m23 a0 3) := (Eq.trans (zs_ne hmm140 (Or.inr (by decide))) (Eq.trans (zs_ne hmm121 (Or.inr (by decide))) (zfr_ap hfm119 hc0 rfl)))
                      have w143 := zu_w32_id (z := (m140 a0 3) + 1) (by omega) (by omega)
                      generalize hmm144 : zu_up m140 a0 3 (zu_w32 ((m140 a0 3) + 1)) = m144
                      have hIm144 := zi_up hmm144 hIm140 hc0 zb_9_3 (by omega) (by omega)
                      have hFm144 := zfr_up hmm144 hFm140 hc0 rfl
                      have r145 : 0 ≤ (m144 a0 3) ∧ (m144 a0 3) ≤ 700 := zi_rd hIm144 hc0 zb_9_3
                      have e146 : (m144 a0 3) = (zu_w32 ((m140 a0 3) + 1)) := (zs_eq hmm144)
                      have r147 : 0 ≤ (m144 a0 2) ∧ (m144 a0 2) ≤ 700 := zi_rd hIm144 hc0 zb_9_2
                      have e148 : (m144 a0 2) = (m23 a0 2) := (Eq.trans (zs_ne hmm144 (Or.inr (by decide))) (Eq.trans (zs_ne hmm140 (Or.inr (by decide))) (Eq.trans (zs_ne hmm121 (Or.inr (by decide))) (zfr_ap hfm119 hc0 rfl))))
                      have r149 : (-2147483648) ≤ (m144 a0 5) ∧ (m144 a0 5) ≤ 2147483647 := zi_rd hIm144 hc0 zb_9_5
                      have e150 : (m144 a0 5) = (m121 a0 5) := (Eq.trans (zs_ne hmm144 (Or.inr (by decide))) (zs_ne hmm140 (Or.inr (by decide))))
                      refine zw_bd (zw_mono (zk_282 n hIm144 hc0 ⟨by omega, by omega⟩ ⟨by omega, by omega⟩ ⟨by omega, by omega⟩) (fun v152 m151 hqm151 => ?_))
                      obtain ⟨hIm151, hfm151, hvm151⟩ := hqm151
                      have hFm151 := zfr_tr hFm144 hfm151 rfl
                      have r153 : 0 ≤ (m151 a0 4) ∧ (m151 a0 4) ≤ 5 := zi_rd hIm151 hc0 zb_9_4
                      have e154 : (m151 a0 4) = 5 := (Eq.trans (zfr_ap hfm151 hc0 rfl) (Eq.trans (zs_ne hmm144 (Or.inr (by decide))) (zs_eq hmm140)))
                      have hRTVm151 := zR_TV_of hc0 (show m151 a0 4 = 4 → (0 ≤ m151 a0 5 ∧ m151 a0 5 ≤ 12) by omega)
                      exact zw_some ⟨hIm151, hFm151, hRTVm151, trivial⟩
                  · exfalso; omega
              · have r155 : 0 ≤ (m23 a0 6) ∧ (m23 a0 6) ≤ 700 := zi_rd hIm23 hc0 zb_9_6
                have e156 : (m23 a0 6) = (mh a0 3) := (zs_eq hmm23)
                refine zw_bd (zw_mono (zk_280 n hIm23 hc0 ⟨by omega, by omega⟩ ⟨by omega, by omega⟩ ⟨by omega, by omega⟩) (fun v158 m157 hqm157 => ?_))
                obtain ⟨hIm157, hfm157, hvm157⟩ := hqm157
                have hFm157 := zfr_tr hFm23 hfm157 rfl
                have r159 : (-2147483648) ≤ (m157 a0 5) ∧ (m157 a0 5) ≤ 2147483647 := zi_rd hIm157 hc0 zb_9_5
                have hRTVm157 := zR_TV_of hc0 (show m157 a0 4 = 4 → (0 ≤ m157 a0 5 ∧ m157 a0 5 ≤ 12) by omega)
                exact zw_some ⟨hIm157, hFm157, hRTVm157, trivial⟩
          · generalize hmm160 : zu_up m23 a0 4 0 = m160
            have hIm160 := zi_up hmm160 hIm23 hc0 zb_9_4 (by omega) (by omega)
            have hFm160 := zfr_up hmm160 hFm23 hc0 rfl
            have r161 : 0 ≤ (m160 a0 4) ∧ (m160 a0 4) ≤ 5 := zi_rd hIm160 hc0 zb_9_4
            have e162 : (m160 a0 4) = 0 := (zs_eq hmm160)
            have r163 : (-2147483648) ≤ (m160 a0 5) ∧ (m160 a0 5) ≤ 2147483647 := zi_rd hIm160 hc0 zb_9_5
            have hRTVm160 := zR_TV_of hc0 (show m160 a0 4 = 4 → (0 ≤ m160 a0 5 ∧ m160 a0 5 ≤ 12) by omega)
            exact zw_some ⟨hIm160, hFm160, hRTVm160, trivial⟩
        · have w164 := zu_w32_id (z := (mh a0 3) + 1) (by omega) (by omega)
          generalize hmm165 : zu_up mh a0 3 (zu_w32 ((mh a0 3) + 1)) = m165
          have hIm165 := zi_up hmm165 hImh hc0 zb_9_3 (by omega) (by omega)
          have hFm165 := zfr_up hmm165 hFmh hc0 rfl
          have r166 : 0 ≤ (m165 a0 3) ∧ (m165 a0 3) ≤ 700 := zi_rd hIm165 hc0 zb_9_3
          have e167 : (m165 a0 3) = (zu_w32 ((mh a0 3) + 1)) := (zs_eq hmm165)
          have hM : (700 - (m165 a0 3)) * 1 + 0 < (k : Int) := by omega
          exact ih  m165 hIm165 hFm165  hM
set_option maxHeartbeats 4000000 in
theorem zk_18 (n : Nat) {a0 : Int} {m0 : zu_m} (hIm0 : zi_I m0) (hc0 : zcls a0 = 9)      : zw (zu_call (zt_T n) 18 [(22, a0)] m0) (fun v m => zi_I m ∧ zfr [(9, 4), (9, 5), (9, 6), (9, 7)] m0 m ∧ zR_TV m ∧ True) := by
  have hFm0 : zfr [(9, 4), (9, 5), (9, 6), (9, 7)] m0 m0 := zfr_rf _ _
  show zw (zu_ex (zt_T n) 18 0 [(22, a0)] [] m0) _
  have r168 : 0 ≤ (m0 a0 3) ∧ (m0 a0 3) ≤ 700 := zi_rd hIm0 hc0 zb_9_3
  have hM : (700 - (m0 a0 3)) * 1 + 0 < ((701 : Nat) : Int) := by omega
  exact (zl_18 n (m0 := m0) hc0 701)  m0 hIm0 hFm0  hM
set_option maxHeartbeats 4000000 in
theorem zk_20 (n : Nat) {a0 a1 : Int} {m0 : zu_m} (hIm0 : zi_I m0) (hc0 : zcls a0 = 11) (hc1 : zcls a1 = 4)     (hRG6m0 : (m0 6 2 = m0 6 0 * m0 6 1)) (hRK10m0 : zR_K10 m0) : zw (zu_call (zt_T n) 20 [(8, a0), (8, a1)] m0) (fun v m => zi_I m ∧ zfr [(11, 1), (11, 2), (11, 3), (11, 4), (11, 5), (11, 6), (12, 6), (12, 7), (49, 0), (50, 0), (51, 0), (52, 0), (53, 0), (54, 0), (55, 0)] m0 m ∧ zgeo m 50 ∧ (m 6 2 = m 6 0 * m 6 1) ∧ zR_K10 m ∧ zR_K54 m ∧ True ∧ ((m a0 2) = (m a1 2))) := by
  have hFm0 : zfr [(11, 1), (11, 2), (11, 3), (11, 4), (11, 5), (11, 6), (12, 6), (12, 7), (49, 0), (50, 0), (51, 0), (52, 0), (53, 0), (54, 0), (55, 0)] m0 m0 := zfr_rf _ _
  refine zw_eq (zu_call_at (zt_T n) (zm_20 n) (zdp_20 n) _ _ _ _ _ rfl (zr_20_0 n _ _ a0 a1 m0)) ?_
  have r1 : 0 ≤ (m0 a1 3) ∧ (m0 a1 3) ≤ 6 := zi_rd hIm0 hc1 zb_4_3
  generalize hmm2 : zu_up m0 a0 3 (m0 a1 3) = m2
  have hIm2 := zi_up hmm2 hIm0 hc0 zb_11_3 (by omega) (by omega)
  have hFm2 := zfr_up hmm2 hFm0 hc0 rfl
  have hRG6m2 := zR_G6_fr (zdis_fr (zfr_up hmm2 (zfr_rf [(11, 4)] _) hc0 rfl) rfl) hRG6m0
  have hRK10m2 := zR_K10_fr (zdis_fr (zfr_up hmm2 (zfr_rf [(11, 4)] _) hc0 rfl) rfl) hRK10m0
  have r3 : 0 ≤ (m2 a1 4) ∧ (m2 a1 4) ≤ 99 := zi_rd hIm2 hc1 zb_4_4
  generalize hmm4 : zu_up m2 a0 4 (m2 a1 4) = m4
  have hIm4 := zi_up hmm4 hIm2 hc0 zb_11_4 (by omega) (by omega)
  have hFm4 := zfr_up hmm4 hFm2 hc0 rfl
  have hRG6m4 := zR_G6_fr (zdis_fr (zfr_up hmm4 (zfr_rf [(11, 5)] _) hc0 rfl) rfl) hRG6m2
  have hRK10m4 := zR_K10_fr (zdis_fr (zfr_up hmm4 (zfr_rf [(11, 5)] _) hc0 rfl) rfl) hRK10m2
  have r5 : 0 ≤ (m4 a1 5) ∧ (m4 a1 5) ≤ 99999 := zi_rd hIm4 hc1 zb_4_5
  generalize hmm6 : zu_up m4 a0 5 (m4 a1 5) = m6
  have hIm6 := zi_up hmm6 hIm4 hc0 zb_11_5 (by omega) (by omega)
  have hFm6 := zfr_up hmm6 hFm4 hc0 rfl
  have hRG6m6 := zR_G6_fr (zdis_fr (zfr_up hmm6 (zfr_rf [(11, 6)] _) hc0 rfl) rfl) hRG6m4
  have hRK10m6 := zR_K10_fr (zdis_fr (zfr_up hmm6 (zfr_rf [(11, 6)] _) hc0 rfl) rfl) hRK10m4
  refine zw_bd (zw_mono (zk_21 n hIm6 (zc_11_9 hc0) (zc_4_9 hc1) hRK10m6) (fun v8 m7 hqm7 => ?_))
  obtain ⟨hIm7, hfm7, hvm7⟩ := hqm7
  have hFm7 := zfr_tr hFm6 hfm7 rfl
  obtain ⟨hRK10m7, hRK54m7, hvm7⟩ := hvm7
  have hRG6m7 := zR_G6_fr (zdis_fr hfm7 rfl) hRG6m6
  refine zw_if (by omega) ?_
  generalize hmm9 : zu_cp m7 (a1 + 3) 0 (a0 + 3) 0 48 = m9
  have hIm9 := zi_cp hmm9 hIm7 (zc_4_8 hc1) (zc_11_8 hc0) zb_32 zb_51 (by decide) (by decide)
  have hFm9 := zfr_cp hmm9 hFm7 (zc_11_8 hc0) (fun _ => rfl)
  have hfm9 : zfr [(51, 0)] m7 m9 := zfr_cp hmm9 (zfr_rf _ _) (zc_11_8 hc0) (fun _ => rfl)
  have hRG6m9 := zR_G6_fr (zdis_fr hfm9 rfl) hRG6m7
  have hRK10m9 := zR_K10_fr (zdis_fr hfm9 rfl) hRK10m7
  have hRK54m9 := zR_K54_fr (zdis_fr hfm9 rfl) hRK54m7
  have r10 : 1 ≤ (m9 a1 0) ∧ (m9 a1 0) ≤ 8 := zi_rd hIm9 hc1 zb_4_0
  have r11 : 1 ≤ (m9 a1 1) ∧ (m9 a1 1) ≤ 6 := zi_rd hIm9 hc1 zb_4_1
  have r12 : 1 ≤ (m9 a1 2) ∧ (m9 a1 2) ≤ 48 := zi_rd hIm9 hc1 zb_4_2
  have s13 := zG6_at hRG6m9 (zone_6 hc1)
  refine zw_bd (zw_mono (zk_15_11 n hIm9 hc0 ⟨by omega, by omega⟩ ⟨by omega, by omega⟩) (fun v15 m14 hqm14 => ?_))
  obtain ⟨hIm14, hfm14, hvm14⟩ := hqm14
  have hFm14 := zfr_tr hFm9 hfm14 rfl
  obtain ⟨hRG5m14, hvm14⟩ := hvm14
  have hRG6m14 := zR_G6_fr (zdis_fr hfm14 rfl) hRG6m9
  have hRK10m14 := zR_K10_fr (zdis_fr hfm14 rfl) hRK10m9
  have hRK54m14 := zR_K54_fr (zdis_fr hfm14 rfl) hRK54m9
  have r16 : 1 ≤ (m14 a0 2) ∧ (m14 a0 2) ≤ 48 := zi_rd hIm14 hc0 zb_11_2
  have r17 : 1 ≤ (m14 a1 2) ∧ (m14 a1 2) ≤ 48 := zi_rd hIm14 hc1 zb_4_2
  have e18 : (m14 a1 2) = (m9 a1 2) := (zfr_ap hfm14 hc1 rfl)
  exact zw_some ⟨hIm14, hFm14, hRG5m14, hRG6m14, hRK10m14, hRK54m14, trivial, by omega⟩
set_option maxHeartbeats 4000000 in
theorem zl_22_13_6 (n : Nat) {a0 a1 : Int} {m0 : zu_m} (hc0 : zcls a0 = 13) (hc1 : zcls a1 = 6)   : ∀ k : Nat, (∀ (x2 : Int) (mh : zu_m), zi_I mh → zfr [(13, 3), (13, 5), (13, 9), (13, 10), (13, 11), (13, 12), (14, 1), (14, 2), (14, 3), (14, 4), (15, 1), (15, 2), (15, 3), (15, 4), (15, 5), (15, 6), (15, 7), (15, 8), (62, 0), (63, 0)] m0 mh → (0 ≤ x2 ∧ x2 ≤ 16) → (16 - x2) * 1 + 54 < (k : Int) → zw (zu_ex (zt_T n) 22 10 [(27, a0), (16, a1), (0, x2)] [] mh) (fun v m => zi_I m ∧ zfr [(13, 3), (13, 5), (13, 9), (13, 10), (13, 11), (13, 12), (14, 1), (14, 2), (14, 3), (14, 4), (15, 1), (15, 2), (15, 3), (15, 4), (15, 5), (15, 6), (15, 7), (15, 8), (62, 0), (63, 0)] m0 m ∧ True ∧ (zE m0 a1 50 → zE m a0 50))) ∧ (∀ (x2 : Int) (mh : zu_m), zi_I mh → zfr [(13, 3), (13, 5), (13, 9), (13, 10), (13, 11), (13, 12), (14, 1), (14, 2), (14, 3), (14, 4), (15, 1), (15, 2), (15, 3), (15, 4), (15, 5), (15, 6), (15, 7), (15, 8), (62, 0), (63, 0)] m0 mh → (0 ≤ x2 ∧ x2 ≤ 4) → ((mh a0 4) = (m0 a1 4)) → (zcc m0 mh a0 a1 x2) → (4 - x2) * 1 + 49 < (k : Int) → zw (zu_ex (zt_T n) 22 49 [(27, a0), (16, a1), (0, x2)] [] mh) (fun v m => zi_I m ∧ zfr [(13, 3), (13, 5), (13, 9), (13, 10), (13, 11), (13, 12), (14, 1), (14, 2), (14, 3), (14, 4), (15, 1), (15, 2), (15, 3), (15, 4), (15, 5), (15, 6), (15, 7), (15, 8), (62, 0), (63, 0)] m0 m ∧ True ∧ (zE m0 a1 50 → zE m a0 50))) ∧ (∀ (x2 : Int) (mh : zu_m), zi_I mh → zfr [(13, 3), (13, 5), (13, 9), (13, 10), (13, 11), (13, 12), (14, 1), (14, 2), (14, 3), (14, 4), (15, 1), (15, 2), (15, 3), (15, 4), (15, 5), (15, 6), (15, 7), (15, 8), (62, 0), (63, 0)] m0 mh → (0 ≤ x2 ∧ x2 ≤ 48) → ((mh a0 4) = (m0 a1 4)) → ((m0 a1 4) ≤ 4) → (zcc m0 mh a0 a1 (m0 a1 4)) → (48 - x2) * 1 + 0 < (k : Int) → zw (zu_ex (zt_T n) 22 80 [(27, a0), (16, a1), (0, x2)] [] mh) (fun v m => zi_I m ∧ zfr [(13, 3), (13, 5), (13, 9), (13, 10), (13, 11), (13, 12), (14, 1), (14, 2), (14, 3), (14, 4), (15, 1), (15, 2), (15, 3), (15, 4), (15, 5), (15, 6), (15, 7), (15, 8), (62, 0), (63, 0)] m0 m ∧ True ∧ (zE m0 a1 50 → zE m a0 50))) := by
  intro k
  induction k with
  | zero => exact ⟨fun x2 mh hImh hFmh hbx2 hM => by exfalso; omega, fun x2 mh hImh hFmh hbx2 hH0 hH1 hM => by exfalso; omega, fun x2 mh hImh hFmh hbx2 hH0 hH1 hH2 hM => by exfalso; omega⟩
  | succ k ih =>
    refine ⟨?_, ?_, ?_⟩
    · intro x2 mh hImh hFmh hbx2 hM
      refine zw_eq (zu_rega_at (zt_T n) (zm_22 n) (zdp_22 n) _ _ _ _ _ _ (zr_22_10 n _ _ a0 a1 x2 mh)) ?_
      have r1 : 0 ≤ (mh a0 2) ∧ (mh a0 2) ≤ 16 := zi_rd hImh hc0 zb_13_2
      refine zw_ite (fun h2 => ?_) (fun h2 => ?_)
      · have r3 : 0 ≤ (mh a1 4) ∧ (mh a1 4) ≤ 4 := zi_rd hImh hc1 zb_6_4
        have s4 : (mh a1 4) = m0 a1 4 := zfr_ap hFmh hc1 rfl
        generalize hmm5 : zu_up mh a0 4 (mh a1 4) = m5
        have hIm5 := zi_up hmm5 hImh hc0 zb_13_4 (by omega) (by omega)
        have hFm5 := zfr_up hmm5 hFmh hc0 rfl
        have r6 : 0 ≤ (m5 a0 4) ∧ (m5 a0 4) ≤ 4 := zi_rd hIm5 hc0 zb_13_4
        have e7 : (m5 a0 4) = (mh a1 4) := (zs_eq hmm5)
        have hM : (4 - 0) * 1 + 49 < (k : Int) := by omega
        exact ih.2.1 0 m5 hIm5 hFm5 ⟨by omega, by omega⟩ (by omega) (zcc_0 _ _ _ _) hM
      · have b8 : 0 ≤ x2 ∧ x2 < 16 := by omega
        refine zw_if b8 ?_
        have b9 : 0 ≤ x2 ∧ x2 < 16 := by omega
        refine zw_if b9 ?_
        refine zw_bd (zw_mono (zk_197_14_7 n hImh (zc_60_e (zc_13_1 hc0) b8) (zc_41_e zq_20 b9)) (fun v11 m10 hqm10 => ?_))
        obtain ⟨hIm10, hfm10, hvm10⟩ := hqm10
        have hFm10 := zfr_tr hFmh hfm10 rfl
        have w12 := zu_w32_id (z := x2 + 1) (by omega) (by omega)
        have hM : (16 - (zu_w32 (x2 + 1))) * 1 + 54 < (k : Int) := by omega
        exact ih.1 (zu_w32 (x2 + 1)) m10 hIm10 hFm10 ⟨by omega, by omega⟩ hM
    · intro x2 mh hImh hFmh hbx2 hH0 hH1 hM
      refine zw_eq (zu_rega_at (zt_T n) (zm_22 n) (zdp_22 n) _ _ _ _ _ _ (zr_22_49 n _ _ a0 a1 x2 mh)) ?_
      have r13 : 0 ≤ (mh a0 4) ∧ (mh a0 4) ≤ 4 := zi_rd hImh hc0 zb_13_4
      have z14 := zone_19 hc1
      refine zw_ite (fun h15 => ?_) (fun h15 => ?_)
      · have hM : (48 - 0) * 1 + 0 < (k : Int) := by omega
        exact ih.2.2 0 mh hImh hFmh ⟨by omega, by omega⟩ (by omega) (by omega) (zcc_x hH1 (by omega)) hM
      · have b16 : 0 ≤ x2 ∧ x2 < 4 := by omega
        refine zw_if b16 ?_
        have b17 : 0 ≤ x2 ∧ x2 < 4 := by omega
        refine zw_if b17 ?_
        refine zw_bd (zw_mono (zk_196_15_8 n hImh (zc_61_e (zc_13_3 hc0) b16) (zc_42_e zq_21 b17)) (fun v19 m18 hqm18 => ?_))
        obtain ⟨hIm18, hfm18, hvm18⟩ := hqm18
        have hFm18 := zfr_tr hFmh hfm18 rfl
        have hcam18 : m18 ((a0 + 2) + 20 + x2) 1 = mh (21 + 20 + x2) 1 := (hvm18.2.1)
        have hcbm18 : mh (21 + 20 + x2) 1 = m0 (21 + 20 + x2) 1 := zfr_ap hFmh (zc_42_e zq_21 b17) rfl
        have hccm18 := (hvm18.2.2)
        have w20 := zu_w32_id (z := x2 + 1) (by omega) (by omega)
        have r21 : 0 ≤ (m18 a0 4) ∧ (m18 a0 4) ≤ 4 := zi_rd hIm18 hc0 zb_13_4
        have e22 : (m18 a0 4) = (mh a0 4) := (zfr_ap hfm18 hc0 rfl)
        have hM : (4 - (zu_w32 (x2 + 1))) * 1 + 49 < (k : Int) := by omega
        exact ih.2.1 (zu_w32 (x2 + 1)) m18 hIm18 hFm18 ⟨by omega, by omega⟩ (by omega) (zcc_s hH1 hcam18 hcbm18 hccm18 (by omega) (by omega) (by omega)) hM
    · intro x2 mh hImh hFmh hbx2 hH0 hH1 hH2 hM
      refine zw_eq (zu_rega_at (zt_T n) (zm_22 n) (zdp_22 n) _ _ _ _ _ _ (zr_22_80 n _ _ a0 a1 x2 mh)) ?_
      have r23 : 0 ≤ (mh a0 4) ∧ (mh a0 4) ≤ 4 := zi_rd hImh hc0 zb_13_4
      refine zw_ite (fun h24 => ?_) (fun h24 => ?_)
      · have r25 : 0 ≤ (mh a1 8) ∧ (mh a1 8) ≤ 9999 := zi_rd hImh hc1 zb_6_8
        generalize hmm26 : zu_up mh a0 8 (mh a1 8) = m26
        have hIm26 := zi_up hmm26 hImh hc0 zb_13_8 (by omega) (by omega)
        have hFm26 := zfr_up hmm26 hFmh hc0 rfl
        have r27 : (-2147483648) ≤ (m26 a1 9) ∧ (m26 a1 9) ≤ 2147483647 := zi_rd hIm26 hc1 zb_6_9
        generalize hmm28 : zu_up m26 a0 9 (m26 a1 9) = m28
        have hIm28 := zi_up hmm28 hIm26 hc0 zb_13_9 (by omega) (by omega)
        have hFm28 := zfr_up hmm28 hFm26 hc0 rfl
        have r29 : 0 ≤ (m28 a1 10) ∧ (m28 a1 10) ≤ 3 := zi_rd hIm28 hc1 zb_6_10
        generalize hmm30 : zu_up m28 a0 10 (m28 a1 10) = m30
        have hIm30 := zi_up hmm30 hIm28 hc0 zb_13_10 (by omega) (by omega)
        have hFm30 := zfr_up hmm30 hFm28 hc0 rfl
        have r31 : (-2147483648) ≤ (m30 a1 11) ∧ (m30 a1 11) ≤ 2147483647 := zi_rd hIm30 hc1 zb_6_11
        generalize hmm32 : zu_up m30 a0 11 (m30 a1 11) = m32
        have hIm32 := zi_up hmm32 hIm30 hc0 zb_13_11 (by omega) (by omega)
        have hFm32 := zfr_up hmm32 hFm30 hc0 rfl
        have r33 : 0 ≤ (m32 a0 4) ∧ (m32 a0 4) ≤ 4 := zi_rd hIm32 hc0 zb_13_4
        have e34 : (m32 a0 4) = (mh a0 4) := (Eq.trans (zs_ne hmm32 (Or.inr (by decide))) (Eq.trans (zs_ne hmm30 (Or.inr (by decide))) (Eq.trans (zs_ne hmm28 (Or.inr (by decide))) (zs_ne hmm26 (Or.inr (by decide))))))
        exact zw_some ⟨hIm32, hFm32, trivial, (fun hE => zE_cp (zcc_mv hH2 (by omega) (fun c h0 h4 => (Eq.trans (zs_ne hmm32 (Or.inl (zc_ne (zc_61_e (zc_13_3 hc0) ⟨h0, h4⟩) hc0 (by decide)))) (Eq.trans (zs_ne hmm30 (Or.inl (zc_ne (zc_61_e (zc_13_3 hc0) ⟨h0, h4⟩) hc0 (by decide)))) (Eq.trans (zs_ne hmm28 (Or.inl (zc_ne (zc_61_e (zc_13_3 hc0) ⟨h0, h4⟩) hc0 (by decide)))) (zs_ne hmm26 (Or.inl (zc_ne (zc_61_e (zc_13_3 hc0) ⟨h0, h4⟩) hc0 (by decide))))))))) (by omega) (by omega) (zfr_ap hFm32 zq_50 rfl) hE)⟩
      · have b35 : 0 ≤ x2 ∧ x2 < 48 := by omega
        refine zw_if b35 ?_
        have r36 : 0 ≤ (mh 22 x2) ∧ (mh 22 x2) ≤ 1 := zi_rd hImh zq_22 (zb_43 _)
        refine zw_b (by omega) ?_
        have b37 : 0 ≤ x2 ∧ x2 < 48 := by omega
        refine zw_if b37 ?_
        generalize hmm38 : zu_up mh (a0 + 3) x2 (mh 22 x2) = m38
        have hIm38 := zi_up hmm38 hImh (zc_13_5 hc0) (zb_62 _) (by omega) (by omega)
        have hFm38 := zfr_up hmm38 hFmh (zc_13_5 hc0) rfl
        have b39 : 0 ≤ x2 ∧ x2 < 48 := by omega
        refine zw_if b39 ?_
        have r40 : 0 ≤ (m38 23 x2) ∧ (m38 23 x2) ≤ 999000 := zi_rd hIm38 zq_23 (zb_44 _)
        have b41 : 0 ≤ x2 ∧ x2 < 48 := by omega
        refine zw_if b41 ?_
        generalize hmm42 : zu_up m38 (a0 + 4) x2 (m38 23 x2) = m42
        have hIm42 := zi_up hmm42 hIm38 (zc_13_6 hc0) (zb_63 _) (by omega) (by omega)
        have hFm42 := zfr_up hmm42 hFm38 (zc_13_6 hc0) rfl
        have w43 := zu_w32_id (z := x2 + 1) (by omega) (by omega)
        have r44 : 0 ≤ (m42 a0 4) ∧ (m42 a0 4) ≤ 4 := zi_rd hIm42 hc0 zb_13_4
        have e45 : (m42 a0 4) = (mh a0 4) := (Eq.trans (zs_ne hmm42 (Or.inl (zc_ne hc0 (zc_13_6 hc0) (by decide)))) (zs_ne hmm38 (Or.inl (zc_ne hc0 (zc_13_5 hc0) (by decide)))))
        have hM : (48 - (zu_w32 (x2 + 1))) * 1 + 0 < (k : Int) := by omega
        exact ih.2.2 (zu_w32 (x2 + 1)) m42 hIm42 hFm42 ⟨by omega, by omega⟩ (by omega) (by omega) (zcc_mv hH2 (by omega) (fun c h0 h4 => (Eq.trans (zs_ne hmm42 (Or.inl (zc_ne (zc_61_e (zc_13_3 hc0) ⟨h0, h4⟩) (zc_13_6 hc0) (by decide)))) (zs_ne hmm38 (Or.inl (zc_ne (zc_61_e (zc_13_3 hc0) ⟨h0, h4⟩) (zc_13_5 hc0) (by decide))))))) hM
set_option maxHeartbeats 4000000 in
theorem zk_22_13_6 (n : Nat) {a0 a1 : Int} {m0 : zu_m} (hIm0 : zi_I m0) (hc0 : zcls a0 = 13) (hc1 : zcls a1 = 6)      : zw (zu_call (zt_T n) 22 [(27, a0), (16, a1)] m0) (fun v m => zi_I m ∧ zfr [(13, 3), (13, 5), (13, 9), (13, 10), (13, 11), (13, 12), (14, 1), (14, 2), (14, 3), (14, 4), (15, 1), (15, 2), (15, 3), (15, 4), (15, 5), (15, 6), (15, 7), (15, 8), (62, 0), (63, 0)] m0 m ∧ True ∧ (zE m0 a1 50 → zE m a0 50)) := by
  have hFm0 : zfr [(13, 3), (13, 5), (13, 9), (13, 10), (13, 11), (13, 12), (14, 1), (14, 2), (14, 3), (14, 4), (15, 1), (15, 2), (15, 3), (15, 4), (15, 5), (15, 6), (15, 7), (15, 8), (62, 0), (63, 0)] m0 m0 := zfr_rf _ _
  refine zw_eq (zu_call_at (zt_T n) (zm_22 n) (zdp_22 n) _ _ _ _ _ rfl (zr_22_0 n _ _ a0 a1 m0)) ?_
  have r46 : 0 ≤ (m0 a1 2) ∧ (m0 a1 2) ≤ 16 := zi_rd hIm0 hc1 zb_6_2
  generalize hmm47 : zu_up m0 a0 2 (m0 a1 2) = m47
  have hIm47 := zi_up hmm47 hIm0 hc0 zb_13_2 (by omega) (by omega)
  have hFm47 := zfr_up hmm47 hFm0 hc0 rfl
  have hM : (16 - 0) * 1 + 54 < ((71 : Nat) : Int) := by omega
  exact (zl_22_13_6 n (m0 := m0) hc0 hc1 71).1 0 m47 hIm47 hFm47 ⟨by omega, by omega⟩ hM
set_option maxHeartbeats 4000000 in
theorem zl_22_16_13 (n : Nat) {a0 a1 : Int} {m0 : zu_m} (hc0 : zcls a0 = 16) (hc1 : zcls a1 = 13)   : ∀ k : Nat, (∀ (x2 : Int) (mh : zu_m), zi_I mh → zfr [(16, 3), (16, 5), (16, 9), (16, 10), (16, 11), (16, 12), (17, 1), (17, 2), (17, 3), (17, 4), (18, 1), (18, 2), (18, 3), (18, 4), (18, 5), (18, 6), (18, 7), (18, 8), (67, 0), (68, 0)] m0 mh → (0 ≤ x2 ∧ x2 ≤ 16) → (16 - x2) * 1 + 54 < (k : Int) → zw (zu_ex (zt_T n) 22 10 [(27, a0), (27, a1), (0, x2)] [] mh) (fun v m => zi_I m ∧ zfr [(16, 3), (16, 5), (16, 9), (16, 10), (16, 11), (16, 12), (17, 1), (17, 2), (17, 3), (17, 4), (18, 1), (18, 2), (18, 3), (18, 4), (18, 5), (18, 6), (18, 7), (18, 8), (67, 0), (68, 0)] m0 m ∧ True ∧ (zE m0 a1 50 → zE m a0 50))) ∧ (∀ (x2 : Int) (mh : zu_m), zi_I mh → zfr [(16, 3), (16, 5), (16, 9), (16, 10), (16, 11), (16, 12), (17, 1), (17, 2), (17, 3), (17, 4), (18, 1), (18, 2), (18, 3), (18, 4), (18, 5), (18, 6), (18, 7), (18, 8), (67, 0), (68, 0)] m0 mh → (0 ≤ x2 ∧ x2 ≤ 4) → ((mh a0 4) = (m0 a1 4)) → (zcc m0 mh a0 a1 x2) → (4 - x2) * 1 + 49 < (k : Int) → zw (zu_ex (zt_T n) 22 49 [(27, a0), (27, a1), (0, x2)] [] mh) (fun v m => zi_I m ∧ zfr [(16, 3), (16, 5), (16, 9), (16, 10), (16, 11), (16, 12), (17, 1), (17, 2), (17, 3), (17, 4), (18, 1), (18, 2), (18, 3), (18, 4), (18, 5), (18, 6), (18, 7), (18, 8), (67, 0), (68, 0)] m0 m ∧ True ∧ (zE m0 a1 50 → zE m a0 50))) ∧ (∀ (x2 : Int) (mh : zu_m), zi_I mh → zfr [(16, 3), (16, 5), (16, 9), (16, 10), (16, 11), (16, 12), (17, 1), (17, 2), (17, 3), (17, 4), (18, 1), (18, 2), (18, 3), (18, 4), (18, 5), (18, 6), (18, 7), (18, 8), (67, 0), (68, 0)] m0 mh → (0 ≤ x2 ∧ x2 ≤ 48) → ((mh a0 4) = (m0 a1 4)) → ((m0 a1 4) ≤ 4) → (zcc m0 mh a0 a1 (m0 a1 4)) → (48 - x2) * 1 + 0 < (k : Int) → zw (zu_ex (zt_T n) 22 80 [(27, a0), (27, a1), (0, x2)] [] mh) (fun v m => zi_I m ∧ zfr [(16, 3), (16, 5), (16, 9), (16, 10), (16, 11), (16, 12), (17, 1), (17, 2), (17, 3), (17, 4), (18, 1), (18, 2), (18, 3), (18, 4), (18, 5), (18, 6), (18, 7), (18, 8), (67, 0), (68, 0)] m0 m ∧ True ∧ (zE m0 a1 50 → zE m a0 50))) := by
  intro k
  induction k with
  | zero => exact ⟨fun x2 mh hImh hFmh hbx2 hM => by exfalso; omega, fun x2 mh hImh hFmh hbx2 hH0 hH1 hM => by exfalso; omega, fun x2 mh hImh hFmh hbx2 hH0 hH1 hH2 hM => by exfalso; omega⟩
  | succ k ih =>
    refine ⟨?_, ?_, ?_⟩
    · intro x2 mh hImh hFmh hbx2 hM
      refine zw_eq (zu_rega_at (zt_T n) (zm_22 n) (zdp_22 n) _ _ _ _ _ _ (zr_22b_10 n _ _ a0 a1 x2 mh)) ?_
      have r1 : 0 ≤ (mh a0 2) ∧ (mh a0 2) ≤ 16 := zi_rd hImh hc0 zb_16_2
      refine zw_ite (fun h2 => ?_) (fun h2 => ?_)
      · have r3 : 0 ≤ (mh a1 4) ∧ (mh a1 4) ≤ 4 := zi_rd hImh hc1 zb_13_4
        have s4 : (mh a1 4) = m0 a1 4 := zfr_ap hFmh hc1 rfl
        generalize hmm5 : zu_up mh a0 4 (mh a1 4) = m5
        have hIm5 := zi_up hmm5 hImh hc0 zb_16_4 (by omega) (by omega)
        have hFm5 := zfr_up hmm5 hFmh hc0 rfl
        have r6 : 0 ≤ (m5 a0 4) ∧ (m5 a0 4) ≤ 4 := zi_rd hIm5 hc0 zb_16_4
        have e7 : (m5 a0 4) = (mh a1 4) := (zs_eq hmm5)
        have hM : (4 - 0) * 1 + 49 < (k : Int) := by omega
        exact ih.2.1 0 m5 hIm5 hFm5 ⟨by omega, by omega⟩ (by omega) (zcc_0 _ _ _ _) hM
      · have b8 : 0 ≤ x2 ∧ x2 < 16 := by omega
        refine zw_if b8 ?_
        have b9 : 0 ≤ x2 ∧ x2 < 16 := by omega
        refine zw_if b9 ?_
        refine zw_bd (zw_mono (zk_197_17_14 n hImh (zc_65_e (zc_16_1 hc0) b8) (zc_60_e (zc_13_1 hc1) b9)) (fun v11 m10 hqm10 => ?_))
        obtain ⟨hIm10, hfm10, hvm10⟩ := hqm10
        have hFm10 := zfr_tr hFmh hfm10 rfl
        have w12 := zu_w32_id (z := x2 + 1) (by omega) (by omega)
        have hM : (16 - (zu_w32 (x2 + 1))) * 1 + 54 < (k : Int) := by omega
        exact ih.1 (zu_w32 (x2 + 1)) m10 hIm10 hFm10 ⟨by omega, by omega⟩ hM
    · intro x2 mh hImh hFmh hbx2 hH0 hH1 hM
      refine zw_eq (zu_rega_at (zt_T n) (zm_22 n) (zdp_22 n) _ _ _ _ _ _ (zr_22b_49 n _ _ a0 a1 x2 mh)) ?_
      have r13 : 0 ≤ (mh a0 4) ∧ (mh a0 4) ≤ 4 := zi_rd hImh hc0 zb_16_4
      refine zw_ite (fun h14 => ?_) (fun h14 => ?_)
      · have hM : (48 - 0) * 1 + 0 < (k : Int) := by omega
        exact ih.2.2 0 mh hImh hFmh ⟨by omega, by omega⟩ (by omega) (by omega) (zcc_x hH1 (by omega)) hM
      · have b15 : 0 ≤ x2 ∧ x2 < 4 := by omega
        refine zw_if b15 ?_
        have b16 : 0 ≤ x2 ∧ x2 < 4 := by omega
        refine zw_if b16 ?_
        refine zw_bd (zw_mono (zk_196_18_15 n hImh (zc_66_e (zc_16_3 hc0) b15) (zc_61_e (zc_13_3 hc1) b16)) (fun v18 m17 hqm17 => ?_))
        obtain ⟨hIm17, hfm17, hvm17⟩ := hqm17
        have hFm17 := zfr_tr hFmh hfm17 rfl
        have hcam17 : m17 ((a0 + 2) + 20 + x2) 1 = mh ((a1 + 2) + 20 + x2) 1 := (hvm17.2.1)
        have hcbm17 : mh ((a1 + 2) + 20 + x2) 1 = m0 ((a1 + 2) + 20 + x2) 1 := zfr_ap hFmh (zc_61_e (zc_13_3 hc1) b16) rfl
        have hccm17 := (hvm17.2.2)
        have w19 := zu_w32_id (z := x2 + 1) (by omega) (by omega)
        have r20 : 0 ≤ (m17 a0 4) ∧ (m17 a0 4) ≤ 4 := zi_rd hIm17 hc0 zb_16_4
        have e21 : (m17 a0 4) = (mh a0 4) := (zfr_ap hfm17 hc0 rfl)
        have hM : (4 - (zu_w32 (x2 + 1))) * 1 + 49 < (k : Int) := by omega
        exact ih.2.1 (zu_w32 (x2 + 1)) m17 hIm17 hFm17 ⟨by omega, by omega⟩ (by omega) (zcc_s hH1 hcam17 hcbm17 hccm17 (by omega) (by omega) (by omega)) hM
    · intro x2 mh hImh hFmh hbx2 hH0 hH1 hH2 hM
      refine zw_eq (zu_rega_at (zt_T n) (zm_22 n) (zdp_22 n) _ _ _ _ _ _ (zr_22b_80 n _ _ a0 a1 x2 mh)) ?_
      have r22 : 0 ≤ (mh a0 4) ∧ (mh a0 4) ≤ 4 := zi_rd hImh hc0 zb_16_4
      refine zw_ite (fun h23 => ?_) (fun h23 => ?_)
      · have r24 : 0 ≤ (mh a1 8) ∧ (mh a1 8) ≤ 9999 := zi_rd hImh hc1 zb_13_8
        generalize hmm25 : zu_up mh a0 8 (mh a1 8) = m25
        have hIm25 := zi_up hmm25 hImh hc0 zb_16_8 (by omega) (by omega)
        have hFm25 := zfr_up hmm25 hFmh hc0 rfl
        have r26 : (-2147483648) ≤ (m25 a1 9) ∧ (m25 a1 9) ≤ 2147483647 := zi_rd hIm25 hc1 zb_13_9
        generalize hmm27 : zu_up m25 a0 9 (m25 a1 9) = m27
        have hIm27 := zi_up hmm27 hIm25 hc0 zb_16_9 (by omega) (by omega)
        have hFm27 := zfr_up hmm27 hFm25 hc0 rfl
        have r28 : 0 ≤ (m27 a1 10) ∧ (m27 a1 10) ≤ 3 := zi_rd hIm27 hc1 zb_13_10
        generalize hmm29 : zu_up m27 a0 10 (m27 a1 10) = m29
        have hIm29 := zi_up hmm29 hIm27 hc0 zb_16_10 (by omega) (by omega)
        have hFm29 := zfr_up hmm29 hFm27 hc0 rfl
        have r30 : (-2147483648) ≤ (m29 a1 11) ∧ (m29 a1 11) ≤ 2147483647 := zi_rd hIm29 hc1 zb_13_11
        generalize hmm31 : zu_up m29 a0 11 (m29 a1 11) = m31
        have hIm31 := zi_up hmm31 hIm29 hc0 zb_16_11 (by omega) (by omega)
        have hFm31 := zfr_up hmm31 hFm29 hc0 rfl
        have r32 : 0 ≤ (m31 a0 4) ∧ (m31 a0 4) ≤ 4 := zi_rd hIm31 hc0 zb_16_4
        have e33 : (m31 a0 4) = (mh a0 4) := (Eq.trans (zs_ne hmm31 (Or.inr (by decide))) (Eq.trans (zs_ne hmm29 (Or.inr (by decide))) (Eq.trans (zs_ne hmm27 (Or.inr (by decide))) (zs_ne hmm25 (Or.inr (by decide))))))
        exact zw_some ⟨hIm31, hFm31, trivial, (fun hE => zE_cp (zcc_mv hH2 (by omega) (fun c h0 h4 => (Eq.trans (zs_ne hmm31 (Or.inl (zc_ne (zc_66_e (zc_16_3 hc0) ⟨h0, h4⟩) hc0 (by decide)))) (Eq.trans (zs_ne hmm29 (Or.inl (zc_ne (zc_66_e (zc_16_3 hc0) ⟨h0, h4⟩) hc0 (by decide)))) (Eq.trans (zs_ne hmm27 (Or.inl (zc_ne (zc_66_e (zc_16_3 hc0) ⟨h0, h4⟩) hc0 (by decide)))) (zs_ne hmm25 (Or.inl (zc_ne (zc_66_e (zc_16_3 hc0) ⟨h0, h4⟩) hc0 (by decide))))))))) (by omega) (by omega) (zfr_ap hFm31 zq_50 rfl) hE)⟩
      · have b34 : 0 ≤ x2 ∧ x2 < 48 := by omega
        refine zw_if b34 ?_
        have r35 : 0 ≤ (mh (a1 + 3) x2) ∧ (mh (a1 + 3) x2) ≤ 1 := zi_rd hImh (zc_13_5 hc1) (zb_62 _)
        refine zw_b (by omega) ?_
        have b36 : 0 ≤ x2 ∧ x2 < 48 := by omega
        refine zw_if b36 ?_
        generalize hmm37 : zu_up mh (a0 + 3) x2 (mh (a1 + 3) x2) = m37
        have hIm37 := zi_up hmm37 hImh (zc_16_5 hc0) (zb_67 _) (by omega) (by omega)
        have hFm37 := zfr_up hmm37 hFmh (zc_16_5 hc0) rfl
        have b38 : 0 ≤ x2 ∧ x2 < 48 := by omega
        refine zw_if b38 ?_
        have r39 : 0 ≤ (m37 (a1 + 4) x2) ∧ (m37 (a1 + 4) x2) ≤ 999000 := zi_rd hIm37 (zc_13_6 hc1) (zb_63 _)
        have b40 : 0 ≤ x2 ∧ x2 < 48 := by omega
        refine zw_if b40 ?_
        generalize hmm41 : zu_up m37 (a0 + 4) x2 (m37 (a1 + 4) x2) = m41
        have hIm41 := zi_up hmm41 hIm37 (zc_16_6 hc0) (zb_68 _) (by omega) (by omega)
        have hFm41 := zfr_up hmm41 hFm37 (zc_16_6 hc0) rfl
        have w42 := zu_w32_id (z := x2 + 1) (by omega) (by omega)
        have r43 : 0 ≤ (m41 a0 4) ∧ (m41 a0 4) ≤ 4 := zi_rd hIm41 hc0 zb_16_4
        have e44 : (m41 a0 4) = (mh a0 4) := (Eq.trans (zs_ne hmm41 (Or.inl (zc_ne hc0 (zc_16_6 hc0) (by decide)))) (zs_ne hmm37 (Or.inl (zc_ne hc0 (zc_16_5 hc0) (by decide)))))
        have hM : (48 - (zu_w32 (x2 + 1))) * 1 + 0 < (k : Int) := by omega
        exact ih.2.2 (zu_w32 (x2 + 1)) m41 hIm41 hFm41 ⟨by omega, by omega⟩ (by omega) (by omega) (zcc_mv hH2 (by omega) (fun c h0 h4 => (Eq.trans (zs_ne hmm41 (Or.inl (zc_ne (zc_66_e (zc_16_3 hc0) ⟨h0, h4⟩) (zc_16_6 hc0) (by decide)))) (zs_ne hmm37 (Or.inl (zc_ne (zc_66_e (zc_16_3 hc0) ⟨h0, h4⟩) (zc_16_5 hc0) (by decide))))))) hM
set_option maxHeartbeats 4000000 in
theorem zk_22_16_13 (n : Nat) {a0 a1 : Int} {m0 : zu_m} (hIm0 : zi_I m0) (hc0 : zcls a0 = 16) (hc1 : zcls a1 = 13)      : zw (zu_call (zt_T n) 22 [(27, a0), (27, a1)] m0) (fun v m => zi_I m ∧ zfr [(16, 3), (16, 5), (16, 9), (16, 10), (16, 11), (16, 12), (17, 1), (17, 2), (17, 3), (17, 4), (18, 1), (18, 2), (18, 3), (18, 4), (18, 5), (18, 6), (18, 7), (18, 8), (67, 0), (68, 0)] m0 m ∧ True ∧ (zE m0 a1 50 → zE m a0 50)) := by
  have hFm0 : zfr [(16, 3), (16, 5), (16, 9), (16, 10), (16, 11), (16, 12), (17, 1), (17, 2), (17, 3), (17, 4), (18, 1), (18, 2), (18, 3), (18, 4), (18, 5), (18, 6), (18, 7), (18, 8), (67, 0), (68, 0)] m0 m0 := zfr_rf _ _
  refine zw_eq (zu_call_at (zt_T n) (zm_22 n) (zdp_22 n) _ _ _ _ _ rfl (zr_22b_0 n _ _ a0 a1 m0)) ?_
  have r45 : 0 ≤ (m0 a1 2) ∧ (m0 a1 2) ≤ 16 := zi_rd hIm0 hc1 zb_13_2
  generalize hmm46 : zu_up m0 a0 2 (m0 a1 2) = m46
  have hIm46 := zi_up hmm46 hIm0 hc0 zb_16_2 (by omega) (by omega)
  have hFm46 := zfr_up hmm46 hFm0 hc0 rfl
  have hM : (16 - 0) * 1 + 54 < ((71 : Nat) : Int) := by omega
  exact (zl_22_16_13 n (m0 := m0) hc0 hc1 71).1 0 m46 hIm46 hFm46 ⟨by omega, by omega⟩ hM
