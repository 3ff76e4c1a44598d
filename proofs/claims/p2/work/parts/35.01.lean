set_option maxHeartbeats 4000000 in
theorem zk_121 (n : Nat) {a0 a1 a2 : Int} {m0 : zu_m} (hIm0 : zi_I m0) (hc0 : zcls a0 = 15) (ha1 : (-9223372036854775808) ≤ a1 ∧ a1 ≤ 9223372036854775807) (ha2 : (-9223372036854775808) ≤ a2 ∧ a2 ≤ 9223372036854775807)    : zw (zu_call (zt_T n) 121 [(40, a0), (1, a1), (1, a2)] m0) (fun v m => zi_I m ∧ zfr [(15, 54)] m0 m ∧ ((-9223372036854775808) ≤ v ∧ v ≤ 9223372036854775807)) := by
  have hFm0 : zfr [(15, 54)] m0 m0 := zfr_rf _ _
  refine zw_eq (zr_121_0 n a0 a1 a2 m0) ?_
  have c1 := zu_lcmp_sp a1 0
  refine zw_ite (fun h2 => ?_) (fun h2 => ?_)
  · have r3 : 0 ≤ (m0 a0 53) ∧ (m0 a0 53) ≤ 1 := zi_rd hIm0 hc0 zb_15_53
    refine zw_ite (fun h4 => ?_) (fun h4 => ?_)
    · refine zw_b (by omega) ?_
      generalize hmm5 : zu_up m0 a0 53 1 = m5
      have hIm5 := zi_up hmm5 hIm0 hc0 zb_15_53 (by omega) (by omega)
      have hFm5 := zfr_up hmm5 hFm0 hc0 rfl
      have r6 : 0 ≤ (m5 a0 53) ∧ (m5 a0 53) ≤ 1 := zi_rd hIm5 hc0 zb_15_53
      have e7 : (m5 a0 53) = 1 := (zs_eq hmm5)
      refine zw_ite (fun h8 => ?_) (fun h8 => ?_)
      · exfalso; omega
      · exact zw_some ⟨hIm5, hFm5, ⟨by omega, by omega⟩⟩
    · refine zw_ite (fun h9 => ?_) (fun h9 => ?_)
      · refine zw_b (by omega) ?_
        generalize hmm10 : zu_up m0 a0 53 0 = m10
        have hIm10 := zi_up hmm10 hIm0 hc0 zb_15_53 (by omega) (by omega)
        have hFm10 := zfr_up hmm10 hFm0 hc0 rfl
        have r11 : 0 ≤ (m10 a0 53) ∧ (m10 a0 53) ≤ 1 := zi_rd hIm10 hc0 zb_15_53
        have e12 : (m10 a0 53) = 0 := (zs_eq hmm10)
        refine zw_ite (fun h13 => ?_) (fun h13 => ?_)
        · have w14 := zu_w64_rg (a1 * a2)
          exact zw_some ⟨hIm10, hFm10, ⟨by omega, by omega⟩⟩
        · exfalso; omega
      · exfalso; omega
  · have c15 := zu_lcmp_sp a2 0
    refine zw_ite (fun h16 => ?_) (fun h16 => ?_)
    · have r17 : 0 ≤ (m0 a0 53) ∧ (m0 a0 53) ≤ 1 := zi_rd hIm0 hc0 zb_15_53
      refine zw_ite (fun h18 => ?_) (fun h18 => ?_)
      · refine zw_b (by omega) ?_
        generalize hmm19 : zu_up m0 a0 53 1 = m19
        have hIm19 := zi_up hmm19 hIm0 hc0 zb_15_53 (by omega) (by omega)
        have hFm19 := zfr_up hmm19 hFm0 hc0 rfl
        have r20 : 0 ≤ (m19 a0 53) ∧ (m19 a0 53) ≤ 1 := zi_rd hIm19 hc0 zb_15_53
        have e21 : (m19 a0 53) = 1 := (zs_eq hmm19)
        refine zw_ite (fun h22 => ?_) (fun h22 => ?_)
        · exfalso; omega
        · exact zw_some ⟨hIm19, hFm19, ⟨by omega, by omega⟩⟩
      · refine zw_ite (fun h23 => ?_) (fun h23 => ?_)
        · refine zw_b (by omega) ?_
          generalize hmm24 : zu_up m0 a0 53 0 = m24
          have hIm24 := zi_up hmm24 hIm0 hc0 zb_15_53 (by omega) (by omega)
          have hFm24 := zfr_up hmm24 hFm0 hc0 rfl
          have r25 : 0 ≤ (m24 a0 53) ∧ (m24 a0 53) ≤ 1 := zi_rd hIm24 hc0 zb_15_53
          have e26 : (m24 a0 53) = 0 := (zs_eq hmm24)
          refine zw_ite (fun h27 => ?_) (fun h27 => ?_)
          · have w28 := zu_w64_rg (a1 * a2)
            exact zw_some ⟨hIm24, hFm24, ⟨by omega, by omega⟩⟩
          · exfalso; omega
        · exfalso; omega
    · have c29 := zu_lcmp_sp a2 0
      refine zw_ite (fun h30 => ?_) (fun h30 => ?_)
      · have c31 := zu_lcmp_sp a1 0
        refine zw_ite (fun h32 => ?_) (fun h32 => ?_)
        · refine zw_nif (by omega) ?_
          have w33 := zu_w64_rg (Int.tdiv 1000000000000 a1)
          have c34 := zu_lcmp_sp a2 (zu_w64 (Int.tdiv 1000000000000 a1))
          refine zw_ite (fun h35 => ?_) (fun h35 => ?_)
          · have r36 : 0 ≤ (m0 a0 53) ∧ (m0 a0 53) ≤ 1 := zi_rd hIm0 hc0 zb_15_53
            refine zw_ite (fun h37 => ?_) (fun h37 => ?_)
            · refine zw_b (by omega) ?_
              generalize hmm38 : zu_up m0 a0 53 1 = m38
              have hIm38 := zi_up hmm38 hIm0 hc0 zb_15_53 (by omega) (by omega)
              have hFm38 := zfr_up hmm38 hFm0 hc0 rfl
              have r39 : 0 ≤ (m38 a0 53) ∧ (m38 a0 53) ≤ 1 := zi_rd hIm38 hc0 zb_15_53
              have e40 : (m38 a0 53) = 1 := (zs_eq hmm38)
              refine zw_ite (fun h41 => ?_) (fun h41 => ?_)
              · exfalso; omega
              · exact zw_some ⟨hIm38, hFm38, ⟨by omega, by omega⟩⟩
            · refine zw_ite (fun h42 => ?_) (fun h42 => ?_)
              · refine zw_b (by omega) ?_
                generalize hmm43 : zu_up m0 a0 53 0 = m43
                have hIm43 := zi_up hmm43 hIm0 hc0 zb_15_53 (by omega) (by omega)
                have hFm43 := zfr_up hmm43 hFm0 hc0 rfl
                have r44 : 0 ≤ (m43 a0 53) ∧ (m43 a0 53) ≤ 1 := zi_rd hIm43 hc0 zb_15_53
                have e45 : (m43 a0 53) = 0 := (zs_eq hmm43)
                refine zw_ite (fun h46 => ?_) (fun h46 => ?_)
                · have w47 := zu_w64_rg (a1 * a2)
                  exact zw_some ⟨hIm43, hFm43, ⟨by omega, by omega⟩⟩
                · exfalso; omega
              · exfalso; omega
          · have r48 : 0 ≤ (m0 a0 53) ∧ (m0 a0 53) ≤ 1 := zi_rd hIm0 hc0 zb_15_53
            refine zw_ite (fun h49 => ?_) (fun h49 => ?_)
            · refine zw_b (by omega) ?_
              generalize hmm50 : zu_up m0 a0 53 1 = m50
              have hIm50 := zi_up hmm50 hIm0 hc0 zb_15_53 (by omega) (by omega)
              have hFm50 := zfr_up hmm50 hFm0 hc0 rfl
              have r51 : 0 ≤ (m50 a0 53) ∧ (m50 a0 53) ≤ 1 := zi_rd hIm50 hc0 zb_15_53
              have e52 : (m50 a0 53) = 1 := (zs_eq hmm50)
              refine zw_ite (fun h53 => ?_) (fun h53 => ?_)
              · exfalso; omega
              · exact zw_some ⟨hIm50, hFm50, ⟨by omega, by omega⟩⟩
            · refine zw_ite (fun h54 => ?_) (fun h54 => ?_)
              · exfalso; omega
              · refine zw_b (by omega) ?_
                generalize hmm55 : zu_up m0 a0 53 1 = m55
                have hIm55 := zi_up hmm55 hIm0 hc0 zb_15_53 (by omega) (by omega)
                have hFm55 := zfr_up hmm55 hFm0 hc0 rfl
                have r56 : 0 ≤ (m55 a0 53) ∧ (m55 a0 53) ≤ 1 := zi_rd hIm55 hc0 zb_15_53
                have e57 : (m55 a0 53) = 1 := (zs_eq hmm55)
                refine zw_ite (fun h58 => ?_) (fun h58 => ?_)
                · exfalso; omega
                · exact zw_some ⟨hIm55, hFm55, ⟨by omega, by omega⟩⟩
        · have w59 := zu_w64_rg (-a1)
          have w60 := zu_w64_ng (x := a1) (by omega) (by omega)
          refine zw_nif (by omega) ?_
          have w61 := zu_w64_rg (Int.tdiv 1000000000000 (zu_w64 (-a1)))
          have c62 := zu_lcmp_sp a2 (zu_w64 (Int.tdiv 1000000000000 (zu_w64 (-a1))))
          refine zw_ite (fun h63 => ?_) (fun h63 => ?_)
          · have r64 : 0 ≤ (m0 a0 53) ∧ (m0 a0 53) ≤ 1 := zi_rd hIm0 hc0 zb_15_53
            refine zw_ite (fun h65 => ?_) (fun h65 => ?_)
            · refine zw_b (by omega) ?_
              generalize hmm66 : zu_up m0 a0 53 1 = m66
              have hIm66 := zi_up hmm66 hIm0 hc0 zb_15_53 (by omega) (by omega)
              have hFm66 := zfr_up hmm66 hFm0 hc0 rfl
              have r67 : 0 ≤ (m66 a0 53) ∧ (m66 a0 53) ≤ 1 := zi_rd hIm66 hc0 zb_15_53
              have e68 : (m66 a0 53) = 1 := (zs_eq hmm66)
              refine zw_ite (fun h69 => ?_) (fun h69 => ?_)
              · exfalso; omega
              · exact zw_some ⟨hIm66, hFm66, ⟨by omega, by omega⟩⟩
            · refine zw_ite (fun h70 => ?_) (fun h70 => ?_)
              · refine zw_b (by omega) ?_
                generalize hmm71 : zu_up m0 a0 53 0 = m71
                have hIm71 := zi_up hmm71 hIm0 hc0 zb_15_53 (by omega) (by omega)
                have hFm71 := zfr_up hmm71 hFm0 hc0 rfl
                have r72 : 0 ≤ (m71 a0 53) ∧ (m71 a0 53) ≤ 1 := zi_rd hIm71 hc0 zb_15_53
                have e73 : (m71 a0 53) = 0 := (zs_eq hmm71)
                refine zw_ite (fun h74 => ?_) (fun h74 => ?_)
                · have w75 := zu_w64_rg (a1 * a2)
                  exact zw_some ⟨hIm71, hFm71, ⟨by omega, by omega⟩⟩
                · exfalso; omega
              · exfalso; omega
          · have r76 : 0 ≤ (m0 a0 53) ∧ (m0 a0 53) ≤ 1 := zi_rd hIm0 hc0 zb_15_53
            refine zw_ite (fun h77 => ?_) (fun h77 => ?_)
            · refine zw_b (by omega) ?_
              generalize hmm78 : zu_up m0 a0 53 1 = m78
              have hIm78 := zi_up hmm78 hIm0 hc0 zb_15_53 (by omega) (by omega)
              have hFm78 := zfr_up hmm78 hFm0 hc0 rfl
              have r79 : 0 ≤ (m78 a0 53) ∧ (m78 a0 53) ≤ 1 := zi_rd hIm78 hc0 zb_15_53
              have e80 : (m78 a0 53) = 1 := (zs_eq hmm78)
              refine zw_ite (fun h81 => ?_) (fun h81 => ?_)
              · exfalso; omega
              · exact zw_some ⟨hIm78, hFm78, ⟨by omega, by omega⟩⟩
            · refine zw_ite (fun h82 => ?_) (fun h82 => ?_)
              · exfalso; omega
              · refine zw_b (by omega) ?_
                generalize hmm83 : zu_up m0 a0 53 1 = m83
                have hIm83 := zi_up hmm83 hIm0 hc0 zb_15_53 (by omega) (by omega)
                have hFm83 := zfr_up hmm83 hFm0 hc0 rfl
                have r84 : 0 ≤ (m83 a0 53) ∧ (m83 a0 53) ≤ 1 := zi_rd hIm83 hc0 zb_15_53
                have e85 : (m83 a0 53) = 1 := (zs_eq hmm83)
                refine zw_ite (fun h86 => ?_) (fun h86 => ?_)
                · exfalso; omega
                · exact zw_some ⟨hIm83, hFm83, ⟨by omega, by omega⟩⟩
      · have w87 := zu_w64_rg (-a2)
        have w88 := zu_w64_ng (x := a2) (by omega) (by omega)
        have c89 := zu_lcmp_sp a1 0
        refine zw_ite (fun h90 => ?_) (fun h90 => ?_)
        · refine zw_nif (by omega) ?_
          have w91 := zu_w64_rg (Int.tdiv 1000000000000 a1)
          have c92 := zu_lcmp_sp (zu_w64 (-a2)) (zu_w64 (Int.tdiv 1000000000000 a1))
          refine zw_ite (fun h93 => ?_) (fun h93 => ?_)
          · have r94 : 0 ≤ (m0 a0 53) ∧ (m0 a0 53) ≤ 1 := zi_rd hIm0 hc0 zb_15_53
            refine zw_ite (fun h95 => ?_) (fun h95 => ?_)
            · refine zw_b (by omega) ?_
              generalize hmm96 : zu_up m0 a0 53 1 = m96
              have hIm96 := zi_up hmm96 hIm0 hc0 zb_15_53 (by omega) (by omega)
              have hFm96 := zfr_up hmm96 hFm0 hc0 rfl
              have r97 : 0 ≤ (m96 a0 53) ∧ (m96 a0 53) ≤ 1 := zi_rd hIm96 hc0 zb_15_53
              have e98 : (m96 a0 53) = 1 := (zs_eq hmm96)
              refine zw_ite (fun h99 => ?_) (fun h99 => ?_)
              · exfalso; omega
              · exact zw_some ⟨hIm96, hFm96, ⟨by omega, by omega⟩⟩
            · refine zw_ite (fun h100 => ?_) (fun h100 => ?_)
              · refine zw_b (by omega) ?_
                generalize hmm101 : zu_up m0 a0 53 0 = m101
                have hIm101 := zi_up hmm101 hIm0 hc0 zb_15_53 (by omega) (by omega)
                have hFm101 := zfr_up hmm101 hFm0 hc0 rfl
                have r102 : 0 ≤ (m101 a0 53) ∧ (m101 a0 53) ≤ 1 := zi_rd hIm101 hc0 zb_15_53
                have e103 : (m101 a0 53) = 0 := (zs_eq hmm101)
                refine zw_ite (fun h104 => ?_) (fun h104 => ?_)
                · have w105 := zu_w64_rg (a1 * a2)
                  exact zw_some ⟨hIm101, hFm101, ⟨by omega, by omega⟩⟩
                · exfalso; omega
              · exfalso; omega
          · have r106 : 0 ≤ (m0 a0 53) ∧ (m0 a0 53) ≤ 1 := zi_rd hIm0 hc0 zb_15_53
            refine zw_ite (fun h107 => ?_) (fun h107 => ?_)
            · refine zw_b (by omega) ?_
              generalize hmm108 : zu_up m0 a0 53 1 = m108
              have hIm108 := zi_up hmm108 hIm0 hc0 zb_15_53 (by omega) (by omega)
              have hFm108 := zfr_up hmm108 hFm0 hc0 rfl
              have r109 : 0 ≤ (m108 a0 53) ∧ (m108 a0 53) ≤ 1 := zi_rd hIm108 hc0 zb_15_53
              have e110 : (m108 a0 53) = 1 := (zs_eq hmm108)
              refine zw_ite (fun h111 => ?_) (fun h111 => ?_)
              · exfalso; omega
              · exact zw_some ⟨hIm108, hFm108, ⟨by omega, by omega⟩⟩
            · refine zw_ite (fun h112 => ?_) (fun h112 => ?_)
              · exfalso; omega
              · refine zw_b (by omega) ?_
                generalize hmm113 : zu_up m0 a0 53 1 = m113
                have hIm113 := zi_up hmm113 hIm0 hc0 zb_15_53 (by omega) (by omega)
                have hFm113 := zfr_up hmm113 hFm0 hc0 rfl
                have r114 : 0 ≤ (m113 a0 53) ∧ (m113 a0 53) ≤ 1 := zi_rd hIm113 hc0 zb_15_53
                have e115 : (m113 a0 53) = 1 := (zs_eq hmm113)
                refine zw_ite (fun h116 => ?_) (fun h116 => ?_)
                · exfalso; omega
                · exact zw_some ⟨hIm113, hFm113, ⟨by omega, by omega⟩⟩
        · have w117 := zu_w64_rg (-a1)
          have w118 := zu_w64_ng (x := a1) (by omega) (by omega)
          refine zw_nif (by omega) ?_
          have w119 := zu_w64_rg (Int.tdiv 1000000000000 (zu_w64 (-a1)))
          have c120 := zu_lcmp_sp (zu_w64 (-a2)) (zu_w64 (Int.tdiv 1000000000000 (zu_w64 (-a1))))
          refine zw_ite (fun h121 => ?_) (fun h121 => ?_)
          · have r122 : 0 ≤ (m0 a0 53) ∧ (m0 a0 53) ≤ 1 := zi_rd hIm0 hc0 zb_15_53
            refine zw_ite (fun h123 => ?_) (fun h123 => ?_)
            · refine zw_b (by omega) ?_
              generalize hmm124 : zu_up m0 a0 53 1 = m124
              have hIm124 := zi_up hmm124 hIm0 hc0 zb_15_53 (by omega) (by omega)
              have hFm124 := zfr_up hmm124 hFm0 hc0 rfl
              have r125 : 0 ≤ (m124 a0 53) ∧ (m124 a0 53) ≤ 1 := zi_rd hIm124 hc0 zb_15_53
              have e126 : (m124 a0 53) = 1 := (zs_eq hmm124)
              refine zw_ite (fun h127 => ?_) (fun h127 => ?_)
              · exfalso; omega
              · exact zw_some ⟨hIm124, hFm124, ⟨by omega, by omega⟩⟩
            · refine zw_ite (fun h128 => ?_) (fun h128 => ?_)
              · refine zw_b (by omega) ?_
                generalize hmm129 : zu_up m0 a0 53 0 = m129
                have hIm129 := zi_up hmm129 hIm0 hc0 zb_15_53 (by omega) (by omega)
                have hFm129 := zfr_up hmm129 hFm0 hc0 rfl
                have r130 : 0 ≤ (m129 a0 53) ∧ (m129 a0 53) ≤ 1 := zi_rd hIm129 hc0 zb_15_53
                have e131 : (m129 a0 53) = 0 := (zs_eq hmm129)
                refine zw_ite (fun h132 => ?_) (fun h132 => ?_)
                · have w133 := zu_w64_rg (a1 * a2)
                  exact zw_some ⟨hIm129, hFm129, ⟨by omega, by omega⟩⟩
                · exfalso; omega
              · exfalso; omega
          · have r134 : 0 ≤ (m0 a0 53) ∧ (m0 a0 53) ≤ 1 := zi_rd hIm0 hc0 zb_15_53
            refine zw_ite (fun h135 => ?_) (fun h135 => ?_)
            · refine zw_b (by omega) ?_
              generalize hmm136 : zu_up m0 a0 53 1 = m136
              have hIm136 := zi_up hmm136 hIm0 hc0 zb_15_53 (by omega) (by omega)
              have hFm136 := zfr_up hmm136 hFm0 hc0 rfl
              have r137 : 0 ≤ (m136 a0 53) ∧ (m136 a0 53) ≤ 1 := zi_rd hIm136 hc0 zb_15_53
              have e138 : (m136 a0 53) = 1 := (zs_eq hmm136)
              refine zw_ite (fun h139 => ?_) (fun h139 => ?_)
              · exfalso; omega
              · exact zw_some ⟨hIm136, hFm136, ⟨by omega, by omega⟩⟩
            · refine zw_ite (fun h140 => ?_) (fun h140 => ?_)
              · exfalso; omega
              · refine zw_b (by omega) ?_
                generalize hmm141 : zu_up m0 a0 53 1 = m141
                have hIm141 := zi_up hmm141 hIm0 hc0 zb_15_53 (by omega) (by omega)
                have hFm141 := zfr_up hmm141 hFm0 hc0 rfl
                have r142 : 0 ≤ (m141 a0 53) ∧ (m141 a0 53) ≤ 1 := zi_rd hIm141 hc0 zb_15_53
                have e143 : (m141 a0 53) = 1 := (zs_eq hmm141)
                refine zw_ite (fun h144 => ?_) (fun h144 => ?_)
                · exfalso; omega
                · exact zw_some ⟨hIm141, hFm141, ⟨by omega, by omega⟩⟩
set_option maxHeartbeats 4000000 in
theorem zl_130 (n : Nat) {a0 a1 a2 : Int} {m0 : zu_m} (hc0 : zcls a0 = 15)  : ∀ k : Nat, (∀ (x3 x4 : Int) (mh : zu_m), zi_I mh → zfr [] m0 mh → (0 ≤ a1 ∧ a1 ≤ 1) → (0 ≤ a2 ∧ a2 ≤ 23) → ((-2147483648) ≤ x3 ∧ x3 ≤ 2147483647) → (0 ≤ x4 ∧ x4 ≤ 18) → (18 - x4) * 1 + 0 < (k : Int) → zw (zu_ex (zt_T n) 130 5 [(40, a0), (0, a1), (0, a2), (0, x3), (0, x4)] [] mh) (fun v m => zi_I m ∧ zfr [] m0 m ∧ ((-2147483648) ≤ v ∧ v ≤ 2147483647))) := by
  intro k
  induction k with
  | zero => exact fun x3 x4 mh hImh hFmh hba1 hba2 hbx3 hbx4 hM => by exfalso; omega
  | succ k ih =>
    intro x3 x4 mh hImh hFmh hba1 hba2 hbx3 hbx4 hM
    refine zw_eq (zr_130_5 n a0 a1 a2 x3 x4 mh) ?_
    have b1 : 0 ≤ a1 ∧ a1 < 2 := by omega
    refine zw_if b1 ?_
    have r2 : 0 ≤ (mh 216 a1) ∧ (mh 216 a1) ≤ 18 := zi_rdr (m := 2) (r0 := 0) (r1 := 1) hImh zq_216 (by omega) (by decide +kernel)
    refine zw_ite (fun h3 => ?_) (fun h3 => ?_)
    · exact zw_some ⟨hImh, hFmh, ⟨by omega, by omega⟩⟩
    · have w4 := zu_w32_id (z := 18 * a1) (by omega) (by omega)
      have w5 := zu_w32_id (z := (zu_w32 (18 * a1)) + x4) (by omega) (by omega)
      have b6 : 0 ≤ (zu_w32 ((zu_w32 (18 * a1)) + x4)) ∧ (zu_w32 ((zu_w32 (18 * a1)) + x4)) < 36 := by omega
      refine zw_if b6 ?_
      have r7 : (-3) ≤ (mh 215 (zu_w32 ((zu_w32 (18 * a1)) + x4))) ∧ (mh 215 (zu_w32 ((zu_w32 (18 * a1)) + x4))) ≤ 3 := zi_rd hImh zq_215 (zb_85 _)
      refine zw_ite (fun h8 => ?_) (fun h8 => ?_)
      · have w9 := zu_w32_id (z := x3 + 0) (by omega) (by omega)
        have w10 := zu_w32_id (z := x4 + 1) (by omega) (by omega)
        have hM : (18 - (zu_w32 (x4 + 1))) * 1 + 0 < (k : Int) := by omega
        exact ih (zu_w32 (x3 + 0)) (zu_w32 (x4 + 1)) mh hImh hFmh ⟨by omega, by omega⟩ ⟨by omega, by omega⟩ ⟨by omega, by omega⟩ ⟨by omega, by omega⟩ hM
      · have w11 := zu_w32_rg (x3 + 1)
        have w12 := zu_w32_id (z := x4 + 1) (by omega) (by omega)
        have hM : (18 - (zu_w32 (x4 + 1))) * 1 + 0 < (k : Int) := by omega
        exact ih (zu_w32 (x3 + 1)) (zu_w32 (x4 + 1)) mh hImh hFmh ⟨by omega, by omega⟩ ⟨by omega, by omega⟩ ⟨by omega, by omega⟩ ⟨by omega, by omega⟩ hM
set_option maxHeartbeats 4000000 in
theorem zk_130 (n : Nat) {a0 a1 a2 : Int} {m0 : zu_m} (hIm0 : zi_I m0) (hc0 : zcls a0 = 15) (ha1 : 0 ≤ a1 ∧ a1 ≤ 1) (ha2 : 0 ≤ a2 ∧ a2 ≤ 23)    : zw (zu_call (zt_T n) 130 [(40, a0), (0, a1), (0, a2)] m0) (fun v m => zi_I m ∧ zfr [] m0 m ∧ ((-2147483648) ≤ v ∧ v ≤ 2147483647)) := by
  have hFm0 : zfr [] m0 m0 := zfr_rf _ _
  refine zw_eq (zr_130_0 n a0 a1 a2 m0) ?_
  have hM : (18 - 0) * 1 + 0 < ((19 : Nat) : Int) := by omega
  exact (zl_130 n (m0 := m0) hc0 19) 0 0 m0 hIm0 hFm0 ⟨by omega, by omega⟩ ⟨by omega, by omega⟩ ⟨by omega, by omega⟩ ⟨by omega, by omega⟩ hM
set_option maxHeartbeats 4000000 in
theorem zk_135 (n : Nat) {a0 a1 a2 : Int} {m0 : zu_m} (hIm0 : zi_I m0) (hc0 : zcls a0 = 15) (ha1 : 0 ≤ a1 ∧ a1 ≤ 47) (ha2 : 0 ≤ a2 ∧ a2 ≤ 47)    : zw (zu_call (zt_T n) 135 [(40, a0), (0, a1), (0, a2)] m0) (fun v m => zi_I m ∧ zfr [] m0 m ∧ (0 ≤ v ∧ v ≤ 54)) := by
  have hFm0 : zfr [] m0 m0 := zfr_rf _ _
  refine zw_eq (zr_135_0 n a0 a1 a2 m0) ?_
  have r1 : 1 ≤ (m0 a0 12) ∧ (m0 a0 12) ≤ 8 := zi_rd hIm0 hc0 zb_15_12
  refine zw_nif (by omega) ?_
  have d2 := ztmod_bd (x := a1) (y := (m0 a0 12)) (by omega) (by omega)
  refine zw_nif (by omega) ?_
  have d3 := ztmod_bd (x := a2) (y := (m0 a0 12)) (by omega) (by omega)
  have w4 := zu_w32_id (z := (Int.tmod a1 (m0 a0 12)) - (Int.tmod a2 (m0 a0 12))) (by omega) (by omega)
  refine zw_nif (by omega) ?_
  have d5 := ztdiv_bd (x := a1) (y := (m0 a0 12)) (by omega) (by omega)
  have w6 := zu_w32_id (z := Int.tdiv a1 (m0 a0 12)) (by omega) (by omega)
  refine zw_nif (by omega) ?_
  have d7 := ztdiv_bd (x := a2) (y := (m0 a0 12)) (by omega) (by omega)
  have w8 := zu_w32_id (z := Int.tdiv a2 (m0 a0 12)) (by omega) (by omega)
  have w9 := zu_w32_id (z := (zu_w32 (Int.tdiv a1 (m0 a0 12))) - (zu_w32 (Int.tdiv a2 (m0 a0 12)))) (by omega) (by omega)
  refine zw_ite (fun h10 => ?_) (fun h10 => ?_)
  · refine zw_ite (fun h11 => ?_) (fun h11 => ?_)
    · have w12 := zu_w32_id (z := (zu_w32 ((Int.tmod a1 (m0 a0 12)) - (Int.tmod a2 (m0 a0 12)))) + (zu_w32 ((zu_w32 (Int.tdiv a1 (m0 a0 12))) - (zu_w32 (Int.tdiv a2 (m0 a0 12)))))) (by omega) (by omega)
      exact zw_some ⟨hIm0, hFm0, ⟨by omega, by omega⟩⟩
    · have w13 := zu_w32_id (z := -(zu_w32 ((zu_w32 (Int.tdiv a1 (m0 a0 12))) - (zu_w32 (Int.tdiv a2 (m0 a0 12)))))) (by omega) (by omega)
      have w14 := zu_w32_id (z := (zu_w32 ((Int.tmod a1 (m0 a0 12)) - (Int.tmod a2 (m0 a0 12)))) + (zu_w32 (-(zu_w32 ((zu_w32 (Int.tdiv a1 (m0 a0 12))) - (zu_w32 (Int.tdiv a2 (m0 a0 12)))))))) (by omega) (by omega)
      exact zw_some ⟨hIm0, hFm0, ⟨by omega, by omega⟩⟩
  · have w15 := zu_w32_id (z := -(zu_w32 ((Int.tmod a1 (m0 a0 12)) - (Int.tmod a2 (m0 a0 12))))) (by omega) (by omega)
    refine zw_ite (fun h16 => ?_) (fun h16 => ?_)
    · have w17 := zu_w32_id (z := (zu_w32 (-(zu_w32 ((Int.tmod a1 (m0 a0 12)) - (Int.tmod a2 (m0 a0 12)))))) + (zu_w32 ((zu_w32 (Int.tdiv a1 (m0 a0 12))) - (zu_w32 (Int.tdiv a2 (m0 a0 12)))))) (by omega) (by omega)
      exact zw_some ⟨hIm0, hFm0, ⟨by omega, by omega⟩⟩
    · have w18 := zu_w32_id (z := -(zu_w32 ((zu_w32 (Int.tdiv a1 (m0 a0 12))) - (zu_w32 (Int.tdiv a2 (m0 a0 12)))))) (by omega) (by omega)
      have w19 := zu_w32_id (z := (zu_w32 (-(zu_w32 ((Int.tmod a1 (m0 a0 12)) - (Int.tmod a2 (m0 a0 12)))))) + (zu_w32 (-(zu_w32 ((zu_w32 (Int.tdiv a1 (m0 a0 12))) - (zu_w32 (Int.tdiv a2 (m0 a0 12)))))))) (by omega) (by omega)
      exact zw_some ⟨hIm0, hFm0, ⟨by omega, by omega⟩⟩
set_option maxHeartbeats 4000000 in
theorem zk_136 (n : Nat) {a0 a1 : Int} {m0 : zu_m} (hIm0 : zi_I m0) (hc0 : zcls a0 = 15) (ha1 : 1 ≤ a1 ∧ a1 ≤ 100)    : zw (zu_call (zt_T n) 136 [(40, a0), (0, a1)] m0) (fun v m => zi_I m ∧ zfr [(15, 64)] m0 m ∧ ((-99) ≤ v ∧ v ≤ 99)) := by
  have hFm0 : zfr [(15, 64)] m0 m0 := zfr_rf _ _
  refine zw_eq (zr_136_0 n a0 a1 m0) ?_
  have r1 : (-9223372036854775808) ≤ (m0 a0 63) ∧ (m0 a0 63) ≤ 9223372036854775807 := zi_rd hIm0 hc0 zb_15_63
  have w2 := zu_w64_rg ((m0 a0 63) * 1103515245)
  have w3 := zu_w64_rg ((zu_w64 ((m0 a0 63) * 1103515245)) + 12345)
  have b4 := zu_i64_rg 3 (zu_w64 ((zu_w64 ((m0 a0 63) * 1103515245)) + 12345)) 2147483647
  generalize hmm5 : zu_up m0 a0 63 (zu_i64 3 (zu_w64 ((zu_w64 ((m0 a0 63) * 1103515245)) + 12345)) 2147483647) = m5
  have hIm5 := zi_up hmm5 hIm0 hc0 zb_15_63 (by omega) (by omega)
  have hFm5 := zfr_up hmm5 hFm0 hc0 rfl
  have r6 : (-9223372036854775808) ≤ (m5 a0 63) ∧ (m5 a0 63) ≤ 9223372036854775807 := zi_rd hIm5 hc0 zb_15_63
  have e7 : (m5 a0 63) = (zu_i64 3 (zu_w64 ((zu_w64 ((m0 a0 63) * 1103515245)) + 12345)) 2147483647) := (zs_eq hmm5)
  refine zw_nif (by omega) ?_
  have w8 := zu_w64_rg (Int.tdiv (m5 a0 63) 65536)
  refine zw_nif (by omega) ?_
  have d9 := ztmod_b2 (x := (zu_w64 (Int.tdiv (m5 a0 63) 65536))) (y := a1) (by omega)
  have w10 := zu_w32_id (z := (Int.tmod (zu_w64 (Int.tdiv (m5 a0 63) 65536)) a1)) (by omega) (by omega)
  exact zw_some ⟨hIm5, hFm5, ⟨by omega, by omega⟩⟩
set_option maxHeartbeats 4000000 in
theorem zk_167 (n : Nat) {a0 a1 a2 : Int} {m0 : zu_m} (hIm0 : zi_I m0) (hc0 : zcls a0 = 15) (ha1 : 0 ≤ a1 ∧ a1 ≤ 3) (ha2 : 0 ≤ a2 ∧ a2 ≤ 3)    : zw (zu_call (zt_T n) 167 [(40, a0), (0, a1), (0, a2)] m0) (fun v m => zi_I m ∧ zfr [] m0 m ∧ ((-2147483648) ≤ v ∧ v ≤ 2147483647)) := by
  have hFm0 : zfr [] m0 m0 := zfr_rf _ _
  refine zw_eq (zr_167_0 n a0 a1 a2 m0) ?_
  refine zw_ite (fun h1 => ?_) (fun h1 => ?_)
  · have b2 : 0 ≤ a1 ∧ a1 < 4 := by omega
    refine zw_if b2 ?_
    have r3 : 0 ≤ (m0 224 a1) ∧ (m0 224 a1) ≤ 47 := zi_rd hIm0 zq_224 (zb_94 _)
    have b4 : 0 ≤ (m0 224 a1) ∧ (m0 224 a1) < 48 := by omega
    refine zw_if b4 ?_
    have r5 : (-2147483648) ≤ (m0 222 (m0 224 a1)) ∧ (m0 222 (m0 224 a1)) ≤ 2147483647 := zi_rd hIm0 zq_222 (zb_92 _)
    exact zw_some ⟨hIm0, hFm0, ⟨by omega, by omega⟩⟩
  · have b6 : 0 ≤ a1 ∧ a1 < 4 := by omega
    refine zw_if b6 ?_
    have r7 : 0 ≤ (m0 224 a1) ∧ (m0 224 a1) ≤ 47 := zi_rd hIm0 zq_224 (zb_94 _)
    have b8 : 0 ≤ (m0 224 a1) ∧ (m0 224 a1) < 48 := by omega
    refine zw_if b8 ?_
    have r9 : (-2147483648) ≤ (m0 222 (m0 224 a1)) ∧ (m0 222 (m0 224 a1)) ≤ 2147483647 := zi_rd hIm0 zq_222 (zb_92 _)
    refine zw_nif (by omega) ?_
    have w10 := zu_w32_rg (Int.tdiv (m0 222 (m0 224 a1)) 2)
    exact zw_some ⟨hIm0, hFm0, ⟨by omega, by omega⟩⟩
set_option maxHeartbeats 4000000 in
theorem zl_186 (n : Nat) {a0 a1 : Int} {m0 : zu_m} (hc0 : zcls a0 = 15)  : ∀ k : Nat, (∀ (x2 x3 : Int) (mh : zu_m), zi_I mh → zfr [] m0 mh → (0 ≤ a1 ∧ a1 ≤ 1) → ((-2147483648) ≤ x2 ∧ x2 ≤ 2147483647) → (0 ≤ x3 ∧ x3 ≤ 18) → (18 - x3) * 1 + 0 < (k : Int) → zw (zu_ex (zt_T n) 186 4 [(40, a0), (0, a1), (0, x2), (0, x3)] [] mh) (fun v m => zi_I m ∧ zfr [] m0 m ∧ ((-2147483648) ≤ v ∧ v ≤ 2147483647))) := by
  intro k
  induction k with
  | zero => exact fun x2 x3 mh hImh hFmh hba1 hbx2 hbx3 hM => by exfalso; omega
  | succ k ih =>
    intro x2 x3 mh hImh hFmh hba1 hbx2 hbx3 hM
    refine zw_eq (zr_186_4 n a0 a1 x2 x3 mh) ?_
    have b1 : 0 ≤ a1 ∧ a1 < 2 := by omega
    refine zw_if b1 ?_
    have r2 : 0 ≤ (mh 216 a1) ∧ (mh 216 a1) ≤ 18 := zi_rdr (m := 2) (r0 := 0) (r1 := 1) hImh zq_216 (by omega) (by decide +kernel)
    refine zw_ite (fun h3 => ?_) (fun h3 => ?_)
    · exact zw_some ⟨hImh, hFmh, ⟨by omega, by omega⟩⟩
    · have w4 := zu_w32_id (z := 18 * a1) (by omega) (by omega)
      have w5 := zu_w32_id (z := (zu_w32 (18 * a1)) + x3) (by omega) (by omega)
      have b6 : 0 ≤ (zu_w32 ((zu_w32 (18 * a1)) + x3)) ∧ (zu_w32 ((zu_w32 (18 * a1)) + x3)) < 36 := by omega
      refine zw_if b6 ?_
      have r7 : (-3) ≤ (mh 215 (zu_w32 ((zu_w32 (18 * a1)) + x3))) ∧ (mh 215 (zu_w32 ((zu_w32 (18 * a1)) + x3))) ≤ 3 := zi_rd hImh zq_215 (zb_85 _)
      refine zw_ite (fun h8 => ?_) (fun h8 => ?_)
      · have w9 := zu_w32_id (z := x2 + 0) (by omega) (by omega)
        have w10 := zu_w32_id (z := x3 + 1) (by omega) (by omega)
        have hM : (18 - (zu_w32 (x3 + 1))) * 1 + 0 < (k : Int) := by omega
        exact ih (zu_w32 (x2 + 0)) (zu_w32 (x3 + 1)) mh hImh hFmh ⟨by omega, by omega⟩ ⟨by omega, by omega⟩ ⟨by omega, by omega⟩ hM
      · have w11 := zu_w32_rg (x2 + 1)
        have w12 := zu_w32_id (z := x3 + 1) (by omega) (by omega)
        have hM : (18 - (zu_w32 (x3 + 1))) * 1 + 0 < (k : Int) := by omega
        exact ih (zu_w32 (x2 + 1)) (zu_w32 (x3 + 1)) mh hImh hFmh ⟨by omega, by omega⟩ ⟨by omega, by omega⟩ ⟨by omega, by omega⟩ hM
set_option maxHeartbeats 4000000 in
theorem zk_186 (n : Nat) {a0 a1 : Int} {m0 : zu_m} (hIm0 : zi_I m0) (hc0 : zcls a0 = 15) (ha1 : 0 ≤ a1 ∧ a1 ≤ 1)    : zw (zu_call (zt_T n) 186 [(40, a0), (0, a1)] m0) (fun v m => zi_I m ∧ zfr [] m0 m ∧ ((-2147483648) ≤ v ∧ v ≤ 2147483647)) := by
  have hFm0 : zfr [] m0 m0 := zfr_rf _ _
  refine zw_eq (zr_186_0 n a0 a1 m0) ?_
  have hM : (18 - 0) * 1 + 0 < ((19 : Nat) : Int) := by omega
  exact (zl_186 n (m0 := m0) hc0 19) 0 0 m0 hIm0 hFm0 ⟨by omega, by omega⟩ ⟨by omega, by omega⟩ ⟨by omega, by omega⟩ hM
set_option maxHeartbeats 4000000 in
theorem zl_188_15_98 (n : Nat) {a0 a1 a2 : Int} {m0 : zu_m} (hc0 : zcls a0 = 15) (hc1 : zcls a1 = 98) (hmd2 : a2 % 22 = 0) : ∀ k : Nat, (∀ (x3 : Int) (mh : zu_m), zi_I mh → zfr [(98, 0)] m0 mh → (0 ≤ a2 ∧ a2 ≤ 418) → (0 ≤ x3 ∧ x3 ≤ 4) → (4 - x3) * 1 + 17 < (k : Int) → zw (zu_ex (zt_T n) 188 20 [(40, a0), (51, a1), (0, a2), (0, x3)] [] mh) (fun v m => zi_I m ∧ zfr [(98, 0)] m0 m ∧ True)) ∧ (∀ (x3 : Int) (mh : zu_m), zi_I mh → zfr [(98, 0)] m0 mh → (0 ≤ a2 ∧ a2 ≤ 418) → (0 ≤ x3 ∧ x3 ≤ 16) → (16 - x3) * 1 + 0 < (k : Int) → zw (zu_ex (zt_T n) 188 46 [(40, a0), (51, a1), (0, a2), (0, x3)] [] mh) (fun v m => zi_I m ∧ zfr [(98, 0)] m0 m ∧ True)) := by
  intro k
  induction k with
  | zero => exact ⟨fun x3 mh hImh hFmh hba2 hbx3 hM => by exfalso; omega, fun x3 mh hImh hFmh hba2 hbx3 hM => by exfalso; omega⟩
  | succ k ih =>
    refine ⟨?_, ?_⟩
    · intro x3 mh hImh hFmh hba2 hbx3 hM
      refine zw_eq (zr_188_20 n a0 a1 a2 x3 mh) ?_
      refine zw_ite (fun h1 => ?_) (fun h1 => ?_)
      · have hM : (16 - 0) * 1 + 0 < (k : Int) := by omega
        exact ih.2 0 mh hImh hFmh ⟨by omega, by omega⟩ ⟨by omega, by omega⟩ hM
      · have w2 := zu_w32_id (z := a2 + 2) (by omega) (by omega)
        have w3 := zu_w32_id (z := (zu_w32 (a2 + 2)) + x3) (by omega) (by omega)
        have b4 : 0 ≤ x3 ∧ x3 < 8 := by omega
        refine zw_if b4 ?_
        have r5 : 0 ≤ (mh 217 x3) ∧ (mh 217 x3) ≤ 47 := zi_rd hImh zq_217 (zb_87 _)
        have b6 : 0 ≤ (zu_w32 ((zu_w32 (a2 + 2)) + x3)) ∧ (zu_w32 ((zu_w32 (a2 + 2)) + x3)) < 440 := by omega
        refine zw_if b6 ?_
        generalize hmm7 : zu_up mh a1 (zu_w32 ((zu_w32 (a2 + 2)) + x3)) (mh 217 x3) = m7
        have hIm7 := zi_upr (m := 22) (r0 := 2) (r1 := 5) (lo := 0) (hi := 47) hmm7 hImh hc1 (by omega) (by decide +kernel) (by omega) (by omega)
        have hFm7 := zfr_up hmm7 hFmh hc1 rfl
        have w8 := zu_w32_id (z := x3 + 1) (by omega) (by omega)
        have hM : (4 - (zu_w32 (x3 + 1))) * 1 + 17 < (k : Int) := by omega
        exact ih.1 (zu_w32 (x3 + 1)) m7 hIm7 hFm7 ⟨by omega, by omega⟩ ⟨by omega, by omega⟩ hM
    · intro x3 mh hImh hFmh hba2 hbx3 hM
      refine zw_eq (zr_188_46 n a0 a1 a2 x3 mh) ?_
      refine zw_ite (fun h9 => ?_) (fun h9 => ?_)
      · exact zw_some ⟨hImh, hFmh, trivial⟩
      · have w10 := zu_w32_id (z := a2 + 6) (by omega) (by omega)
        have w11 := zu_w32_id (z := (zu_w32 (a2 + 6)) + x3) (by omega) (by omega)
        have b12 : 0 ≤ x3 ∧ x3 < 36 := by omega
        refine zw_if b12 ?_
        have r13 : 0 ≤ (mh 197 x3) ∧ (mh 197 x3) ≤ 47 := zi_rd hImh zq_197 (zb_67 _)
        have b14 : 0 ≤ x3 ∧ x3 < 36 := by omega
        refine zw_if b14 ?_
        have r15 : 0 ≤ (mh 198 x3) ∧ (mh 198 x3) ≤ 3 := zi_rd hImh zq_198 (zb_68 _)
        have b16 : 0 ≤ x3 ∧ x3 < 36 := by omega
        refine zw_if b16 ?_
        have r17 : 0 ≤ (mh 199 x3) ∧ (mh 199 x3) ≤ 9 := zi_rd hImh zq_199 (zb_69 _)
        have w18 := zu_w32_id (z := 4 * (mh 199 x3)) (by omega) (by omega)
        have w19 := zu_w32_id (z := (mh 198 x3) + (zu_w32 (4 * (mh 199 x3)))) (by omega) (by omega)
        have w20 := zu_w32_id (z := 48 * (zu_w32 ((mh 198 x3) + (zu_w32 (4 * (mh 199 x3)))))) (by omega) (by omega)
        have w21 := zu_w32_id (z := (mh 197 x3) + (zu_w32 (48 * (zu_w32 ((mh 198 x3) + (zu_w32 (4 * (mh 199 x3)))))))) (by omega) (by omega)
        have b22 : 0 ≤ (zu_w32 ((zu_w32 (a2 + 6)) + x3)) ∧ (zu_w32 ((zu_w32 (a2 + 6)) + x3)) < 440 := by omega
        refine zw_if b22 ?_
        generalize hmm23 : zu_up mh a1 (zu_w32 ((zu_w32 (a2 + 6)) + x3)) (zu_w32 ((mh 197 x3) + (zu_w32 (48 * (zu_w32 ((mh 198 x3) + (zu_w32 (4 * (mh 199 x3))))))))) = m23
        have hIm23 := zi_upr (m := 22) (r0 := 6) (r1 := 21) (lo := 0) (hi := 1919) hmm23 hImh hc1 (by omega) (by decide +kernel) (by omega) (by omega)
        have hFm23 := zfr_up hmm23 hFmh hc1 rfl
        have w24 := zu_w32_id (z := x3 + 1) (by omega) (by omega)
        have hM : (16 - (zu_w32 (x3 + 1))) * 1 + 0 < (k : Int) := by omega
        exact ih.2 (zu_w32 (x3 + 1)) m23 hIm23 hFm23 ⟨by omega, by omega⟩ ⟨by omega, by omega⟩ hM
set_option maxHeartbeats 4000000 in
theorem zk_188_15_98 (n : Nat) {a0 a1 a2 : Int} {m0 : zu_m} (hIm0 : zi_I m0) (hc0 : zcls a0 = 15) (hc1 : zcls a1 = 98) (ha2 : 0 ≤ a2 ∧ a2 ≤ 418) (hmd2 : a2 % 22 = 0)   : zw (zu_call (zt_T n) 188 [(40, a0), (51, a1), (0, a2)] m0) (fun v m => zi_I m ∧ zfr [(98, 0)] m0 m ∧ True) := by
  have hFm0 : zfr [(98, 0)] m0 m0 := zfr_rf _ _
  refine zw_eq (zr_188_0 n a0 a1 a2 m0) ?_
  have b25 : 0 ≤ (0 : Int) ∧ (0 : Int) < 2 := by omega
  refine zw_if b25 ?_
  have r26 : 0 ≤ (m0 216 0) ∧ (m0 216 0) ≤ 16 := zi_rdr (m := 2) (r0 := 0) (r1 := 0) hIm0 zq_216 (by omega) (by decide +kernel)
  have b27 : 0 ≤ a2 ∧ a2 < 440 := by omega
  refine zw_if b27 ?_
  generalize hmm28 : zu_up m0 a1 a2 (m0 216 0) = m28
  have hIm28 := zi_upr (m := 22) (r0 := 0) (r1 := 0) (lo := 0) (hi := 16) hmm28 hIm0 hc1 (by omega) (by decide +kernel) (by omega) (by omega)
  have hFm28 := zfr_up hmm28 hFm0 hc1 rfl
  have w29 := zu_w32_id (z := a2 + 1) (by omega) (by omega)
  have r30 : (-2147483648) ≤ (m28 a0 62) ∧ (m28 a0 62) ≤ 2147483647 := zi_rd hIm28 hc0 zb_15_62
  have b31 : 0 ≤ (zu_w32 (a2 + 1)) ∧ (zu_w32 (a2 + 1)) < 440 := by omega
  refine zw_if b31 ?_
  generalize hmm32 : zu_up m28 a1 (zu_w32 (a2 + 1)) (m28 a0 62) = m32
  have hIm32 := zi_upr (m := 22) (r0 := 1) (r1 := 1) (lo := (-2147483648)) (hi := 2147483647) hmm32 hIm28 hc1 (by omega) (by decide +kernel) (by omega) (by omega)
  have hFm32 := zfr_up hmm32 hFm28 hc1 rfl
  have hM : (4 - 0) * 1 + 17 < ((22 : Nat) : Int) := by omega
  exact (zl_188_15_98 n (m0 := m0) hc0 hc1 hmd2 22).1 0 m32 hIm32 hFm32 ⟨by omega, by omega⟩ ⟨by omega, by omega⟩ hM
set_option maxHeartbeats 4000000 in
theorem zl_188_15_99 (n : Nat) {a0 a1 a2 : Int} {m0 : zu_m} (hc0 : zcls a0 = 15) (hc1 : zcls a1 = 99) (hmd2 : a2 % 22 = 0) : ∀ k : Nat, (∀ (x3 : Int) (mh : zu_m), zi_I mh → zfr [(99, 0)] m0 mh → (0 ≤ a2 ∧ a2 ≤ 0) → (0 ≤ x3 ∧ x3 ≤ 4) → (4 - x3) * 1 + 17 < (k : Int) → zw (zu_ex (zt_T n) 188 20 [(40, a0), (52, a1), (0, a2), (0, x3)] [] mh) (fun v m => zi_I m ∧ zfr [(99, 0)] m0 m ∧ True)) ∧ (∀ (x3 : Int) (mh : zu_m), zi_I mh → zfr [(99, 0)] m0 mh → (0 ≤ a2 ∧ a2 ≤ 0) → (0 ≤ x3 ∧ x3 ≤ 16) → (16 - x3) * 1 + 0 < (k : Int) → zw (zu_ex (zt_T n) 188 46 [(40, a0), (52, a1), (0, a2), (0, x3)] [] mh) (fun v m => zi_I m ∧ zfr [(99, 0)] m0 m ∧ True)) := by
  intro k
  induction k with
  | zero => exact ⟨fun x3 mh hImh hFmh hba2 hbx3 hM => by exfalso; omega, fun x3 mh hImh hFmh hba2 hbx3 hM => by exfalso; omega⟩
  | succ k ih =>
    refine ⟨?_, ?_⟩
    · intro x3 mh hImh hFmh hba2 hbx3 hM
      refine zw_eq (zr_188b_20 n a0 a1 a2 x3 mh) ?_
      refine zw_ite (fun h1 => ?_) (fun h1 => ?_)
      · have hM : (16 - 0) * 1 + 0 < (k : Int) := by omega
        exact ih.2 0 mh hImh hFmh ⟨by omega, by omega⟩ ⟨by omega, by omega⟩ hM
      · have w2 := zu_w32_id (z := a2 + 2) (by omega) (by omega)
        have w3 := zu_w32_id (z := (zu_w32 (a2 + 2)) + x3) (by omega) (by omega)
        have b4 : 0 ≤ x3 ∧ x3 < 8 := by omega
        refine zw_if b4 ?_
        have r5 : 0 ≤ (mh 217 x3) ∧ (mh 217 x3) ≤ 47 := zi_rd hImh zq_217 (zb_87 _)
        have b6 : 0 ≤ (zu_w32 ((zu_w32 (a2 + 2)) + x3)) ∧ (zu_w32 ((zu_w32 (a2 + 2)) + x3)) < 22 := by omega
        refine zw_if b6 ?_
        generalize hmm7 : zu_up mh a1 (zu_w32 ((zu_w32 (a2 + 2)) + x3)) (mh 217 x3) = m7
        have hIm7 := zi_upr (m := 22) (r0 := 2) (r1 := 5) (lo := 0) (hi := 47) hmm7 hImh hc1 (by omega) (by decide +kernel) (by omega) (by omega)
        have hFm7 := zfr_up hmm7 hFmh hc1 rfl
        have w8 := zu_w32_id (z := x3 + 1) (by omega) (by omega)
        have hM : (4 - (zu_w32 (x3 + 1))) * 1 + 17 < (k : Int) := by omega
        exact ih.1 (zu_w32 (x3 + 1)) m7 hIm7 hFm7 ⟨by omega, by omega⟩ ⟨by omega, by omega⟩ hM
    · intro x3 mh hImh hFmh hba2 hbx3 hM
      refine zw_eq (zr_188b_46 n a0 a1 a2 x3 mh) ?_
      refine zw_ite (fun h9 => ?_) (fun h9 => ?_)
      · exact zw_some ⟨hImh, hFmh, trivial⟩
      · have w10 := zu_w32_id (z := a2 + 6) (by omega) (by omega)
        have w11 := zu_w32_id (z := (zu_w32 (a2 + 6)) + x3) (by omega) (by omega)
        have b12 : 0 ≤ x3 ∧ x3 < 36 := by omega
        refine zw_if b12 ?_
        have r13 : 0 ≤ (mh 197 x3) ∧ (mh 197 x3) ≤ 47 := zi_rd hImh zq_197 (zb_67 _)
        have b14 : 0 ≤ x3 ∧ x3 < 36 := by omega
        refine zw_if b14 ?_
        have r15 : 0 ≤ (mh 198 x3) ∧ (mh 198 x3) ≤ 3 := zi_rd hImh zq_198 (zb_68 _)
        have b16 : 0 ≤ x3 ∧ x3 < 36 := by omega
        refine zw_if b16 ?_
        have r17 : 0 ≤ (mh 199 x3) ∧ (mh 199 x3) ≤ 9 := zi_rd hImh zq_199 (zb_69 _)
        have w18 := zu_w32_id (z := 4 * (mh 199 x3)) (by omega) (by omega)
        have w19 := zu_w32_id (z := (mh 198 x3) + (zu_w32 (4 * (mh 199 x3)))) (by omega) (by omega)
        have w20 := zu_w32_id (z := 48 * (zu_w32 ((mh 198 x3) + (zu_w32 (4 * (mh 199 x3)))))) (by omega) (by omega)
        have w21 := zu_w32_id (z := (mh 197 x3) + (zu_w32 (48 * (zu_w32 ((mh 198 x3) + (zu_w32 (4 * (mh 199 x3)))))))) (by omega) (by omega)
        have b22 : 0 ≤ (zu_w32 ((zu_w32 (a2 + 6)) + x3)) ∧ (zu_w32 ((zu_w32 (a2 + 6)) + x3)) < 22 := by omega
        refine zw_if b22 ?_
        generalize hmm23 : zu_up mh a1 (zu_w32 ((zu_w32 (a2 + 6)) + x3)) (zu_w32 ((mh 197 x3) + (zu_w32 (48 * (zu_w32 ((mh 198 x3) + (zu_w32 (4 * (mh 199 x3))))))))) = m23
        have hIm23 := zi_upr (m := 22) (r0 := 6) (r1 := 21) (lo := 0) (hi := 1919) hmm23 hImh hc1 (by omega) (by decide +kernel) (by omega) (by omega)
        have hFm23 := zfr_up hmm23 hFmh hc1 rfl
        have w24 := zu_w32_id (z := x3 + 1) (by omega) (by omega)
        have hM : (16 - (zu_w32 (x3 + 1))) * 1 + 0 < (k : Int) := by omega
        exact ih.2 (zu_w32 (x3 + 1)) m23 hIm23 hFm23 ⟨by omega, by omega⟩ ⟨by omega, by omega⟩ hM
set_option maxHeartbeats 4000000 in
theorem zk_188_15_99 (n : Nat) {a0 a1 a2 : Int} {m0 : zu_m} (hIm0 : zi_I m0) (hc0 : zcls a0 = 15) (hc1 : zcls a1 = 99) (ha2 : 0 ≤ a2 ∧ a2 ≤ 0) (hmd2 : a2 % 22 = 0)   : zw (zu_call (zt_T n) 188 [(40, a0), (52, a1), (0, a2)] m0) (fun v m => zi_I m ∧ zfr [(99, 0)] m0 m ∧ True) := by
  have hFm0 : zfr [(99, 0)] m0 m0 := zfr_rf _ _
  refine zw_eq (zr_188b_0 n a0 a1 a2 m0) ?_
  have b25 : 0 ≤ (0 : Int) ∧ (0 : Int) < 2 := by omega
  refine zw_if b25 ?_
  have r26 : 0 ≤ (m0 216 0) ∧ (m0 216 0) ≤ 16 := zi_rdr (m := 2) (r0 := 0) (r1 := 0) hIm0 zq_216 (by omega) (by decide +kernel)
  have b27 : 0 ≤ a2 ∧ a2 < 22 := by omega
  refine zw_if b27 ?_
  generalize hmm28 : zu_up m0 a1 a2 (m0 216 0) = m28
  have hIm28 := zi_upr (m := 22) (r0 := 0) (r1 := 0) (lo := 0) (hi := 16) hmm28 hIm0 hc1 (by omega) (by decide +kernel) (by omega) (by omega)
  have hFm28 := zfr_up hmm28 hFm0 hc1 rfl
  have w29 := zu_w32_id (z := a2 + 1) (by omega) (by omega)
  have r30 : (-2147483648) ≤ (m28 a0 62) ∧ (m28 a0 62) ≤ 2147483647 := zi_rd hIm28 hc0 zb_15_62
  have b31 : 0 ≤ (zu_w32 (a2 + 1)) ∧ (zu_w32 (a2 + 1)) < 22 := by omega
  refine zw_if b31 ?_
  generalize hmm32 : zu_up m28 a1 (zu_w32 (a2 + 1)) (m28 a0 62) = m32
  have hIm32 := zi_upr (m := 22) (r0 := 1) (r1 := 1) (lo := (-2147483648)) (hi := 2147483647) hmm32 hIm28 hc1 (by omega) (by decide +kernel) (by omega) (by omega)
  have hFm32 := zfr_up hmm32 hFm28 hc1 rfl
  have hM : (4 - 0) * 1 + 17 < ((22 : Nat) : Int) := by omega
  exact (zl_188_15_99 n (m0 := m0) hc0 hc1 hmd2 22).1 0 m32 hIm32 hFm32 ⟨by omega, by omega⟩ ⟨by omega, by omega⟩ hM
set_option maxHeartbeats 4000000 in
theorem zl_189_15_98 (n : Nat) {a0 a1 a2 : Int} {m0 : zu_m} (hc0 : zcls a0 = 15) (hc1 : zcls a1 = 98) (hmd2 : a2 % 22 = 0) : ∀ k : Nat, (∀ (x3 : Int) (mh : zu_m), zi_I mh → zfr [(15, 63), (67, 0), (68, 0), (69, 0), (86, 0), (87, 0)] m0 mh → (0 ≤ a2 ∧ a2 ≤ 418) → (0 ≤ x3 ∧ x3 ≤ 4) → (4 - x3) * 1 + 17 < (k : Int) → zw (zu_ex (zt_T n) 189 20 [(40, a0), (51, a1), (0, a2), (0, x3)] [] mh) (fun v m => zi_I m ∧ zfr [(15, 63), (67, 0), (68, 0), (69, 0), (86, 0), (87, 0)] m0 m ∧ True)) ∧ (∀ (x3 : Int) (mh : zu_m), zi_I mh → zfr [(15, 63), (67, 0), (68, 0), (69, 0), (86, 0), (87, 0)] m0 mh → (0 ≤ a2 ∧ a2 ≤ 418) → (0 ≤ x3 ∧ x3 ≤ 16) → (16 - x3) * 1 + 0 < (k : Int) → zw (zu_ex (zt_T n) 189 46 [(40, a0), (51, a1), (0, a2), (0, x3)] [] mh) (fun v m => zi_I m ∧ zfr [(15, 63), (67, 0), (68, 0), (69, 0), (86, 0), (87, 0)] m0 m ∧ True)) := by
  intro k
  induction k with
  | zero => exact ⟨fun x3 mh hImh hFmh hba2 hbx3 hM => by exfalso; omega, fun x3 mh hImh hFmh hba2 hbx3 hM => by exfalso; omega⟩
  | succ k ih =>
    refine ⟨?_, ?_⟩
    · intro x3 mh hImh hFmh hba2 hbx3 hM
      refine zw_eq (zr_189_20 n a0 a1 a2 x3 mh) ?_
      refine zw_ite (fun h1 => ?_) (fun h1 => ?_)
      · have hM : (16 - 0) * 1 + 0 < (k : Int) := by omega
        exact ih.2 0 mh hImh hFmh ⟨by omega, by omega⟩ ⟨by omega, by omega⟩ hM
      · have w2 := zu_w32_id (z := a2 + 2) (by omega) (by omega)
        have w3 := zu_w32_id (z := (zu_w32 (a2 + 2)) + x3) (by omega) (by omega)
        have b4 : 0 ≤ (zu_w32 ((zu_w32 (a2 + 2)) + x3)) ∧ (zu_w32 ((zu_w32 (a2 + 2)) + x3)) < 440 := by omega
        refine zw_if b4 ?_
        have r5 : 0 ≤ (mh a1 (zu_w32 ((zu_w32 (a2 + 2)) + x3))) ∧ (mh a1 (zu_w32 ((zu_w32 (a2 + 2)) + x3))) ≤ 47 := zi_rdr (m := 22) (r0 := 2) (r1 := 5) hImh hc1 (by omega) (by decide +kernel)
        have b6 : 0 ≤ x3 ∧ x3 < 8 := by omega
        refine zw_if b6 ?_
        generalize hmm7 : zu_up mh 217 x3 (mh a1 (zu_w32 ((zu_w32 (a2 + 2)) + x3))) = m7
        have hIm7 := zi_up hmm7 hImh zq_217 (zb_87 _) (by omega) (by omega)
        have hFm7 := zfr_up hmm7 hFmh zq_217 rfl
        have w8 := zu_w32_id (z := x3 + 1) (by omega) (by omega)
        have hM : (4 - (zu_w32 (x3 + 1))) * 1 + 17 < (k : Int) := by omega
        exact ih.1 (zu_w32 (x3 + 1)) m7 hIm7 hFm7 ⟨by omega, by omega⟩ ⟨by omega, by omega⟩ hM
    · intro x3 mh hImh hFmh hba2 hbx3 hM
      refine zw_eq (zr_189_46 n a0 a1 a2 x3 mh) ?_
      refine zw_ite (fun h9 => ?_) (fun h9 => ?_)
      · exact zw_some ⟨hImh, hFmh, trivial⟩
      · have w10 := zu_w32_id (z := a2 + 6) (by omega) (by omega)
        have w11 := zu_w32_id (z := (zu_w32 (a2 + 6)) + x3) (by omega) (by omega)
        have b12 : 0 ≤ (zu_w32 ((zu_w32 (a2 + 6)) + x3)) ∧ (zu_w32 ((zu_w32 (a2 + 6)) + x3)) < 440 := by omega
        refine zw_if b12 ?_
        have r13 : 0 ≤ (mh a1 (zu_w32 ((zu_w32 (a2 + 6)) + x3))) ∧ (mh a1 (zu_w32 ((zu_w32 (a2 + 6)) + x3))) ≤ 1919 := zi_rdr (m := 22) (r0 := 6) (r1 := 21) hImh hc1 (by omega) (by decide +kernel)
        refine zw_nif (by omega) ?_
        have d14 : Int.tmod (mh a1 (zu_w32 ((zu_w32 (a2 + 6)) + x3))) 48 = (mh a1 (zu_w32 ((zu_w32 (a2 + 6)) + x3))) % 48 := Int.tmod_eq_emod_of_nonneg (by omega)
        have b15 : 0 ≤ x3 ∧ x3 < 36 := by omega
        refine zw_if b15 ?_
        generalize hmm16 : zu_up mh 197 x3 (Int.tmod (mh a1 (zu_w32 ((zu_w32 (a2 + 6)) + x3))) 48) = m16
        have hIm16 := zi_up hmm16 hImh zq_197 (zb_67 _) (by omega) (by omega)
        have hFm16 := zfr_up hmm16 hFmh zq_197 rfl
        have b17 : 0 ≤ (zu_w32 ((zu_w32 (a2 + 6)) + x3)) ∧ (zu_w32 ((zu_w32 (a2 + 6)) + x3)) < 440 := by omega
        refine zw_if b17 ?_
        have r18 : 0 ≤ (m16 a1 (zu_w32 ((zu_w32 (a2 + 6)) + x3))) ∧ (m16 a1 (zu_w32 ((zu_w32 (a2 + 6)) + x3))) ≤ 1919 := zi_rdr (m := 22) (r0 := 6) (r1 := 21) hIm16 hc1 (by omega) (by decide +kernel)
        have e19 : (m16 a1 (zu_w32 ((zu_w32 (a2 + 6)) + x3))) = (mh a1 (zu_w32 ((zu_w32 (a2 + 6)) + x3))) := (zs_ne hmm16 (Or.inl (zc_ne hc1 zq_197 (by decide))))
        refine zw_nif (by omega) ?_
        have d20 : Int.tdiv (m16 a1 (zu_w32 ((zu_w32 (a2 + 6)) + x3))) 48 = (m16 a1 (zu_w32 ((zu_w32 (a2 + 6)) + x3))) / 48 := Int.tdiv_eq_ediv_of_nonneg (by omega)
        have w21 := zu_w32_id (z := Int.tdiv (m16 a1 (zu_w32 ((zu_w32 (a2 + 6)) + x3))) 48) (by omega) (by omega)
        refine zw_nif (by omega) ?_
        have d22 : Int.tmod (zu_w32 (Int.tdiv (m16 a1 (zu_w32 ((zu_w32 (a2 + 6)) + x3))) 48)) 4 = (zu_w32 (Int.tdiv (m16 a1 (zu_w32 ((zu_w32 (a2 + 6)) + x3))) 48)) % 4 := Int.tmod_eq_emod_of_nonneg (by omega)
        have b23 : 0 ≤ x3 ∧ x3 < 36 := by omega
        refine zw_if b23 ?_
        generalize hmm24 : zu_up m16 198 x3 (Int.tmod (zu_w32 (Int.tdiv (m16 a1 (zu_w32 ((zu_w32 (a2 + 6)) + x3))) 48)) 4) = m24
        have hIm24 := zi_up hmm24 hIm16 zq_198 (zb_68 _) (by omega) (by omega)
        have hFm24 := zfr_up hmm24 hFm16 zq_198 rfl
        have b25 : 0 ≤ (zu_w32 ((zu_w32 (a2 + 6)) + x3)) ∧ (zu_w32 ((zu_w32 (a2 + 6)) + x3)) < 440 := by omega
        refine zw_if b25 ?_
        have r26 : 0 ≤ (m24 a1 (zu_w32 ((zu_w32 (a2 + 6)) + x3))) ∧ (m24 a1 (zu_w32 ((zu_w32 (a2 + 6)) + x3))) ≤ 1919 := zi_rdr (m := 22) (r0 := 6) (r1 := 21) hIm24 hc1 (by omega) (by decide +kernel)
        have e27 : (m24 a1 (zu_w32 ((zu_w32 (a2 + 6)) + x3))) = (m16 a1 (zu_w32 ((zu_w32 (a2 + 6)) + x3))) := (zs_ne hmm24 (Or.inl (zc_ne hc1 zq_198 (by decide))))
        refine zw_nif (by omega) ?_
        have d28 : Int.tdiv (m24 a1 (zu_w32 ((zu_w32 (a2 + 6)) + x3))) 192 = (m24 a1 (zu_w32 ((zu_w32 (a2 + 6)) + x3))) / 192 := Int.tdiv_eq_ediv_of_nonneg (by omega)
        have w29 := zu_w32_id (z := Int.tdiv (m24 a1 (zu_w32 ((zu_w32 (a2 + 6)) + x3))) 192) (by omega) (by omega)
        have b30 : 0 ≤ x3 ∧ x3 < 36 := by omega
        refine zw_if b30 ?_
        generalize hmm31 : zu_up m24 199 x3 (zu_w32 (Int.tdiv (m24 a1 (zu_w32 ((zu_w32 (a2 + 6)) + x3))) 192)) = m31
        have hIm31 := zi_up hmm31 hIm24 zq_199 (zb_69 _) (by omega) (by omega)
        have hFm31 := zfr_up hmm31 hFm24 zq_199 rfl
        have w32 := zu_w32_id (z := x3 + 1) (by omega) (by omega)
        have hM : (16 - (zu_w32 (x3 + 1))) * 1 + 0 < (k : Int) := by omega
        exact ih.2 (zu_w32 (x3 + 1)) m31 hIm31 hFm31 ⟨by omega, by omega⟩ ⟨by omega, by omega⟩ hM
set_option maxHeartbeats 4000000 in
theorem zk_189_15_98 (n : Nat) {a0 a1 a2 : Int} {m0 : zu_m} (hIm0 : zi_I m0) (hc0 : zcls a0 = 15) (hc1 : zcls a1 = 98) (ha2 : 0 ≤ a2 ∧ a2 ≤ 418) (hmd2 : a2 % 22 = 0)   : zw (zu_call (zt_T n) 189 [(40, a0), (51, a1), (0, a2)] m0) (fun v m => zi_I m ∧ zfr [(15, 63), (67, 0), (68, 0), (69, 0), (86, 0), (87, 0)] m0 m ∧ True) := by
  have hFm0 : zfr [(15, 63), (67, 0), (68, 0), (69, 0), (86, 0), (87, 0)] m0 m0 := zfr_rf _ _
  refine zw_eq (zr_189_0 n a0 a1 a2 m0) ?_
  have b33 : 0 ≤ a2 ∧ a2 < 440 := by omega
  refine zw_if b33 ?_
  have r34 : 0 ≤ (m0 a1 a2) ∧ (m0 a1 a2) ≤ 16 := zi_rdr (m := 22) (r0 := 0) (r1 := 0) hIm0 hc1 (by omega) (by decide +kernel)
  have b35 : 0 ≤ (0 : Int) ∧ (0 : Int) < 2 := by omega
  refine zw_if b35 ?_
  generalize hmm36 : zu_up m0 216 0 (m0 a1 a2) = m36
  have hIm36 := zi_upr (m := 2) (r0 := 0) (r1 := 0) (lo := 0) (hi := 16) hmm36 hIm0 zq_216 (by omega) (by decide +kernel) (by omega) (by omega)
  have hFm36 := zfr_up hmm36 hFm0 zq_216 rfl
  have w37 := zu_w32_id (z := a2 + 1) (by omega) (by omega)
  have b38 : 0 ≤ (zu_w32 (a2 + 1)) ∧ (zu_w32 (a2 + 1)) < 440 := by omega
  refine zw_if b38 ?_
  have r39 : (-2147483648) ≤ (m36 a1 (zu_w32 (a2 + 1))) ∧ (m36 a1 (zu_w32 (a2 + 1))) ≤ 2147483647 := zi_rdr (m := 22) (r0 := 1) (r1 := 1) hIm36 hc1 (by omega) (by decide +kernel)
  generalize hmm40 : zu_up m36 a0 62 (m36 a1 (zu_w32 (a2 + 1))) = m40
  have hIm40 := zi_up hmm40 hIm36 hc0 zb_15_62 (by omega) (by omega)
  have hFm40 := zfr_up hmm40 hFm36 hc0 rfl
  have hM : (4 - 0) * 1 + 17 < ((22 : Nat) : Int) := by omega
  exact (zl_189_15_98 n (m0 := m0) hc0 hc1 hmd2 22).1 0 m40 hIm40 hFm40 ⟨by omega, by omega⟩ ⟨by omega, by omega⟩ hM
set_option maxHeartbeats 4000000 in
theorem zl_189_15_99 (n : Nat) {a0 a1 a2 : Int} {m0 : zu_m} (hc0 : zcls a0 = 15) (hc1 : zcls a1 = 99) (hmd2 : a2 % 22 = 0) : ∀ k : Nat, (∀ (x3 : Int) (mh : zu_m), zi_I mh → zfr [(15, 63), (67, 0), (68, 0), (69, 0), (86, 0), (87, 0)] m0 mh → (0 ≤ a2 ∧ a2 ≤ 0) → (0 ≤ x3 ∧ x3 ≤ 4) → (4 - x3) * 1 + 17 < (k : Int) → zw (zu_ex (zt_T n) 189 20 [(40, a0), (52, a1), (0, a2), (0, x3)] [] mh) (fun v m => zi_I m ∧ zfr [(15, 63), (67, 0), (68, 0), (69, 0), (86, 0), (87, 0)] m0 m ∧ True)) ∧ (∀ (x3 : Int) (mh : zu_m), zi_I mh → zfr [(15, 63), (67, 0), (68, 0), (69, 0), (86, 0), (87, 0)] m0 mh → (0 ≤ a2 ∧ a2 ≤ 0) → (0 ≤ x3 ∧ x3 ≤ 16) → (16 - x3) * 1 + 0 < (k : Int) → zw (zu_ex (zt_T n) 189 46 [(40, a0), (52, a1), (0, a2), (0, x3)] [] mh) (fun v m => zi_I m ∧ zfr [(15, 63), (67, 0), (68, 0), (69, 0), (86, 0), (87, 0)] m0 m ∧ True)) := by
  intro k
  induction k with
  | zero => exact ⟨fun x3 mh hImh hFmh hba2 hbx3 hM => by exfalso; omega, fun x3 mh hImh hFmh hba2 hbx3 hM => by exfalso; omega⟩
  | succ k ih =>
    refine ⟨?_, ?_⟩
    · intro x3 mh hImh hFmh hba2 hbx3 hM
      refine zw_eq (zr_189b_20 n a0 a1 a2 x3 mh) ?_
      refine zw_ite (fun h1 => ?_) (fun h1 => ?_)
      · have hM : (16 - 0) * 1 + 0 < (k : Int) := by omega
        exact ih.2 0 mh hImh hFmh ⟨by omega, by omega⟩ ⟨by omega, by omega⟩ hM
      · have w2 := zu_w32_id (z := a2 + 2) (by omega) (by omega)
        have w3 := zu_w32_id (z := (zu_w32 (a2 + 2)) + x3) (by omega) (by omega)
        have b4 : 0 ≤ (zu_w32 ((zu_w32 (a2 + 2)) + x3)) ∧ (zu_w32 ((zu_w32 (a2 + 2)) + x3)) < 22 := by omega
        refine zw_if b4 ?_
        have r5 : 0 ≤ (mh a1 (zu_w32 ((zu_w32 (a2 + 2)) + x3))) ∧ (mh a1 (zu_w32 ((zu_w32 (a2 + 2)) + x3))) ≤ 47 := zi_rdr (m := 22) (r0 := 2) (r1 := 5) hImh hc1 (by omega) (by decide +kernel)
        have b6 : 0 ≤ x3 ∧ x3 < 8 := by omega
        refine zw_if b6 ?_
        generalize hmm7 : zu_up mh 217 x3 (mh a1 (zu_w32 ((zu_w32 (a2 + 2)) + x3))) = m7
        have hIm7 := zi_up hmm7 hImh zq_217 (zb_87 _) (by omega) (by omega)
        have hFm7 := zfr_up hmm7 hFmh zq_217 rfl
        have w8 := zu_w32_id (z := x3 + 1) (by omega) (by omega)
        have hM : (4 - (zu_w32 (x3 + 1))) * 1 + 17 < (k : Int) := by omega
        exact ih.1 (zu_w32 (x3 + 1)) m7 hIm7 hFm7 ⟨by omega, by omega⟩ ⟨by omega, by omega⟩ hM
    · intro x3 mh hImh hFmh hba2 hbx3 hM
      refine zw_eq (zr_189b_46 n a0 a1 a2 x3 mh) ?_
      refine zw_ite (fun h9 => ?_) (fun h9 => ?_)
      · exact zw_some ⟨hImh, hFmh, trivial⟩
      · have w10 := zu_w32_id (z := a2 + 6) (by omega) (by omega)
        have w11 := zu_w32_id (z := (zu_w32 (a2 + 6)) + x3) (by omega) (by omega)
        have b12 : 0 ≤ (zu_w32 ((zu_w32 (a2 + 6)) + x3)) ∧ (zu_w32 ((zu_w32 (a2 + 6)) + x3)) < 22 := by omega
        refine zw_if b12 ?_
        have r13 : 0 ≤ (mh a1 (zu_w32 ((zu_w32 (a2 + 6)) + x3))) ∧ (mh a1 (zu_w32 ((zu_w32 (a2 + 6)) + x3))) ≤ 1919 := zi_rdr (m := 22) (r0 := 6) (r1 := 21) hImh hc1 (by omega) (by decide +kernel)
        refine zw_nif (by omega) ?_
        have d14 : Int.tmod (mh a1 (zu_w32 ((zu_w32 (a2 + 6)) + x3))) 48 = (mh a1 (zu_w32 ((zu_w32 (a2 + 6)) + x3))) % 48 := Int.tmod_eq_emod_of_nonneg (by omega)
        have b15 : 0 ≤ x3 ∧ x3 < 36 := by omega
        refine zw_if b15 ?_
        generalize hmm16 : zu_up mh 197 x3 (Int.tmod (mh a1 (zu_w32 ((zu_w32 (a2 + 6)) + x3))) 48) = m16
        have hIm16 := zi_up hmm16 hImh zq_197 (zb_67 _) (by omega) (by omega)
        have hFm16 := zfr_up hmm16 hFmh zq_197 rfl
        have b17 : 0 ≤ (zu_w32 ((zu_w32 (a2 + 6)) + x3)) ∧ (zu_w32 ((zu_w32 (a2 + 6)) + x3)) < 22 := by omega
        refine zw_if b17 ?_
        have r18 : 0 ≤ (m16 a1 (zu_w32 ((zu_w32 (a2 + 6)) + x3))) ∧ (m16 a1 (zu_w32 ((zu_w32 (a2 + 6)) + x3))) ≤ 1919 := zi_rdr (m := 22) (r0 := 6) (r1 := 21) hIm16 hc1 (by omega) (by decide +kernel)
        have e19 : (m16 a1 (zu_w32 ((zu_w32 (a2 + 6)) + x3))) = (mh a1 (zu_w32 ((zu_w32 (a2 + 6)) + x3))) := (zs_ne hmm16 (Or.inl (zc_ne hc1 zq_197 (by decide))))
        refine zw_nif (by omega) ?_
        have d20 : Int.tdiv (m16 a1 (zu_w32 ((zu_w32 (a2 + 6)) + x3))) 48 = (m16 a1 (zu_w32 ((zu_w32 (a2 + 6)) + x3))) / 48 := Int.tdiv_eq_ediv_of_nonneg (by omega)
        have w21 := zu_w32_id (z := Int.tdiv (m16 a1 (zu_w32 ((zu_w32 (a2 + 6)) + x3))) 48) (by omega) (by omega)
        refine zw_nif (by omega) ?_
        have d22 : Int.tmod (zu_w32 (Int.tdiv (m16 a1 (zu_w32 ((zu_w32 (a2 + 6)) + x3))) 48)) 4 = (zu_w32 (Int.tdiv (m16 a1 (zu_w32 ((zu_w32 (a2 + 6)) + x3))) 48)) % 4 := Int.tmod_eq_emod_of_nonneg (by omega)
        have b23 : 0 ≤ x3 ∧ x3 < 36 := by omega
        refine zw_if b23 ?_
        generalize hmm24 : zu_up m16 198 x3 (Int.tmod (zu_w32 (Int.tdiv (m16 a1 (zu_w32 ((zu_w32 (a2 + 6)) + x3))) 48)) 4) = m24
        have hIm24 := zi_up hmm24 hIm16 zq_198 (zb_68 _) (by omega) (by omega)
        have hFm24 := zfr_up hmm24 hFm16 zq_198 rfl
        have b25 : 0 ≤ (zu_w32 ((zu_w32 (a2 + 6)) + x3)) ∧ (zu_w32 ((zu_w32 (a2 + 6)) + x3)) < 22 := by omega
        refine zw_if b25 ?_
        have r26 : 0 ≤ (m24 a1 (zu_w32 ((zu_w32 (a2 + 6)) + x3))) ∧ (m24 a1 (zu_w32 ((zu_w32 (a2 + 6)) + x3))) ≤ 1919 := zi_rdr (m := 22) (r0 := 6) (r1 := 21) hIm24 hc1 (by omega) (by decide +kernel)
        have e27 : (m24 a1 (zu_w32 ((zu_w32 (a2 + 6)) + x3))) = (m16 a1 (zu_w32 ((zu_w32 (a2 + 6)) + x3))) := (zs_ne hmm24 (Or.inl (zc_ne hc1 zq_198 (by decide))))
        refine zw_nif (by omega) ?_
        have d28 : Int.tdiv (m24 a1 (zu_w32 ((zu_w32 (a2 + 6)) + x3))) 192 = (m24 a1 (zu_w32 ((zu_w32 (a2 + 6)) + x3))) / 192 := Int.tdiv_eq_ediv_of_nonneg (by omega)
        have w29 := zu_w32_id (z := Int.tdiv (m24 a1 (zu_w32 ((zu_w32 (a2 + 6)) + x3))) 192) (by omega) (by omega)
        have b30 : 0 ≤ x3 ∧ x3 < 36 := by omega
        refine zw_if b30 ?_
        generalize hmm31 : zu_up m24 199 x3 (zu_w32 (Int.tdiv (m24 a1 (zu_w32 ((zu_w32 (a2 + 6)) + x3))) 192)) = m31
        have hIm31 := zi_up hmm31 hIm24 zq_199 (zb_69 _) (by omega) (by omega)
        have hFm31 := zfr_up hmm31 hFm24 zq_199 rfl
        have w32 := zu_w32_id (z := x3 + 1) (by omega) (by omega)
        have hM : (16 - (zu_w32 (x3 + 1))) * 1 + 0 < (k : Int) := by omega
        exact ih.2 (zu_w32 (x3 + 1)) m31 hIm31 hFm31 ⟨by omega, by omega⟩ ⟨by omega, by omega⟩ hM
set_option maxHeartbeats 4000000 in
theorem zk_189_15_99 (n : Nat) {a0 a1 a2 : Int} {m0 : zu_m} (hIm0 : zi_I m0) (hc0 : zcls a0 = 15) (hc1 : zcls a1 = 99) (ha2 : 0 ≤ a2 ∧ a2 ≤ 0) (hmd2 : a2 % 22 = 0)   : zw (zu_call (zt_T n) 189 [(40, a0), (52, a1), (0, a2)] m0) (fun v m => zi_I m ∧ zfr [(15, 63), (67, 0), (68, 0), (69, 0), (86, 0), (87, 0)] m0 m ∧ True) := by
  have hFm0 : zfr [(15, 63), (67, 0), (68, 0), (69, 0), (86, 0), (87, 0)] m0 m0 := zfr_rf _ _
  refine zw_eq (zr_189b_0 n a0 a1 a2 m0) ?_
  have b33 : 0 ≤ a2 ∧ a2 < 22 := by omega
  refine zw_if b33 ?_
  have r34 : 0 ≤ (m0 a1 a2) ∧ (m0 a1 a2) ≤ 16 := zi_rdr (m := 22) (r0 := 0) (r1 := 0) hIm0 hc1 (by omega) (by decide +kernel)
  have b35 : 0 ≤ (0 : Int) ∧ (0 : Int) < 2 := by omega
  refine zw_if b35 ?_
  generalize hmm36 : zu_up m0 216 0 (m0 a1 a2) = m36
  have hIm36 := zi_upr (m := 2) (r0 := 0) (r1 := 0) (lo := 0) (hi := 16) hmm36 hIm0 zq_216 (by omega) (by decide +kernel) (by omega) (by omega)
  have hFm36 := zfr_up hmm36 hFm0 zq_216 rfl
  have w37 := zu_w32_id (z := a2 + 1) (by omega) (by omega)
  have b38 : 0 ≤ (zu_w32 (a2 + 1)) ∧ (zu_w32 (a2 + 1)) < 22 := by omega
  refine zw_if b38 ?_
  have r39 : (-2147483648) ≤ (m36 a1 (zu_w32 (a2 + 1))) ∧ (m36 a1 (zu_w32 (a2 + 1))) ≤ 2147483647 := zi_rdr (m := 22) (r0 := 1) (r1 := 1) hIm36 hc1 (by omega) (by decide +kernel)
  generalize hmm40 : zu_up m36 a0 62 (m36 a1 (zu_w32 (a2 + 1))) = m40
  have hIm40 := zi_up hmm40 hIm36 hc0 zb_15_62 (by omega) (by omega)
  have hFm40 := zfr_up hmm40 hFm36 hc0 rfl
  have hM : (4 - 0) * 1 + 17 < ((22 : Nat) : Int) := by omega
  exact (zl_189_15_99 n (m0 := m0) hc0 hc1 hmd2 22).1 0 m40 hIm40 hFm40 ⟨by omega, by omega⟩ ⟨by omega, by omega⟩ hM
set_option maxHeartbeats 4000000 in
theorem zl_194 (n : Nat) {a0 a1 : Int} {m0 : zu_m} (hc0 : zcls a0 = 15)  : ∀ k : Nat, (∀ (x2 x3 : Int) (mh : zu_m), zi_I mh → zfr [] m0 mh → ((-8) ≤ a1 ∧ a1 ≤ (-1)) → ((-2147483648) ≤ x2 ∧ x2 ≤ 2147483647) → (0 ≤ x3 ∧ x3 ≤ 16) → (16 - x3) * 1 + 0 < (k : Int) → zw (zu_ex (zt_T n) 194 4 [(40, a0), (0, a1), (0, x2), (0, x3)] [] mh) (fun v m => zi_I m ∧ zfr [] m0 m ∧ ((-2147483648) ≤ v ∧ v ≤ 2147483647))) := by
  intro k
  induction k with
  | zero => exact fun x2 x3 mh hImh hFmh hba1 hbx2 hbx3 hM => by exfalso; omega
  | succ k ih =>
    intro x2 x3 mh hImh hFmh hba1 hbx2 hbx3 hM
    refine zw_eq (zr_194_4 n a0 a1 x2 x3 mh) ?_
    have b1 : 0 ≤ (0 : Int) ∧ (0 : Int) < 2 := by omega
    refine zw_if b1 ?_
    have r2 : 0 ≤ (mh 216 0) ∧ (mh 216 0) ≤ 16 := zi_rdr (m := 2) (r0 := 0) (r1 := 0) hImh zq_216 (by omega) (by decide +kernel)
    refine zw_ite (fun h3 => ?_) (fun h3 => ?_)
    · exact zw_some ⟨hImh, hFmh, ⟨by omega, by omega⟩⟩
    · have b4 : 0 ≤ x3 ∧ x3 < 36 := by omega
      refine zw_if b4 ?_
      have r5 : (-3) ≤ (mh 215 x3) ∧ (mh 215 x3) ≤ 3 := zi_rd hImh zq_215 (zb_85 _)
      refine zw_ite (fun h6 => ?_) (fun h6 => ?_)
      · have w7 := zu_w32_id (z := x2 + 0) (by omega) (by omega)
        have w8 := zu_w32_id (z := x3 + 1) (by omega) (by omega)
        have hM : (16 - (zu_w32 (x3 + 1))) * 1 + 0 < (k : Int) := by omega
        exact ih (zu_w32 (x2 + 0)) (zu_w32 (x3 + 1)) mh hImh hFmh ⟨by omega, by omega⟩ ⟨by omega, by omega⟩ ⟨by omega, by omega⟩ hM
      · have w9 := zu_w32_rg (x2 + 1)
        have w10 := zu_w32_id (z := x3 + 1) (by omega) (by omega)
        have hM : (16 - (zu_w32 (x3 + 1))) * 1 + 0 < (k : Int) := by omega
        exact ih (zu_w32 (x2 + 1)) (zu_w32 (x3 + 1)) mh hImh hFmh ⟨by omega, by omega⟩ ⟨by omega, by omega⟩ ⟨by omega, by omega⟩ hM
set_option maxHeartbeats 4000000 in
theorem zk_194 (n : Nat) {a0 a1 : Int} {m0 : zu_m} (hIm0 : zi_I m0) (hc0 : zcls a0 = 15) (ha1 : (-8) ≤ a1 ∧ a1 ≤ (-1))    : zw (zu_call (zt_T n) 194 [(40, a0), (0, a1)] m0) (fun v m => zi_I m ∧ zfr [] m0 m ∧ ((-2147483648) ≤ v ∧ v ≤ 2147483647)) := by
  have hFm0 : zfr [] m0 m0 := zfr_rf _ _
  refine zw_eq (zr_194_0 n a0 a1 m0) ?_
  have hM : (16 - 0) * 1 + 0 < ((17 : Nat) : Int) := by omega
  exact (zl_194 n (m0 := m0) hc0 17) 0 0 m0 hIm0 hFm0 ⟨by omega, by omega⟩ ⟨by omega, by omega⟩ ⟨by omega, by omega⟩ hM
set_option maxHeartbeats 4000000 in
theorem zk_196 (n : Nat) {a0 a1 : Int} {m0 : zu_m} (hIm0 : zi_I m0) (hc0 : zcls a0 = 8) (hc1 : zcls a1 = 8)     : zw (zu_call (zt_T n) 196 [(21, a0), (21, a1)] m0) (fun v m => zi_I m ∧ zfr [(8, 1), (8, 2), (8, 3), (8, 4), (8, 5), (8, 6), (8, 7), (8, 8)] m0 m ∧ True) := by
  have hFm0 : zfr [(8, 1), (8, 2), (8, 3), (8, 4), (8, 5), (8, 6), (8, 7), (8, 8)] m0 m0 := zfr_rf _ _
  refine zw_eq (zr_196_0 n a0 a1 m0) ?_
  have r1 : (-2147483648) ≤ (m0 a1 0) ∧ (m0 a1 0) ≤ 2147483647 := zi_rd hIm0 hc1 zb_8_0
  generalize hmm2 : zu_up m0 a0 0 (m0 a1 0) = m2
  have hIm2 := zi_up hmm2 hIm0 hc0 zb_8_0 (by omega) (by omega)
  have hFm2 := zfr_up hmm2 hFm0 hc0 rfl
  have r3 : 0 ≤ (m2 a1 1) ∧ (m2 a1 1) ≤ 47 := zi_rd hIm2 hc1 zb_8_1
  generalize hmm4 : zu_up m2 a0 1 (m2 a1 1) = m4
  have hIm4 := zi_up hmm4 hIm2 hc0 zb_8_1 (by omega) (by omega)
  have hFm4 := zfr_up hmm4 hFm2 hc0 rfl
  have r5 : 0 ≤ (m4 a1 2) ∧ (m4 a1 2) ≤ 15 := zi_rd hIm4 hc1 zb_8_2
  generalize hmm6 : zu_up m4 a0 2 (m4 a1 2) = m6
  have hIm6 := zi_up hmm6 hIm4 hc0 zb_8_2 (by omega) (by omega)
  have hFm6 := zfr_up hmm6 hFm4 hc0 rfl
  have r7 : 0 ≤ (m6 a1 3) ∧ (m6 a1 3) ≤ 3 := zi_rd hIm6 hc1 zb_8_3
  generalize hmm8 : zu_up m6 a0 3 (m6 a1 3) = m8
  have hIm8 := zi_up hmm8 hIm6 hc0 zb_8_3 (by omega) (by omega)
  have hFm8 := zfr_up hmm8 hFm6 hc0 rfl
  have r9 : (-2147483648) ≤ (m8 a1 4) ∧ (m8 a1 4) ≤ 2147483647 := zi_rd hIm8 hc1 zb_8_4
  generalize hmm10 : zu_up m8 a0 4 (m8 a1 4) = m10
  have hIm10 := zi_up hmm10 hIm8 hc0 zb_8_4 (by omega) (by omega)
  have hFm10 := zfr_up hmm10 hFm8 hc0 rfl
  have r11 : (-2147483648) ≤ (m10 a1 5) ∧ (m10 a1 5) ≤ 2147483647 := zi_rd hIm10 hc1 zb_8_5
  generalize hmm12 : zu_up m10 a0 5 (m10 a1 5) = m12
  have hIm12 := zi_up hmm12 hIm10 hc0 zb_8_5 (by omega) (by omega)
  have hFm12 := zfr_up hmm12 hFm10 hc0 rfl
  have r13 : (-2147483648) ≤ (m12 a1 6) ∧ (m12 a1 6) ≤ 2147483647 := zi_rd hIm12 hc1 zb_8_6
  generalize hmm14 : zu_up m12 a0 6 (m12 a1 6) = m14
  have hIm14 := zi_up hmm14 hIm12 hc0 zb_8_6 (by omega) (by omega)
  have hFm14 := zfr_up hmm14 hFm12 hc0 rfl
  have r15 : (-2147483648) ≤ (m14 a1 7) ∧ (m14 a1 7) ≤ 2147483647 := zi_rd hIm14 hc1 zb_8_7
  generalize hmm16 : zu_up m14 a0 7 (m14 a1 7) = m16
  have hIm16 := zi_up hmm16 hIm14 hc0 zb_8_7 (by omega) (by omega)
  have hFm16 := zfr_up hmm16 hFm14 hc0 rfl
  exact zw_some ⟨hIm16, hFm16, trivial⟩
set_option maxHeartbeats 4000000 in
theorem zk_197 (n : Nat) {a0 a1 : Int} {m0 : zu_m} (hIm0 : zi_I m0) (hc0 : zcls a0 = 7) (hc1 : zcls a1 = 7)     : zw (zu_call (zt_T n) 197 [(20, a0), (20, a1)] m0) (fun v m => zi_I m ∧ zfr [(7, 1), (7, 2), (7, 3), (7, 4)] m0 m ∧ True) := by
  have hFm0 : zfr [(7, 1), (7, 2), (7, 3), (7, 4)] m0 m0 := zfr_rf _ _
  refine zw_eq (zr_197_0 n a0 a1 m0) ?_
  have r1 : 0 ≤ (m0 a1 0) ∧ (m0 a1 0) ≤ 47 := zi_rd hIm0 hc1 zb_7_0
  generalize hmm2 : zu_up m0 a0 0 (m0 a1 0) = m2
  have hIm2 := zi_up hmm2 hIm0 hc0 zb_7_0 (by omega) (by omega)
  have hFm2 := zfr_up hmm2 hFm0 hc0 rfl
  have r3 : 0 ≤ (m2 a1 1) ∧ (m2 a1 1) ≤ 3 := zi_rd hIm2 hc1 zb_7_1
  generalize hmm4 : zu_up m2 a0 1 (m2 a1 1) = m4
  have hIm4 := zi_up hmm4 hIm2 hc0 zb_7_1 (by omega) (by omega)
  have hFm4 := zfr_up hmm4 hFm2 hc0 rfl
  have r5 : 0 ≤ (m4 a1 2) ∧ (m4 a1 2) ≤ 9 := zi_rd hIm4 hc1 zb_7_2
  generalize hmm6 : zu_up m4 a0 2 (m4 a1 2) = m6
  have hIm6 := zi_up hmm6 hIm4 hc0 zb_7_2 (by omega) (by omega)
  have hFm6 := zfr_up hmm6 hFm4 hc0 rfl
  have r7 : (-3) ≤ (m6 a1 3) ∧ (m6 a1 3) ≤ 3 := zi_rd hIm6 hc1 zb_7_3
  generalize hmm8 : zu_up m6 a0 3 (m6 a1 3) = m8
  have hIm8 := zi_up hmm8 hIm6 hc0 zb_7_3 (by omega) (by omega)
  have hFm8 := zfr_up hmm8 hFm6 hc0 rfl
  exact zw_some ⟨hIm8, hFm8, trivial⟩
set_option maxHeartbeats 4000000 in
theorem zk_207 (n : Nat) {a0 a1 a2 : Int} {m0 : zu_m} (hIm0 : zi_I m0) (hc0 : zcls a0 = 5) (ha1 : 0 ≤ a1 ∧ a1 ≤ 17) (ha2 : (-2147483648) ≤ a2 ∧ a2 ≤ 9999)    : zw (zu_call (zt_T n) 207 [(10, a0), (0, a1), (0, a2)] m0) (fun v m => zi_I m ∧ zfr [(5, 7), (20, 0), (21, 0)] m0 m ∧ True ∧ (1 ≤ m a0 6 ∧ m a0 6 ≤ 64)) := by
  have hFm0 : zfr [(5, 7), (20, 0), (21, 0)] m0 m0 := zfr_rf _ _
  refine zw_eq (zr_207_0 n a0 a1 a2 m0) ?_
  have r1 : 0 ≤ (m0 a0 6) ∧ (m0 a0 6) ≤ 64 := zi_rd hIm0 hc0 zb_5_6
  refine zw_ite (fun h2 => ?_) (fun h2 => ?_)
  · exact zw_some ⟨hIm0, hFm0, trivial, ⟨by omega, by omega⟩⟩
  · have b3 : 0 ≤ (m0 a0 6) ∧ (m0 a0 6) < 64 := by omega
    refine zw_if b3 ?_
    generalize hmm4 : zu_up m0 (a0 + 1) (m0 a0 6) a1 = m4
    have hIm4 := zi_up hmm4 hIm0 (zc_5_0 hc0) (zb_20 _) (by omega) (by omega)
    have hFm4 := zfr_up hmm4 hFm0 (zc_5_0 hc0) rfl
    have r5 : 0 ≤ (m4 a0 6) ∧ (m4 a0 6) ≤ 64 := zi_rd hIm4 hc0 zb_5_6
    have e6 : (m4 a0 6) = (m0 a0 6) := (zs_ne hmm4 (Or.inl (zc_ne hc0 (zc_5_0 hc0) (by decide))))
    have b7 : 0 ≤ (m4 a0 6) ∧ (m4 a0 6) < 64 := by omega
    refine zw_if b7 ?_
    generalize hmm8 : zu_up m4 (a0 + 2) (m4 a0 6) a2 = m8
    have hIm8 := zi_up hmm8 hIm4 (zc_5_1 hc0) (zb_21 _) (by omega) (by omega)
    have hFm8 := zfr_up hmm8 hFm4 (zc_5_1 hc0) rfl
    have r9 : 0 ≤ (m8 a0 6) ∧ (m8 a0 6) ≤ 64 := zi_rd hIm8 hc0 zb_5_6
    have e10 : (m8 a0 6) = (m4 a0 6) := (zs_ne hmm8 (Or.inl (zc_ne hc0 (zc_5_1 hc0) (by decide))))
    have w11 := zu_w32_id (z := (m8 a0 6) + 1) (by omega) (by omega)
    generalize hmm12 : zu_up m8 a0 6 (zu_w32 ((m8 a0 6) + 1)) = m12
    have hIm12 := zi_up hmm12 hIm8 hc0 zb_5_6 (by omega) (by omega)
    have hFm12 := zfr_up hmm12 hFm8 hc0 rfl
    have r13 : 0 ≤ (m12 a0 6) ∧ (m12 a0 6) ≤ 64 := zi_rd hIm12 hc0 zb_5_6
    have e14 : (m12 a0 6) = (zu_w32 ((m8 a0 6) + 1)) := (zs_eq hmm12)
    exact zw_some ⟨hIm12, hFm12, trivial, ⟨by omega, by omega⟩⟩
set_option maxHeartbeats 4000000 in
theorem zk_208 (n : Nat) {a0 a1 a2 : Int} {m0 : zu_m} (hIm0 : zi_I m0)  (ha0 : 0 ≤ a0 ∧ a0 ≤ 6) (ha1 : (-9223372036854775808) ≤ a1 ∧ a1 ≤ 9223372036854775807) (ha2 : (-9223372036854775808) ≤ a2 ∧ a2 ≤ 9223372036854775807)    : zw (zu_call (zt_T n) 208 [(0, a0), (1, a1), (1, a2)] m0) (fun v m => zi_I m ∧ zfr [] m0 m ∧ ((-9223372036854775808) ≤ v ∧ v ≤ 9223372036854775807)) := by
  have hFm0 : zfr [] m0 m0 := zfr_rf _ _
  refine zw_eq (zr_208_0 n a0 a1 a2 m0) ?_
  refine zw_ite (fun h1 => ?_) (fun h1 => ?_)
  · have w2 := zu_w64_rg (a1 + a2)
    exact zw_some ⟨hIm0, hFm0, ⟨by omega, by omega⟩⟩
  · refine zw_ite (fun h3 => ?_) (fun h3 => ?_)
    · have w4 := zu_w64_rg (a1 - a2)
      exact zw_some ⟨hIm0, hFm0, ⟨by omega, by omega⟩⟩
    · refine zw_ite (fun h5 => ?_) (fun h5 => ?_)
      · have c6 := zu_lcmp_sp a1 0
        refine zw_ite (fun h7 => ?_) (fun h7 => ?_)
        · exact zw_some ⟨hIm0, hFm0, ⟨by omega, by omega⟩⟩
        · have c8 := zu_lcmp_sp a2 0
          refine zw_ite (fun h9 => ?_) (fun h9 => ?_)
          · have c10 := zu_lcmp_sp a2 0
            refine zw_ite (fun h11 => ?_) (fun h11 => ?_)
            · have c12 := zu_lcmp_sp a1 0
              refine zw_ite (fun h13 => ?_) (fun h13 => ?_)
              · refine zw_nif (by omega) ?_
                have w14 := zu_w64_rg (Int.tdiv 1000000000000 a1)
                have c15 := zu_lcmp_sp a2 (zu_w64 (Int.tdiv 1000000000000 a1))
                refine zw_ite (fun h16 => ?_) (fun h16 => ?_)
                · have w17 := zu_w64_rg (a1 * a2)
                  exact zw_some ⟨hIm0, hFm0, ⟨by omega, by omega⟩⟩
                · exact zw_some ⟨hIm0, hFm0, ⟨by omega, by omega⟩⟩
              · have w18 := zu_w64_rg (-a1)
                have w19 := zu_w64_ng (x := a1) (by omega) (by omega)
                refine zw_nif (by omega) ?_
                have w20 := zu_w64_rg (Int.tdiv 1000000000000 (zu_w64 (-a1)))
                have c21 := zu_lcmp_sp a2 (zu_w64 (Int.tdiv 1000000000000 (zu_w64 (-a1))))
                refine zw_ite (fun h22 => ?_) (fun h22 => ?_)
                · have w23 := zu_w64_rg (a1 * a2)
                  exact zw_some ⟨hIm0, hFm0, ⟨by omega, by omega⟩⟩
                · exact zw_some ⟨hIm0, hFm0, ⟨by omega, by omega⟩⟩
            · have w24 := zu_w64_rg (-a2)
              have w25 := zu_w64_ng (x := a2) (by omega) (by omega)
              have c26 := zu_lcmp_sp a1 0
              refine zw_ite (fun h27 => ?_) (fun h27 => ?_)
              · refine zw_nif (by omega) ?_
                have w28 := zu_w64_rg (Int.tdiv 1000000000000 a1)
                have c29 := zu_lcmp_sp (zu_w64 (-a2)) (zu_w64 (Int.tdiv 1000000000000 a1))
                refine zw_ite (fun h30 => ?_) (fun h30 => ?_)
                · have w31 := zu_w64_rg (a1 * a2)
                  exact zw_some ⟨hIm0, hFm0, ⟨by omega, by omega⟩⟩
                · exact zw_some ⟨hIm0, hFm0, ⟨by omega, by omega⟩⟩
              · have w32 := zu_w64_rg (-a1)
                have w33 := zu_w64_ng (x := a1) (by omega) (by omega)
                refine zw_nif (by omega) ?_
                have w34 := zu_w64_rg (Int.tdiv 1000000000000 (zu_w64 (-a1)))
                have c35 := zu_lcmp_sp (zu_w64 (-a2)) (zu_w64 (Int.tdiv 1000000000000 (zu_w64 (-a1))))
                refine zw_ite (fun h36 => ?_) (fun h36 => ?_)
                · have w37 := zu_w64_rg (a1 * a2)
                  exact zw_some ⟨hIm0, hFm0, ⟨by omega, by omega⟩⟩
                · exact zw_some ⟨hIm0, hFm0, ⟨by omega, by omega⟩⟩
          · exact zw_some ⟨hIm0, hFm0, ⟨by omega, by omega⟩⟩
      · have c38 := zu_lcmp_sp a2 0
        refine zw_ite (fun h39 => ?_) (fun h39 => ?_)
        · refine zw_nif (by omega) ?_
          have w40 := zu_w64_rg (Int.tdiv a1 a2)
          exact zw_some ⟨hIm0, hFm0, ⟨by omega, by omega⟩⟩
        · exact zw_some ⟨hIm0, hFm0, ⟨by omega, by omega⟩⟩
set_option maxHeartbeats 4000000 in
theorem zk_209 (n : Nat) {a0 a1 a2 : Int} {m0 : zu_m} (hIm0 : zi_I m0)  (ha0 : 7 ≤ a0 ∧ a0 ≤ 16) (ha1 : (-9223372036854775808) ≤ a1 ∧ a1 ≤ 9223372036854775807) (ha2 : (-9223372036854775808) ≤ a2 ∧ a2 ≤ 9223372036854775807)    : zw (zu_call (zt_T n) 209 [(0, a0), (1, a1), (1, a2)] m0) (fun v m => zi_I m ∧ zfr [] m0 m ∧ (0 ≤ v ∧ v ≤ 1)) := by
  have hFm0 : zfr [] m0 m0 := zfr_rf _ _
  refine zw_eq (zr_209_0 n a0 a1 a2 m0) ?_
  refine zw_ite (fun h1 => ?_) (fun h1 => ?_)
  · have c2 := zu_lcmp_sp a1 a2
    refine zw_ite (fun h3 => ?_) (fun h3 => ?_)
    · refine zw_b (by omega) ?_
      exact zw_some ⟨hIm0, hFm0, ⟨by omega, by omega⟩⟩
    · refine zw_b (by omega) ?_
      exact zw_some ⟨hIm0, hFm0, ⟨by omega, by omega⟩⟩
  · refine zw_ite (fun h4 => ?_) (fun h4 => ?_)
    · have c5 := zu_lcmp_sp a1 a2
      refine zw_ite (fun h6 => ?_) (fun h6 => ?_)
      · refine zw_b (by omega) ?_
        exact zw_some ⟨hIm0, hFm0, ⟨by omega, by omega⟩⟩
      · refine zw_b (by omega) ?_
        exact zw_some ⟨hIm0, hFm0, ⟨by omega, by omega⟩⟩
    · refine zw_ite (fun h7 => ?_) (fun h7 => ?_)
      · have c8 := zu_lcmp_sp a1 a2
        refine zw_ite (fun h9 => ?_) (fun h9 => ?_)
        · refine zw_b (by omega) ?_
          exact zw_some ⟨hIm0, hFm0, ⟨by omega, by omega⟩⟩
        · refine zw_b (by omega) ?_
          exact zw_some ⟨hIm0, hFm0, ⟨by omega, by omega⟩⟩
      · refine zw_ite (fun h10 => ?_) (fun h10 => ?_)
        · have c11 := zu_lcmp_sp a1 a2
          refine zw_ite (fun h12 => ?_) (fun h12 => ?_)
          · refine zw_b (by omega) ?_
            exact zw_some ⟨hIm0, hFm0, ⟨by omega, by omega⟩⟩
          · refine zw_b (by omega) ?_
            exact zw_some ⟨hIm0, hFm0, ⟨by omega, by omega⟩⟩
        · refine zw_ite (fun h13 => ?_) (fun h13 => ?_)
          · have c14 := zu_lcmp_sp a1 a2
            refine zw_ite (fun h15 => ?_) (fun h15 => ?_)
            · refine zw_b (by omega) ?_
              exact zw_some ⟨hIm0, hFm0, ⟨by omega, by omega⟩⟩
            · refine zw_b (by omega) ?_
              exact zw_some ⟨hIm0, hFm0, ⟨by omega, by omega⟩⟩
          · refine zw_ite (fun h16 => ?_) (fun h16 => ?_)
            · have c17 := zu_lcmp_sp a1 a2
              refine zw_ite (fun h18 => ?_) (fun h18 => ?_)
              · refine zw_b (by omega) ?_
                exact zw_some ⟨hIm0, hFm0, ⟨by omega, by omega⟩⟩
              · refine zw_b (by omega) ?_
                exact zw_some ⟨hIm0, hFm0, ⟨by omega, by omega⟩⟩
            · refine zw_ite (fun h19 => ?_) (fun h19 => ?_)
              · have c20 := zu_lcmp_sp a1 0
                refine zw_ite (fun h21 => ?_) (fun h21 => ?_)
                · refine zw_b (by omega) ?_
                  exact zw_some ⟨hIm0, hFm0, ⟨by omega, by omega⟩⟩
                · have c22 := zu_lcmp_sp a2 0
                  refine zw_ite (fun h23 => ?_) (fun h23 => ?_)
                  · refine zw_b (by omega) ?_
                    exact zw_some ⟨hIm0, hFm0, ⟨by omega, by omega⟩⟩
                  · refine zw_b (by omega) ?_
                    exact zw_some ⟨hIm0, hFm0, ⟨by omega, by omega⟩⟩
              · have c24 := zu_lcmp_sp a1 0
                refine zw_ite (fun h25 => ?_) (fun h25 => ?_)
                · refine zw_b (by omega) ?_
                  exact zw_some ⟨hIm0, hFm0, ⟨by omega, by omega⟩⟩
                · have c26 := zu_lcmp_sp a2 0
                  refine zw_ite (fun h27 => ?_) (fun h27 => ?_)
                  · refine zw_b (by omega) ?_
                    exact zw_some ⟨hIm0, hFm0, ⟨by omega, by omega⟩⟩
                  · refine zw_b (by omega) ?_
                    exact zw_some ⟨hIm0, hFm0, ⟨by omega, by omega⟩⟩
set_option maxHeartbeats 4000000 in
theorem zl_212_11 (n : Nat) {a0 a1 : Int} {m0 : zu_m} (hc0 : zcls a0 = 11)  : ∀ k : Nat, (∀ (x2 : Int) (mh : zu_m), zi_I mh → zfr [] m0 mh → ((-2147483648) ≤ a1 ∧ a1 ≤ 2147483647) → (0 ≤ x2 ∧ x2 ≤ 4) → (4 - x2) * 1 + 0 < (k : Int) → zw (zu_ex (zt_T n) 212 2 [(27, a0), (0, a1), (0, x2)] [] mh) (fun v m => zi_I m ∧ zfr [] m0 m ∧ ((-1) ≤ v ∧ v ≤ 3))) := by
  intro k
  induction k with
  | zero => exact fun x2 mh hImh hFmh hba1 hbx2 hM => by exfalso; omega
  | succ k ih =>
    intro x2 mh hImh hFmh hba1 hbx2 hM
    refine zw_eq (zr_212_2 n a0 a1 x2 mh) ?_
    have r1 : 0 ≤ (mh a0 4) ∧ (mh a0 4) ≤ 4 := zi_rd hImh hc0 zb_11_4
    refine zw_ite (fun h2 => ?_) (fun h2 => ?_)
    · exact zw_some ⟨hImh, hFmh, ⟨by omega, by omega⟩⟩
    · have b3 : 0 ≤ x2 ∧ x2 < 4 := by omega
      refine zw_if b3 ?_
      have r4 : (-2147483648) ≤ (mh ((a0 + 2) + 20 + x2) 0) ∧ (mh ((a0 + 2) + 20 + x2) 0) ≤ 2147483647 := zi_rd hImh (zc_37_e (zc_11_3 hc0) b3) zb_8_0
      refine zw_ite (fun h5 => ?_) (fun h5 => ?_)
      · have w6 := zu_w32_id (z := x2 + 1) (by omega) (by omega)
        have hM : (4 - (zu_w32 (x2 + 1))) * 1 + 0 < (k : Int) := by omega
        exact ih (zu_w32 (x2 + 1)) mh hImh hFmh ⟨by omega, by omega⟩ ⟨by omega, by omega⟩ hM
      · exact zw_some ⟨hImh, hFmh, ⟨by omega, by omega⟩⟩
set_option maxHeartbeats 4000000 in
theorem zk_212_11 (n : Nat) {a0 a1 : Int} {m0 : zu_m} (hIm0 : zi_I m0) (hc0 : zcls a0 = 11) (ha1 : (-2147483648) ≤ a1 ∧ a1 ≤ 2147483647)    : zw (zu_call (zt_T n) 212 [(27, a0), (0, a1)] m0) (fun v m => zi_I m ∧ zfr [] m0 m ∧ ((-1) ≤ v ∧ v ≤ 3)) := by
  have hFm0 : zfr [] m0 m0 := zfr_rf _ _
  refine zw_eq (zr_212_0 n a0 a1 m0) ?_
  have hM : (4 - 0) * 1 + 0 < ((5 : Nat) : Int) := by omega
  exact (zl_212_11 n (m0 := m0) hc0 5) 0 m0 hIm0 hFm0 ⟨by omega, by omega⟩ ⟨by omega, by omega⟩ hM
set_option maxHeartbeats 4000000 in
theorem zl_212_6 (n : Nat) {a0 a1 : Int} {m0 : zu_m} (hc0 : zcls a0 = 6)  : ∀ k : Nat, (∀ (x2 : Int) (mh : zu_m), zi_I mh → zfr [] m0 mh → ((-2147483648) ≤ a1 ∧ a1 ≤ 2147483647) → (0 ≤ x2 ∧ x2 ≤ 3) → (0 ≤ mh a0 4 ∧ mh a0 4 ≤ 3) → (3 - x2) * 1 + 0 < (k : Int) → zw (zu_ex (zt_T n) 212 2 [(16, a0), (0, a1), (0, x2)] [] mh) (fun v m => zi_I m ∧ zfr [] m0 m ∧ ((-1) ≤ v ∧ v ≤ 2))) := by
  intro k
  induction k with
  | zero => exact fun x2 mh hImh hFmh hba1 hbx2 hg2 hM => by exfalso; omega
  | succ k ih =>
    intro x2 mh hImh hFmh hba1 hbx2 hg2 hM
    refine zw_eq (zr_212b_2 n a0 a1 x2 mh) ?_
    refine zw_ite (fun h1 => ?_) (fun h1 => ?_)
    · exact zw_some ⟨hImh, hFmh, ⟨by omega, by omega⟩⟩
    · have b2 : 0 ≤ x2 ∧ x2 < 4 := by omega
      refine zw_if b2 ?_
      have r3 : (-2147483648) ≤ (mh (21 + 20 + x2) 0) ∧ (mh (21 + 20 + x2) 0) ≤ 2147483647 := zi_rd hImh (zc_29_e zq_21 b2) zb_8_0
      refine zw_ite (fun h4 => ?_) (fun h4 => ?_)
      · have w5 := zu_w32_id (z := x2 + 1) (by omega) (by omega)
        have hM : (3 - (zu_w32 (x2 + 1))) * 1 + 0 < (k : Int) := by omega
        exact ih (zu_w32 (x2 + 1)) mh hImh hFmh ⟨by omega, by omega⟩ ⟨by omega, by omega⟩ ⟨by omega, by omega⟩ hM
      · exact zw_some ⟨hImh, hFmh, ⟨by omega, by omega⟩⟩
set_option maxHeartbeats 4000000 in
theorem zk_212_6 (n : Nat) {a0 a1 : Int} {m0 : zu_m} (hIm0 : zi_I m0) (hc0 : zcls a0 = 6) (ha1 : (-2147483648) ≤ a1 ∧ a1 ≤ 2147483647)  (he0 : 0 ≤ m0 a0 4 ∧ m0 a0 4 ≤ 3)  : zw (zu_call (zt_T n) 212 [(16, a0), (0, a1)] m0) (fun v m => zi_I m ∧ zfr [] m0 m ∧ ((-1) ≤ v ∧ v ≤ 2)) := by
  have hFm0 : zfr [] m0 m0 := zfr_rf _ _
  refine zw_eq (zr_212b_0 n a0 a1 m0) ?_
  have hM : (3 - 0) * 1 + 0 < ((4 : Nat) : Int) := by omega
  exact (zl_212_6 n (m0 := m0) hc0 4) 0 m0 hIm0 hFm0 ⟨by omega, by omega⟩ ⟨by omega, by omega⟩ ⟨by omega, by omega⟩ hM
set_option maxHeartbeats 4000000 in
theorem zk_215 (n : Nat) {a0 : Int} {m0 : zu_m} (hIm0 : zi_I m0) (hc0 : zcls a0 = 11)     : zw (zu_call (zt_T n) 215 [(27, a0)] m0) (fun v m => zi_I m ∧ zfr [(11, 10)] m0 m ∧ ((-2147483648) ≤ v ∧ v ≤ 2147483647)) := by
  have hFm0 : zfr [(11, 10)] m0 m0 := zfr_rf _ _
  refine zw_eq (zr_215_0 n a0 m0) ?_
  have r1 : (-2147483648) ≤ (m0 a0 9) ∧ (m0 a0 9) ≤ 2147483647 := zi_rd hIm0 hc0 zb_11_9
  have w2 := zu_w32_rg ((m0 a0 9) * 1103515245)
  have w3 := zu_w32_rg ((zu_w32 ((m0 a0 9) * 1103515245)) + 12345)
  have b4 := zu_i32_rg 3 (zu_w32 ((zu_w32 ((m0 a0 9) * 1103515245)) + 12345)) 2147483647
  generalize hmm5 : zu_up m0 a0 9 (zu_i32 3 (zu_w32 ((zu_w32 ((m0 a0 9) * 1103515245)) + 12345)) 2147483647) = m5
  have hIm5 := zi_up hmm5 hIm0 hc0 zb_11_9 (by omega) (by omega)
  have hFm5 := zfr_up hmm5 hFm0 hc0 rfl
  have r6 : (-2147483648) ≤ (m5 a0 9) ∧ (m5 a0 9) ≤ 2147483647 := zi_rd hIm5 hc0 zb_11_9
  have e7 : (m5 a0 9) = (zu_i32 3 (zu_w32 ((zu_w32 ((m0 a0 9) * 1103515245)) + 12345)) 2147483647) := (zs_eq hmm5)
  have b8 := zu_i32_rg 6 (m5 a0 9) 16
  exact zw_some ⟨hIm5, hFm5, ⟨by omega, by omega⟩⟩
set_option maxHeartbeats 4000000 in
theorem zk_218 (n : Nat) {a0 a1 a2 : Int} {m0 : zu_m} (hIm0 : zi_I m0) (hc0 : zcls a0 = 11) (ha1 : 0 ≤ a1 ∧ a1 ≤ 3) (ha2 : 0 ≤ a2 ∧ a2 ≤ 47)    : zw (zu_call (zt_T n) 218 [(27, a0), (0, a1), (0, a2)] m0) (fun v m => zi_I m ∧ zfr [] m0 m ∧ (0 ≤ v ∧ v ≤ 1)) := by
  have hFm0 : zfr [] m0 m0 := zfr_rf _ _
  refine zw_eq (zr_218_0 n a0 a1 a2 m0) ?_
  have r1 : 0 ≤ (m0 a0 10) ∧ (m0 a0 10) ≤ 3 := zi_rd hIm0 hc0 zb_11_10
  refine zw_ite (fun h2 => ?_) (fun h2 => ?_)
  · refine zw_b (by omega) ?_
    exact zw_some ⟨hIm0, hFm0, ⟨by omega, by omega⟩⟩
  · have b3 : 0 ≤ a1 ∧ a1 < 4 := by omega
    refine zw_if b3 ?_
    have r4 : 0 ≤ (m0 ((a0 + 2) + 20 + a1) 2) ∧ (m0 ((a0 + 2) + 20 + a1) 2) ≤ 15 := zi_rd hIm0 (zc_37_e (zc_11_3 hc0) b3) zb_8_2
    refine zw_ite (fun h5 => ?_) (fun h5 => ?_)
    · refine zw_b (by omega) ?_
      exact zw_some ⟨hIm0, hFm0, ⟨by omega, by omega⟩⟩
    · have b6 : 0 ≤ a2 ∧ a2 < 48 := by omega
      refine zw_if b6 ?_
      have r7 : 0 ≤ (m0 (50 + 2) a2) ∧ (m0 (50 + 2) a2) ≤ 5 := zi_rd hIm0 (zc_4_7 zq_50) (zb_18 _)
      have r8 : 0 ≤ (m0 50 3) ∧ (m0 50 3) ≤ 6 := zi_rd hIm0 zq_50 zb_4_3
      refine zw_ite (fun h9 => ?_) (fun h9 => ?_)
      · refine zw_b (by omega) ?_
        exact zw_some ⟨hIm0, hFm0, ⟨by omega, by omega⟩⟩
      · refine zw_b (by omega) ?_
        exact zw_some ⟨hIm0, hFm0, ⟨by omega, by omega⟩⟩
set_option maxHeartbeats 4000000 in
theorem zl_222 (n : Nat) {a0 : Int} {m0 : zu_m} (hc0 : zcls a0 = 11)  : ∀ k : Nat, (∀ (x1 : Int) (mh : zu_m), zi_I mh → zfr [(7, 4)] m0 mh → (0 ≤ x1 ∧ x1 ≤ 16) → (16 - x1) * 1 + 0 < (k : Int) → zw (zu_ex (zt_T n) 222 2 [(27, a0), (0, x1)] [] mh) (fun v m => zi_I m ∧ zfr [(7, 4)] m0 m ∧ True)) := by
  intro k
  induction k with
  | zero => exact fun x1 mh hImh hFmh hbx1 hM => by exfalso; omega
  | succ k ih =>
    intro x1 mh hImh hFmh hbx1 hM
    refine zw_eq (zr_222_2 n a0 x1 mh) ?_
    have r1 : 0 ≤ (mh a0 2) ∧ (mh a0 2) ≤ 16 := zi_rd hImh hc0 zb_11_2
    refine zw_ite (fun h2 => ?_) (fun h2 => ?_)
    · exact zw_some ⟨hImh, hFmh, trivial⟩
    · have b3 : 0 ≤ x1 ∧ x1 < 16 := by omega
      refine zw_if b3 ?_
      have r4 : (-3) ≤ (mh ((a0 + 1) + 5 + x1) 3) ∧ (mh ((a0 + 1) + 5 + x1) 3) ≤ 3 := zi_rd hImh (zc_36_e (zc_11_1 hc0) b3) zb_7_3
      refine zw_ite (fun h5 => ?_) (fun h5 => ?_)
      · have w6 := zu_w32_id (z := x1 + 1) (by omega) (by omega)
        have hM : (16 - (zu_w32 (x1 + 1))) * 1 + 0 < (k : Int) := by omega
        exact ih (zu_w32 (x1 + 1)) mh hImh hFmh ⟨by omega, by omega⟩ hM
      · have b7 : 0 ≤ x1 ∧ x1 < 16 := by omega
        refine zw_if b7 ?_
        have r8 : 0 ≤ (mh ((a0 + 1) + 5 + x1) 0) ∧ (mh ((a0 + 1) + 5 + x1) 0) ≤ 47 := zi_rd hImh (zc_36_e (zc_11_1 hc0) b7) zb_7_0
        have b9 : 0 ≤ (mh ((a0 + 1) + 5 + x1) 0) ∧ (mh ((a0 + 1) + 5 + x1) 0) < 48 := by omega
        refine zw_if b9 ?_
        have r10 : 0 ≤ (mh (50 + 3) (mh ((a0 + 1) + 5 + x1) 0)) ∧ (mh (50 + 3) (mh ((a0 + 1) + 5 + x1) 0)) ≤ 3 := zi_rd hImh (zc_4_8 zq_50) (zb_19 _)
        refine zw_ite (fun h11 => ?_) (fun h11 => ?_)
        · have w12 := zu_w32_id (z := x1 + 1) (by omega) (by omega)
          have hM : (16 - (zu_w32 (x1 + 1))) * 1 + 0 < (k : Int) := by omega
          exact ih (zu_w32 (x1 + 1)) mh hImh hFmh ⟨by omega, by omega⟩ hM
        · have b13 : 0 ≤ x1 ∧ x1 < 16 := by omega
          refine zw_if b13 ?_
          generalize hmm14 : zu_up mh ((a0 + 1) + 5 + x1) 3 (-3) = m14
          have hIm14 := zi_up hmm14 hImh (zc_36_e (zc_11_1 hc0) b13) zb_7_3 (by omega) (by omega)
          have hFm14 := zfr_up hmm14 hFmh (zc_36_e (zc_11_1 hc0) b13) rfl
          have w15 := zu_w32_id (z := x1 + 1) (by omega) (by omega)
          have hM : (16 - (zu_w32 (x1 + 1))) * 1 + 0 < (k : Int) := by omega
          exact ih (zu_w32 (x1 + 1)) m14 hIm14 hFm14 ⟨by omega, by omega⟩ hM
set_option maxHeartbeats 4000000 in
theorem zk_222 (n : Nat) {a0 : Int} {m0 : zu_m} (hIm0 : zi_I m0) (hc0 : zcls a0 = 11)     : zw (zu_call (zt_T n) 222 [(27, a0)] m0) (fun v m => zi_I m ∧ zfr [(7, 4)] m0 m ∧ True) := by
  have hFm0 : zfr [(7, 4)] m0 m0 := zfr_rf _ _
  refine zw_eq (zr_222_0 n a0 m0) ?_
  have hM : (16 - 0) * 1 + 0 < ((17 : Nat) : Int) := by omega
  exact (zl_222 n (m0 := m0) hc0 17) 0 m0 hIm0 hFm0 ⟨by omega, by omega⟩ hM
set_option maxHeartbeats 4000000 in
theorem zl_231 (n : Nat) {a0 a1 : Int} {m0 : zu_m} (hc0 : zcls a0 = 11)  : ∀ k : Nat, (∀ (x2 x3 : Int) (mh : zu_m), zi_I mh → zfr [] m0 mh → (0 ≤ a1 ∧ a1 ≤ 47) → ((-2147483648) ≤ x2 ∧ x2 ≤ 2147483647) → (0 ≤ x3 ∧ x3 ≤ 16) → (16 - x3) * 1 + 0 < (k : Int) → zw (zu_ex (zt_T n) 231 4 [(27, a0), (0, a1), (0, x2), (0, x3)] [] mh) (fun v m => zi_I m ∧ zfr [] m0 m ∧ ((-2147483648) ≤ v ∧ v ≤ 2147483647))) := by
  intro k
  induction k with
  | zero => exact fun x2 x3 mh hImh hFmh hba1 hbx2 hbx3 hM => by exfalso; omega
  | succ k ih =>
    intro x2 x3 mh hImh hFmh hba1 hbx2 hbx3 hM
    refine zw_eq (zr_231_4 n a0 a1 x2 x3 mh) ?_
    have r1 : 0 ≤ (mh a0 2) ∧ (mh a0 2) ≤ 16 := zi_rd hImh hc0 zb_11_2
    refine zw_ite (fun h2 => ?_) (fun h2 => ?_)
    · exact zw_some ⟨hImh, hFmh, ⟨by omega, by omega⟩⟩
    · have b3 : 0 ≤ x3 ∧ x3 < 16 := by omega
      refine zw_if b3 ?_
      have r4 : (-3) ≤ (mh ((a0 + 1) + 5 + x3) 3) ∧ (mh ((a0 + 1) + 5 + x3) 3) ≤ 3 := zi_rd hImh (zc_36_e (zc_11_1 hc0) b3) zb_7_3
      refine zw_ite (fun h5 => ?_) (fun h5 => ?_)
      · have w6 := zu_w32_id (z := x3 + 1) (by omega) (by omega)
        have hM : (16 - (zu_w32 (x3 + 1))) * 1 + 0 < (k : Int) := by omega
        exact ih x2 (zu_w32 (x3 + 1)) mh hImh hFmh ⟨by omega, by omega⟩ ⟨by omega, by omega⟩ ⟨by omega, by omega⟩ hM
      · have b7 : 0 ≤ x3 ∧ x3 < 16 := by omega
        refine zw_if b7 ?_
        have r8 : 0 ≤ (mh ((a0 + 1) + 5 + x3) 0) ∧ (mh ((a0 + 1) + 5 + x3) 0) ≤ 47 := zi_rd hImh (zc_36_e (zc_11_1 hc0) b7) zb_7_0
        refine zw_ite (fun h9 => ?_) (fun h9 => ?_)
        · have w10 := zu_w32_id (z := x3 + 1) (by omega) (by omega)
          have hM : (16 - (zu_w32 (x3 + 1))) * 1 + 0 < (k : Int) := by omega
          exact ih x2 (zu_w32 (x3 + 1)) mh hImh hFmh ⟨by omega, by omega⟩ ⟨by omega, by omega⟩ ⟨by omega, by omega⟩ hM
        · have w11 := zu_w32_rg (x2 + 1)
          have w12 := zu_w32_id (z := x3 + 1) (by omega) (by omega)
          have hM : (16 - (zu_w32 (x3 + 1))) * 1 + 0 < (k : Int) := by omega
          exact ih (zu_w32 (x2 + 1)) (zu_w32 (x3 + 1)) mh hImh hFmh ⟨by omega, by omega⟩ ⟨by omega, by omega⟩ ⟨by omega, by omega⟩ hM
set_option maxHeartbeats 4000000 in
theorem zk_231 (n : Nat) {a0 a1 : Int} {m0 : zu_m} (hIm0 : zi_I m0) (hc0 : zcls a0 = 11) (ha1 : 0 ≤ a1 ∧ a1 ≤ 47)    : zw (zu_call (zt_T n) 231 [(27, a0), (0, a1)] m0) (fun v m => zi_I m ∧ zfr [] m0 m ∧ ((-2147483648) ≤ v ∧ v ≤ 2147483647)) := by
  have hFm0 : zfr [] m0 m0 := zfr_rf _ _
  refine zw_eq (zr_231_0 n a0 a1 m0) ?_
  have hM : (16 - 0) * 1 + 0 < ((17 : Nat) : Int) := by omega
  exact (zl_231 n (m0 := m0) hc0 17) 0 0 m0 hIm0 hFm0 ⟨by omega, by omega⟩ ⟨by omega, by omega⟩ ⟨by omega, by omega⟩ hM
set_option maxHeartbeats 4000000 in
theorem zl_232 (n : Nat) {a0 a1 : Int} {m0 : zu_m} (hc0 : zcls a0 = 11)  : ∀ k : Nat, (∀ (x2 x3 : Int) (mh : zu_m), zi_I mh → zfr [] m0 mh → (0 ≤ a1 ∧ a1 ≤ 47) → ((-2147483648) ≤ x2 ∧ x2 ≤ 2147483647) → (0 ≤ x3 ∧ x3 ≤ 4) → (4 - x3) * 1 + 0 < (k : Int) → zw (zu_ex (zt_T n) 232 4 [(27, a0), (0, a1), (0, x2), (0, x3)] [] mh) (fun v m => zi_I m ∧ zfr [] m0 m ∧ ((-2147483648) ≤ v ∧ v ≤ 2147483647))) := by
  intro k
  induction k with
  | zero => exact fun x2 x3 mh hImh hFmh hba1 hbx2 hbx3 hM => by exfalso; omega
  | succ k ih =>
    intro x2 x3 mh hImh hFmh hba1 hbx2 hbx3 hM
    refine zw_eq (zr_232_4 n a0 a1 x2 x3 mh) ?_
    have r1 : 0 ≤ (mh a0 4) ∧ (mh a0 4) ≤ 4 := zi_rd hImh hc0 zb_11_4
    refine zw_ite (fun h2 => ?_) (fun h2 => ?_)
    · exact zw_some ⟨hImh, hFmh, ⟨by omega, by omega⟩⟩
    · have b3 : 0 ≤ x3 ∧ x3 < 4 := by omega
      refine zw_if b3 ?_
      have r4 : 0 ≤ (mh ((a0 + 2) + 20 + x3) 1) ∧ (mh ((a0 + 2) + 20 + x3) 1) ≤ 47 := zi_rd hImh (zc_37_e (zc_11_3 hc0) b3) zb_8_1
      refine zw_ite (fun h5 => ?_) (fun h5 => ?_)
      · have w6 := zu_w32_id (z := x3 + 1) (by omega) (by omega)
        have hM : (4 - (zu_w32 (x3 + 1))) * 1 + 0 < (k : Int) := by omega
        exact ih x2 (zu_w32 (x3 + 1)) mh hImh hFmh ⟨by omega, by omega⟩ ⟨by omega, by omega⟩ ⟨by omega, by omega⟩ hM
      · have w7 := zu_w32_rg (x2 + 1)
        have w8 := zu_w32_id (z := x3 + 1) (by omega) (by omega)
        have hM : (4 - (zu_w32 (x3 + 1))) * 1 + 0 < (k : Int) := by omega
        exact ih (zu_w32 (x2 + 1)) (zu_w32 (x3 + 1)) mh hImh hFmh ⟨by omega, by omega⟩ ⟨by omega, by omega⟩ ⟨by omega, by omega⟩ hM
set_option maxHeartbeats 4000000 in
theorem zk_232 (n : Nat) {a0 a1 : Int} {m0 : zu_m} (hIm0 : zi_I m0) (hc0 : zcls a0 = 11) (ha1 : 0 ≤ a1 ∧ a1 ≤ 47)    : zw (zu_call (zt_T n) 232 [(27, a0), (0, a1)] m0) (fun v m => zi_I m ∧ zfr [] m0 m ∧ ((-2147483648) ≤ v ∧ v ≤ 2147483647)) := by
  have hFm0 : zfr [] m0 m0 := zfr_rf _ _
  refine zw_eq (zr_232_0 n a0 a1 m0) ?_
  have hM : (4 - 0) * 1 + 0 < ((5 : Nat) : Int) := by omega
  exact (zl_232 n (m0 := m0) hc0 5) 0 0 m0 hIm0 hFm0 ⟨by omega, by omega⟩ ⟨by omega, by omega⟩ ⟨by omega, by omega⟩ hM
set_option maxHeartbeats 4000000 in
theorem zl_233 (n : Nat) {a0 a1 : Int} {m0 : zu_m} (hc0 : zcls a0 = 11)  : ∀ k : Nat, (∀ (x2 x3 : Int) (mh : zu_m), zi_I mh → zfr [] m0 mh → ((-8) ≤ a1 ∧ a1 ≤ (-1)) → ((-2147483648) ≤ x2 ∧ x2 ≤ 2147483647) → (0 ≤ x3 ∧ x3 ≤ 16) → (16 - x3) * 1 + 0 < (k : Int) → zw (zu_ex (zt_T n) 233 4 [(27, a0), (0, a1), (0, x2), (0, x3)] [] mh) (fun v m => zi_I m ∧ zfr [] m0 m ∧ ((-2147483648) ≤ v ∧ v ≤ 2147483647))) := by
  intro k
  induction k with
  | zero => exact fun x2 x3 mh hImh hFmh hba1 hbx2 hbx3 hM => by exfalso; omega
  | succ k ih =>
    intro x2 x3 mh hImh hFmh hba1 hbx2 hbx3 hM
    refine zw_eq (zr_233_4 n a0 a1 x2 x3 mh) ?_
    have r1 : 0 ≤ (mh a0 2) ∧ (mh a0 2) ≤ 16 := zi_rd hImh hc0 zb_11_2
    refine zw_ite (fun h2 => ?_) (fun h2 => ?_)
    · exact zw_some ⟨hImh, hFmh, ⟨by omega, by omega⟩⟩
    · have b3 : 0 ≤ x3 ∧ x3 < 16 := by omega
      refine zw_if b3 ?_
      have r4 : (-3) ≤ (mh ((a0 + 1) + 5 + x3) 3) ∧ (mh ((a0 + 1) + 5 + x3) 3) ≤ 3 := zi_rd hImh (zc_36_e (zc_11_1 hc0) b3) zb_7_3
      refine zw_ite (fun h5 => ?_) (fun h5 => ?_)
      · have w6 := zu_w32_id (z := x3 + 1) (by omega) (by omega)
        have hM : (16 - (zu_w32 (x3 + 1))) * 1 + 0 < (k : Int) := by omega
        exact ih x2 (zu_w32 (x3 + 1)) mh hImh hFmh ⟨by omega, by omega⟩ ⟨by omega, by omega⟩ ⟨by omega, by omega⟩ hM
      · have w7 := zu_w32_rg (x2 + 1)
        have w8 := zu_w32_id (z := x3 + 1) (by omega) (by omega)
        have hM : (16 - (zu_w32 (x3 + 1))) * 1 + 0 < (k : Int) := by omega
        exact ih (zu_w32 (x2 + 1)) (zu_w32 (x3 + 1)) mh hImh hFmh ⟨by omega, by omega⟩ ⟨by omega, by omega⟩ ⟨by omega, by omega⟩ hM
set_option maxHeartbeats 4000000 in
theorem zk_233 (n : Nat) {a0 a1 : Int} {m0 : zu_m} (hIm0 : zi_I m0) (hc0 : zcls a0 = 11) (ha1 : (-8) ≤ a1 ∧ a1 ≤ (-1))    : zw (zu_call (zt_T n) 233 [(27, a0), (0, a1)] m0) (fun v m => zi_I m ∧ zfr [] m0 m ∧ ((-2147483648) ≤ v ∧ v ≤ 2147483647)) := by
  have hFm0 : zfr [] m0 m0 := zfr_rf _ _
  refine zw_eq (zr_233_0 n a0 a1 m0) ?_
  have hM : (16 - 0) * 1 + 0 < ((17 : Nat) : Int) := by omega
  exact (zl_233 n (m0 := m0) hc0 17) 0 0 m0 hIm0 hFm0 ⟨by omega, by omega⟩ ⟨by omega, by omega⟩ ⟨by omega, by omega⟩ hM
set_option maxHeartbeats 4000000 in
theorem zl_234 (n : Nat) {a0 : Int} {m0 : zu_m} (hc0 : zcls a0 = 11)  : ∀ k : Nat, (∀ (x1 x2 : Int) (mh : zu_m), zi_I mh → zfr [] m0 mh → ((-2147483648) ≤ x1 ∧ x1 ≤ 2147483647) → (0 ≤ x2 ∧ x2 ≤ 16) → (16 - x2) * 1 + 0 < (k : Int) → zw (zu_ex (zt_T n) 234 4 [(27, a0), (0, x1), (0, x2)] [] mh) (fun v m => zi_I m ∧ zfr [] m0 m ∧ ((-2147483648) ≤ v ∧ v ≤ 2147483647))) := by
  intro k
  induction k with
  | zero => exact fun x1 x2 mh hImh hFmh hbx1 hbx2 hM => by exfalso; omega
  | succ k ih =>
    intro x1 x2 mh hImh hFmh hbx1 hbx2 hM
    refine zw_eq (zr_234_4 n a0 x1 x2 mh) ?_
    have r1 : 0 ≤ (mh a0 2) ∧ (mh a0 2) ≤ 16 := zi_rd hImh hc0 zb_11_2
    refine zw_ite (fun h2 => ?_) (fun h2 => ?_)
    · exact zw_some ⟨hImh, hFmh, ⟨by omega, by omega⟩⟩
    · have b3 : 0 ≤ x2 ∧ x2 < 16 := by omega
      refine zw_if b3 ?_
      have r4 : (-3) ≤ (mh ((a0 + 1) + 5 + x2) 3) ∧ (mh ((a0 + 1) + 5 + x2) 3) ≤ 3 := zi_rd hImh (zc_36_e (zc_11_1 hc0) b3) zb_7_3
      refine zw_ite (fun h5 => ?_) (fun h5 => ?_)
      · have w6 := zu_w32_id (z := x2 + 1) (by omega) (by omega)
        have hM : (16 - (zu_w32 (x2 + 1))) * 1 + 0 < (k : Int) := by omega
        exact ih x1 (zu_w32 (x2 + 1)) mh hImh hFmh ⟨by omega, by omega⟩ ⟨by omega, by omega⟩ hM
      · have w7 := zu_w32_rg (x1 + 1)
        have w8 := zu_w32_id (z := x2 + 1) (by omega) (by omega)
        have hM : (16 - (zu_w32 (x2 + 1))) * 1 + 0 < (k : Int) := by omega
        exact ih (zu_w32 (x1 + 1)) (zu_w32 (x2 + 1)) mh hImh hFmh ⟨by omega, by omega⟩ ⟨by omega, by omega⟩ hM
set_option maxHeartbeats 4000000 in
theorem zk_234 (n : Nat) {a0 : Int} {m0 : zu_m} (hIm0 : zi_I m0) (hc0 : zcls a0 = 11)     : zw (zu_call (zt_T n) 234 [(27, a0)] m0) (fun v m => zi_I m ∧ zfr [] m0 m ∧ ((-2147483648) ≤ v ∧ v ≤ 2147483647)) := by
  have hFm0 : zfr [] m0 m0 := zfr_rf _ _
  refine zw_eq (zr_234_0 n a0 m0) ?_
  have hM : (16 - 0) * 1 + 0 < ((17 : Nat) : Int) := by omega
  exact (zl_234 n (m0 := m0) hc0 17) 0 0 m0 hIm0 hFm0 ⟨by omega, by omega⟩ ⟨by omega, by omega⟩ hM
set_option maxHeartbeats 4000000 in
theorem zl_235 (n : Nat) {a0 : Int} {m0 : zu_m} (hc0 : zcls a0 = 11)  : ∀ k : Nat, (∀ (x1 x2 : Int) (mh : zu_m), zi_I mh → zfr [] m0 mh → ((-2147483648) ≤ x1 ∧ x1 ≤ 2147483647) → (0 ≤ x2 ∧ x2 ≤ 48) → (48 - x2) * 1 + 0 < (k : Int) → zw (zu_ex (zt_T n) 235 4 [(27, a0), (0, x1), (0, x2)] [] mh) (fun v m => zi_I m ∧ zfr [] m0 m ∧ ((-2147483648) ≤ v ∧ v ≤ 2147483647))) := by
  intro k
  induction k with
  | zero => exact fun x1 x2 mh hImh hFmh hbx1 hbx2 hM => by exfalso; omega
  | succ k ih =>
    intro x1 x2 mh hImh hFmh hbx1 hbx2 hM
    refine zw_eq (zr_235_4 n a0 x1 x2 mh) ?_
    have r1 : 1 ≤ (mh 50 2) ∧ (mh 50 2) ≤ 48 := zi_rd hImh zq_50 zb_4_2
    refine zw_ite (fun h2 => ?_) (fun h2 => ?_)
    · exact zw_some ⟨hImh, hFmh, ⟨by omega, by omega⟩⟩
    · have b3 : 0 ≤ x2 ∧ x2 < 48 := by omega
      refine zw_if b3 ?_
      have r4 : 0 ≤ (mh (a0 + 3) x2) ∧ (mh (a0 + 3) x2) ≤ 1 := zi_rd hImh (zc_11_5 hc0) (zb_38 _)
      refine zw_ite (fun h5 => ?_) (fun h5 => ?_)
      · have w6 := zu_w32_id (z := x2 + 1) (by omega) (by omega)
        have hM : (48 - (zu_w32 (x2 + 1))) * 1 + 0 < (k : Int) := by omega
        exact ih x1 (zu_w32 (x2 + 1)) mh hImh hFmh ⟨by omega, by omega⟩ ⟨by omega, by omega⟩ hM
      · have w7 := zu_w32_rg (x1 + 1)
        have w8 := zu_w32_id (z := x2 + 1) (by omega) (by omega)
        have hM : (48 - (zu_w32 (x2 + 1))) * 1 + 0 < (k : Int) := by omega
        exact ih (zu_w32 (x1 + 1)) (zu_w32 (x2 + 1)) mh hImh hFmh ⟨by omega, by omega⟩ ⟨by omega, by omega⟩ hM
set_option maxHeartbeats 4000000 in
theorem zk_235 (n : Nat) {a0 : Int} {m0 : zu_m} (hIm0 : zi_I m0) (hc0 : zcls a0 = 11)     : zw (zu_call (zt_T n) 235 [(27, a0)] m0) (fun v m => zi_I m ∧ zfr [] m0 m ∧ ((-2147483648) ≤ v ∧ v ≤ 2147483647)) := by
  have hFm0 : zfr [] m0 m0 := zfr_rf _ _
  refine zw_eq (zr_235_0 n a0 m0) ?_
  have hM : (48 - 0) * 1 + 0 < ((49 : Nat) : Int) := by omega
  exact (zl_235 n (m0 := m0) hc0 49) 0 0 m0 hIm0 hFm0 ⟨by omega, by omega⟩ ⟨by omega, by omega⟩ hM
set_option maxHeartbeats 4000000 in
theorem zl_236 (n : Nat) {a0 a1 : Int} {m0 : zu_m} (hc0 : zcls a0 = 11)  : ∀ k : Nat, (∀ (x2 x3 : Int) (mh : zu_m), zi_I mh → zfr [] m0 mh → (0 ≤ a1 ∧ a1 ≤ 3) → ((-2147483648) ≤ x2 ∧ x2 ≤ 2147483647) → (0 ≤ x3 ∧ x3 ≤ 16) → (16 - x3) * 1 + 0 < (k : Int) → zw (zu_ex (zt_T n) 236 4 [(27, a0), (0, a1), (0, x2), (0, x3)] [] mh) (fun v m => zi_I m ∧ zfr [] m0 m ∧ ((-2147483648) ≤ v ∧ v ≤ 2147483647))) := by
  intro k
  induction k with
  | zero => exact fun x2 x3 mh hImh hFmh hba1 hbx2 hbx3 hM => by exfalso; omega
  | succ k ih =>
    intro x2 x3 mh hImh hFmh hba1 hbx2 hbx3 hM
    refine zw_eq (zr_236_4 n a0 a1 x2 x3 mh) ?_
    have r1 : 0 ≤ (mh a0 2) ∧ (mh a0 2) ≤ 16 := zi_rd hImh hc0 zb_11_2
    refine zw_ite (fun h2 => ?_) (fun h2 => ?_)
    · exact zw_some ⟨hImh, hFmh, ⟨by omega, by omega⟩⟩
    · have b3 : 0 ≤ x3 ∧ x3 < 16 := by omega
      refine zw_if b3 ?_
      have r4 : (-3) ≤ (mh ((a0 + 1) + 5 + x3) 3) ∧ (mh ((a0 + 1) + 5 + x3) 3) ≤ 3 := zi_rd hImh (zc_36_e (zc_11_1 hc0) b3) zb_7_3
      refine zw_ite (fun h5 => ?_) (fun h5 => ?_)
      · have w6 := zu_w32_id (z := x3 + 1) (by omega) (by omega)
        have hM : (16 - (zu_w32 (x3 + 1))) * 1 + 0 < (k : Int) := by omega
        exact ih x2 (zu_w32 (x3 + 1)) mh hImh hFmh ⟨by omega, by omega⟩ ⟨by omega, by omega⟩ ⟨by omega, by omega⟩ hM
      · have b7 := zu_i32_rg 5 1 x3
        have b8 := zu_i32_rg 4 x2 (zu_i32 5 1 x3)
        have w9 := zu_w32_id (z := x3 + 1) (by omega) (by omega)
        have hM : (16 - (zu_w32 (x3 + 1))) * 1 + 0 < (k : Int) := by omega
        exact ih (zu_i32 4 x2 (zu_i32 5 1 x3)) (zu_w32 (x3 + 1)) mh hImh hFmh ⟨by omega, by omega⟩ ⟨by omega, by omega⟩ ⟨by omega, by omega⟩ hM
set_option maxHeartbeats 4000000 in
theorem zk_236 (n : Nat) {a0 a1 : Int} {m0 : zu_m} (hIm0 : zi_I m0) (hc0 : zcls a0 = 11) (ha1 : 0 ≤ a1 ∧ a1 ≤ 3)    : zw (zu_call (zt_T n) 236 [(27, a0), (0, a1)] m0) (fun v m => zi_I m ∧ zfr [] m0 m ∧ ((-2147483648) ≤ v ∧ v ≤ 2147483647)) := by
  have hFm0 : zfr [] m0 m0 := zfr_rf _ _
  refine zw_eq (zr_236_0 n a0 a1 m0) ?_
  have hM : (16 - 0) * 1 + 0 < ((17 : Nat) : Int) := by omega
  exact (zl_236 n (m0 := m0) hc0 17) 0 0 m0 hIm0 hFm0 ⟨by omega, by omega⟩ ⟨by omega, by omega⟩ ⟨by omega, by omega⟩ hM
set_option maxHeartbeats 4000000 in
theorem zl_238 (n : Nat) {a0 : Int} {m0 : zu_m} (hc0 : zcls a0 = 11)  : ∀ k : Nat, (∀ (x1 x2 : Int) (mh : zu_m), zi_I mh → zfr [] m0 mh → (0 ≤ x1 ∧ x1 ≤ 2147483647) → (0 ≤ x2 ∧ x2 ≤ 4) → (4 - x2) * 1 + 0 < (k : Int) → zw (zu_ex (zt_T n) 238 4 [(27, a0), (0, x1), (0, x2)] [] mh) (fun v m => zi_I m ∧ zfr [] m0 m ∧ (0 ≤ v ∧ v ≤ 2147483647))) := by
  intro k
  induction k with
  | zero => exact fun x1 x2 mh hImh hFmh hbx1 hbx2 hM => by exfalso; omega
  | succ k ih =>
    intro x1 x2 mh hImh hFmh hbx1 hbx2 hM
    refine zw_eq (zr_238_4 n a0 x1 x2 mh) ?_
    have r1 : 0 ≤ (mh a0 4) ∧ (mh a0 4) ≤ 4 := zi_rd hImh hc0 zb_11_4
    refine zw_ite (fun h2 => ?_) (fun h2 => ?_)
    · exact zw_some ⟨hImh, hFmh, ⟨by omega, by omega⟩⟩
    · have b3 : 0 ≤ x2 ∧ x2 < 4 := by omega
      refine zw_if b3 ?_
      have r4 : (-2147483648) ≤ (mh ((a0 + 2) + 20 + x2) 6) ∧ (mh ((a0 + 2) + 20 + x2) 6) ≤ 2147483647 := zi_rd hImh (zc_37_e (zc_11_3 hc0) b3) zb_8_6
      have k5 := zmax_bd x1 (mh ((a0 + 2) + 20 + x2) 6)
      have w6 := zu_w32_id (z := x2 + 1) (by omega) (by omega)
      have hM : (4 - (zu_w32 (x2 + 1))) * 1 + 0 < (k : Int) := by omega
      exact ih (zu_max x1 (mh ((a0 + 2) + 20 + x2) 6)) (zu_w32 (x2 + 1)) mh hImh hFmh ⟨by omega, by omega⟩ ⟨by omega, by omega⟩ hM
set_option maxHeartbeats 4000000 in
theorem zk_238 (n : Nat) {a0 : Int} {m0 : zu_m} (hIm0 : zi_I m0) (hc0 : zcls a0 = 11)     : zw (zu_call (zt_T n) 238 [(27, a0)] m0) (fun v m => zi_I m ∧ zfr [] m0 m ∧ (0 ≤ v ∧ v ≤ 2147483647)) := by
  have hFm0 : zfr [] m0 m0 := zfr_rf _ _
  refine zw_eq (zr_238_0 n a0 m0) ?_
  have hM : (4 - 0) * 1 + 0 < ((5 : Nat) : Int) := by omega
  exact (zl_238 n (m0 := m0) hc0 5) 0 0 m0 hIm0 hFm0 ⟨by omega, by omega⟩ ⟨by omega, by omega⟩ hM
set_option maxHeartbeats 4000000 in
theorem zk_245 (n : Nat) {a0 a1 a2 : Int} {m0 : zu_m} (hIm0 : zi_I m0) (hc0 : zcls a0 = 4) (ha1 : 0 ≤ a1 ∧ a1 ≤ 47) (ha2 : 0 ≤ a2 ∧ a2 ≤ 47)    : zw (zu_call (zt_T n) 245 [(8, a0), (0, a1), (0, a2)] m0) (fun v m => zi_I m ∧ zfr [] m0 m ∧ (0 ≤ v ∧ v ≤ 12)) := by
  have hFm0 : zfr [] m0 m0 := zfr_rf _ _
  refine zw_eq (zr_245_0 n a0 a1 a2 m0) ?_
  have b1 : 0 ≤ a1 ∧ a1 < 48 := by omega
  refine zw_if b1 ?_
  have r2 : 0 ≤ (m0 (a0 + 1) a1) ∧ (m0 (a0 + 1) a1) ≤ 7 := zi_rd hIm0 (zc_4_6 hc0) (zb_17 _)
  have b3 : 0 ≤ a2 ∧ a2 < 48 := by omega
  refine zw_if b3 ?_
  have r4 : 0 ≤ (m0 (a0 + 1) a2) ∧ (m0 (a0 + 1) a2) ≤ 7 := zi_rd hIm0 (zc_4_6 hc0) (zb_17 _)
  have w5 := zu_w32_id (z := (m0 (a0 + 1) a1) - (m0 (a0 + 1) a2)) (by omega) (by omega)
  have k6 := zabs_bd (x := (zu_w32 ((m0 (a0 + 1) a1) - (m0 (a0 + 1) a2)))) (by omega) (by omega)
  have b7 : 0 ≤ a1 ∧ a1 < 48 := by omega
  refine zw_if b7 ?_
  have r8 : 0 ≤ (m0 (a0 + 2) a1) ∧ (m0 (a0 + 2) a1) ≤ 5 := zi_rd hIm0 (zc_4_7 hc0) (zb_18 _)
  have b9 : 0 ≤ a2 ∧ a2 < 48 := by omega
  refine zw_if b9 ?_
  have r10 : 0 ≤ (m0 (a0 + 2) a2) ∧ (m0 (a0 + 2) a2) ≤ 5 := zi_rd hIm0 (zc_4_7 hc0) (zb_18 _)
  have w11 := zu_w32_id (z := (m0 (a0 + 2) a1) - (m0 (a0 + 2) a2)) (by omega) (by omega)
  have k12 := zabs_bd (x := (zu_w32 ((m0 (a0 + 2) a1) - (m0 (a0 + 2) a2)))) (by omega) (by omega)
  have w13 := zu_w32_id (z := (zu_abs (zu_w32 ((m0 (a0 + 1) a1) - (m0 (a0 + 1) a2)))) + (zu_abs (zu_w32 ((m0 (a0 + 2) a1) - (m0 (a0 + 2) a2))))) (by omega) (by omega)
  exact zw_some ⟨hIm0, hFm0, ⟨by omega, by omega⟩⟩
set_option maxHeartbeats 4000000 in
theorem zk_246 (n : Nat) {a0 a1 a2 : Int} {m0 : zu_m} (hIm0 : zi_I m0) (hc0 : zcls a0 = 4) (ha1 : 0 ≤ a1 ∧ a1 ≤ 47) (ha2 : 0 ≤ a2 ∧ a2 ≤ 47)    : zw (zu_call (zt_T n) 246 [(8, a0), (0, a1), (0, a2)] m0) (fun v m => zi_I m ∧ zfr [] m0 m ∧ ((-8) ≤ v ∧ v ≤ 60)) := by
  have hFm0 : zfr [] m0 m0 := zfr_rf _ _
  refine zw_eq (zr_246_0 n a0 a1 a2 m0) ?_
  have b1 : 0 ≤ a1 ∧ a1 < 48 := by omega
  refine zw_if b1 ?_
  have r2 : 0 ≤ (m0 (a0 + 1) a1) ∧ (m0 (a0 + 1) a1) ≤ 7 := zi_rd hIm0 (zc_4_6 hc0) (zb_17 _)
  have b3 : 0 ≤ a2 ∧ a2 < 48 := by omega
  refine zw_if b3 ?_
  have r4 : 0 ≤ (m0 (a0 + 1) a2) ∧ (m0 (a0 + 1) a2) ≤ 7 := zi_rd hIm0 (zc_4_6 hc0) (zb_17 _)
  refine zw_ite (fun h5 => ?_) (fun h5 => ?_)
  · have b6 : 0 ≤ a1 ∧ a1 < 48 := by omega
    refine zw_if b6 ?_
    have b7 : 0 ≤ a2 ∧ a2 < 48 := by omega
    refine zw_if b7 ?_
    refine zw_ite (fun h8 => ?_) (fun h8 => ?_)
    · have b9 : 0 ≤ a1 ∧ a1 < 48 := by omega
      refine zw_if b9 ?_
      have r10 : 0 ≤ (m0 (a0 + 2) a1) ∧ (m0 (a0 + 2) a1) ≤ 5 := zi_rd hIm0 (zc_4_7 hc0) (zb_18 _)
      have b11 : 0 ≤ a2 ∧ a2 < 48 := by omega
      refine zw_if b11 ?_
      have r12 : 0 ≤ (m0 (a0 + 2) a2) ∧ (m0 (a0 + 2) a2) ≤ 5 := zi_rd hIm0 (zc_4_7 hc0) (zb_18 _)
      refine zw_ite (fun h13 => ?_) (fun h13 => ?_)
      · have b14 : 0 ≤ a1 ∧ a1 < 48 := by omega
        refine zw_if b14 ?_
        have b15 : 0 ≤ a2 ∧ a2 < 48 := by omega
        refine zw_if b15 ?_
        refine zw_ite (fun h16 => ?_) (fun h16 => ?_)
        · exact zw_some ⟨hIm0, hFm0, ⟨by omega, by omega⟩⟩
        · have r17 : 1 ≤ (m0 a0 0) ∧ (m0 a0 0) ≤ 8 := zi_rd hIm0 hc0 zb_4_0
          have w18 := zu_w32_id (z := a1 - (m0 a0 0)) (by omega) (by omega)
          exact zw_some ⟨hIm0, hFm0, ⟨by omega, by omega⟩⟩
      · have r19 : 1 ≤ (m0 a0 0) ∧ (m0 a0 0) ≤ 8 := zi_rd hIm0 hc0 zb_4_0
        have w20 := zu_w32_id (z := a1 + (m0 a0 0)) (by omega) (by omega)
        exact zw_some ⟨hIm0, hFm0, ⟨by omega, by omega⟩⟩
    · have w21 := zu_w32_id (z := a1 - 1) (by omega) (by omega)
      exact zw_some ⟨hIm0, hFm0, ⟨by omega, by omega⟩⟩
  · have w22 := zu_w32_id (z := a1 + 1) (by omega) (by omega)
    exact zw_some ⟨hIm0, hFm0, ⟨by omega, by omega⟩⟩
set_option maxHeartbeats 4000000 in
theorem zk_247 (n : Nat) {a0 a1 a2 a3 : Int} {m0 : zu_m} (hIm0 : zi_I m0) (hc0 : zcls a0 = 4) (ha1 : 0 ≤ a1 ∧ a1 ≤ 3) (ha2 : 0 ≤ a2 ∧ a2 ≤ 15) (ha3 : (-2147483648) ≤ a3 ∧ a3 ≤ 2147483647)    : zw (zu_call (zt_T n) 247 [(8, a0), (0, a1), (0, a2), (0, a3)] m0) (fun v m => zi_I m ∧ zfr [(27, 0)] m0 m ∧ True) := by
  have hFm0 : zfr [(27, 0)] m0 m0 := zfr_rf _ _
  refine zw_eq (zr_247_0 n a0 a1 a2 a3 m0) ?_
  have b1 : 0 ≤ (0 : Int) ∧ (0 : Int) < 7 := by omega
  refine zw_if b1 ?_
  generalize hmm2 : zu_up m0 (a0 + 12) 0 a2 = m2
  have hIm2 := zi_upr (m := 7) (r0 := 0) (r1 := 0) (lo := 0) (hi := 15) hmm2 hIm0 (zc_4_12 hc0) (by omega) (by decide +kernel) (by omega) (by omega)
  have hFm2 := zfr_up hmm2 hFm0 (zc_4_12 hc0) rfl
  have b3 : 0 ≤ (3 : Int) ∧ (3 : Int) < 7 := by omega
  refine zw_if b3 ?_
  have r4 : 0 ≤ (m2 (a0 + 12) 3) ∧ (m2 (a0 + 12) 3) ≤ 3 := zi_rdr (m := 7) (r0 := 3) (r1 := 3) hIm2 (zc_4_12 hc0) (by omega) (by decide +kernel)
  refine zw_nif (by omega) ?_
  have d5 : Int.tmod a1 4 = a1 % 4 := Int.tmod_eq_emod_of_nonneg (by omega)
  refine zw_ite (fun h6 => ?_) (fun h6 => ?_)
  · have b7 : 0 ≤ (4 : Int) ∧ (4 : Int) < 7 := by omega
    refine zw_if b7 ?_
    generalize hmm8 : zu_up m2 (a0 + 12) 4 0 = m8
    have hIm8 := zi_upr (m := 7) (r0 := 4) (r1 := 4) (lo := 0) (hi := 1) hmm8 hIm2 (zc_4_12 hc0) (by omega) (by decide +kernel) (by omega) (by omega)
    have hFm8 := zfr_up hmm8 hFm2 (zc_4_12 hc0) rfl
    have b9 : 0 ≤ (6 : Int) ∧ (6 : Int) < 7 := by omega
    refine zw_if b9 ?_
    generalize hmm10 : zu_up m8 (a0 + 12) 6 a3 = m10
    have hIm10 := zi_upr (m := 7) (r0 := 6) (r1 := 6) (lo := (-2147483648)) (hi := 2147483647) hmm10 hIm8 (zc_4_12 hc0) (by omega) (by decide +kernel) (by omega) (by omega)
    have hFm10 := zfr_up hmm10 hFm8 (zc_4_12 hc0) rfl
    exact zw_some ⟨hIm10, hFm10, trivial⟩
  · have b11 : 0 ≤ (4 : Int) ∧ (4 : Int) < 7 := by omega
    refine zw_if b11 ?_
    generalize hmm12 : zu_up m2 (a0 + 12) 4 1 = m12
    have hIm12 := zi_upr (m := 7) (r0 := 4) (r1 := 4) (lo := 0) (hi := 1) hmm12 hIm2 (zc_4_12 hc0) (by omega) (by decide +kernel) (by omega) (by omega)
    have hFm12 := zfr_up hmm12 hFm2 (zc_4_12 hc0) rfl
    have b13 : 0 ≤ (6 : Int) ∧ (6 : Int) < 7 := by omega
    refine zw_if b13 ?_
    generalize hmm14 : zu_up m12 (a0 + 12) 6 a3 = m14
    have hIm14 := zi_upr (m := 7) (r0 := 6) (r1 := 6) (lo := (-2147483648)) (hi := 2147483647) hmm14 hIm12 (zc_4_12 hc0) (by omega) (by decide +kernel) (by omega) (by omega)
    have hFm14 := zfr_up hmm14 hFm12 (zc_4_12 hc0) rfl
    exact zw_some ⟨hIm14, hFm14, trivial⟩
set_option maxHeartbeats 4000000 in
theorem zk_254 (n : Nat) {a0 a1 a2 a3 : Int} {m0 : zu_m} (hIm0 : zi_I m0) (hc0 : zcls a0 = 4) (ha1 : 0 ≤ a1 ∧ a1 ≤ 999000) (ha2 : 0 ≤ a2 ∧ a2 ≤ 3) (ha3 : 0 ≤ a3 ∧ a3 ≤ 47)    : zw (zu_call (zt_T n) 254 [(8, a0), (0, a1), (0, a2), (0, a3)] m0) (fun v m => zi_I m ∧ zfr [] m0 m ∧ (0 ≤ v ∧ v ≤ 999000)) := by
  have hFm0 : zfr [] m0 m0 := zfr_rf _ _
  refine zw_eq (zr_254_0 n a0 a1 a2 a3 m0) ?_
  have w1 := zu_w32_id (z := a2 * 48) (by omega) (by omega)
  have w2 := zu_w32_id (z := (zu_w32 (a2 * 48)) + a3) (by omega) (by omega)
  have b3 : 0 ≤ (zu_w32 ((zu_w32 (a2 * 48)) + a3)) ∧ (zu_w32 ((zu_w32 (a2 * 48)) + a3)) < 192 := by omega
  refine zw_if b3 ?_
  have r4 : 0 ≤ (m0 (a0 + 11) (zu_w32 ((zu_w32 (a2 * 48)) + a3))) ∧ (m0 (a0 + 11) (zu_w32 ((zu_w32 (a2 * 48)) + a3))) ≤ 100 := zi_rd hIm0 (zc_4_11 hc0) (zb_26 _)
  have p5 := zmul_bd (x := a1) (y := (m0 (a0 + 11) (zu_w32 ((zu_w32 (a2 * 48)) + a3)))) (a := 0) (b := 0) (A := 999000) (B := 100) (by omega) (by omega) (by omega) (by omega) (by omega) (by omega)
  have w6 := zu_w32_id (z := a1 * (m0 (a0 + 11) (zu_w32 ((zu_w32 (a2 * 48)) + a3)))) (by omega) (by omega)
  refine zw_nif (by omega) ?_
  have d7 : Int.tdiv (zu_w32 (a1 * (m0 (a0 + 11) (zu_w32 ((zu_w32 (a2 * 48)) + a3))))) 100 = (zu_w32 (a1 * (m0 (a0 + 11) (zu_w32 ((zu_w32 (a2 * 48)) + a3))))) / 100 := Int.tdiv_eq_ediv_of_nonneg (by omega)
  have w8 := zu_w32_id (z := Int.tdiv (zu_w32 (a1 * (m0 (a0 + 11) (zu_w32 ((zu_w32 (a2 * 48)) + a3))))) 100) (by omega) (by omega)
  exact zw_some ⟨hIm0, hFm0, ⟨by omega, by omega⟩⟩
set_option maxHeartbeats 4000000 in
theorem zl_256 (n : Nat) {a0 a1 : Int} {m0 : zu_m}   : ∀ k : Nat, (∀ (x4 x6 x8 : Int) (mh : zu_m), zi_I mh → zfr [] m0 mh → ((-9223372036854775808) ≤ a0 ∧ a0 ≤ 9223372036854775807) → ((-9223372036854775808) ≤ a1 ∧ a1 ≤ 9223372036854775807) → ((-9223372036854775808) ≤ x4 ∧ x4 ≤ 9223372036854775807) → ((-9223372036854775808) ≤ x6 ∧ x6 ≤ 9223372036854775807) → (0 ≤ x8 ∧ x8 ≤ 1000) → (1000 - x8) * 1 + 0 < (k : Int) → zw (zu_ex (zt_T n) 256 9 [(1, a0), (2, 0), (1, a1), (2, 0), (1, x4), (2, 0), (1, x6), (2, 0), (0, x8), (2, 0), (2, 0)] [] mh) (fun v m => zi_I m ∧ zfr [] m0 m ∧ ((-9223372036854775808) ≤ v ∧ v ≤ 9223372036854775807))) := by
  intro k
  induction k with
  | zero => exact fun x4 x6 x8 mh hImh hFmh hba0 hba1 hbx4 hbx6 hbx8 hM => by exfalso; omega
  | succ k ih =>
    intro x4 x6 x8 mh hImh hFmh hba0 hba1 hbx4 hbx6 hbx8 hM
    refine zw_eq (zr_256_9 n a0 a1 x4 x6 x8 mh) ?_
    refine zw_ite (fun h1 => ?_) (fun h1 => ?_)
    · exact zw_some ⟨hImh, hFmh, ⟨by omega, by omega⟩⟩
    · have c2 := zu_lcmp_sp x6 0
      refine zw_ite (fun h3 => ?_) (fun h3 => ?_)
      · exact zw_some ⟨hImh, hFmh, ⟨by omega, by omega⟩⟩
      · refine zw_nif (by omega) ?_
        have d4 := ztmod_rg1 (x := x4) (y := x6) (by omega) (by omega)
        have w5 := zu_w32_id (z := x8 + 1) (by omega) (by omega)
        have hM : (1000 - (zu_w32 (x8 + 1))) * 1 + 0 < (k : Int) := by omega
        exact zw_le (zu_forget (zu_lr_same (zu_lr_same (zu_lr_same (zu_lr_same (zu_lr_same (zu_lr_same (zu_lr_same (zu_lr_same (zu_lr_same (zu_lr_drop (zu_lr_same zu_lr_nil)))))))))))) (ih x6 (Int.tmod x4 x6) (zu_w32 (x8 + 1)) mh hImh hFmh ⟨by omega, by omega⟩ ⟨by omega, by omega⟩ ⟨by omega, by omega⟩ ⟨by omega, by omega⟩ ⟨by omega, by omega⟩ hM)
set_option maxHeartbeats 4000000 in
theorem zk_256 (n : Nat) {a0 a1 : Int} {m0 : zu_m} (hIm0 : zi_I m0)  (ha0 : (-9223372036854775808) ≤ a0 ∧ a0 ≤ 9223372036854775807) (ha1 : (-9223372036854775808) ≤ a1 ∧ a1 ≤ 9223372036854775807)    : zw (zu_call (zt_T n) 256 [(1, a0), (1, a1)] m0) (fun v m => zi_I m ∧ zfr [] m0 m ∧ ((-9223372036854775808) ≤ v ∧ v ≤ 9223372036854775807)) := by
  have hFm0 : zfr [] m0 m0 := zfr_rf _ _
  refine zw_eq (zr_256_0 n a0 a1 m0) ?_
  have hM : (1000 - 0) * 1 + 0 < ((1001 : Nat) : Int) := by omega
  exact (zl_256 n (m0 := m0)  1001) a0 a1 0 m0 hIm0 hFm0 ⟨by omega, by omega⟩ ⟨by omega, by omega⟩ ⟨by omega, by omega⟩ ⟨by omega, by omega⟩ ⟨by omega, by omega⟩ hM
set_option maxHeartbeats 4000000 in
theorem zk_272 (n : Nat) {a0 a1 a2 a3 a4 : Int} {m0 : zu_m} (hIm0 : zi_I m0) (hc0 : zcls a0 = 12) (ha1 : 1 ≤ a1 ∧ a1 ≤ 200) (ha2 : 0 ≤ a2 ∧ a2 ≤ 3) (ha3 : 0 ≤ a3 ∧ a3 ≤ 16) (ha4 : 0 ≤ a4 ∧ a4 ≤ 1)    : zw (zu_call (zt_T n) 272 [(28, a0), (0, a1), (0, a2), (0, a3), (0, a4)] m0) (fun v m => zi_I m ∧ zfr [(12, 7), (41, 0), (42, 0), (43, 0), (44, 0), (45, 0)] m0 m ∧ ((-1) ≤ v ∧ v ≤ 23) ∧ (1 ≤ m a0 6 ∧ m a0 6 ≤ 24)) := by
  have hFm0 : zfr [(12, 7), (41, 0), (42, 0), (43, 0), (44, 0), (45, 0)] m0 m0 := zfr_rf _ _
  refine zw_eq (zr_272_0 n a0 a1 a2 a3 a4 m0) ?_
  have r1 : 0 ≤ (m0 a0 6) ∧ (m0 a0 6) ≤ 24 := zi_rd hIm0 hc0 zb_12_6
  refine zw_ite (fun h2 => ?_) (fun h2 => ?_)
  · have b3 : 0 ≤ (m0 a0 6) ∧ (m0 a0 6) < 24 := by omega
    refine zw_if b3 ?_
    generalize hmm4 : zu_up m0 142 (m0 a0 6) a1 = m4
    have hIm4 := zi_up hmm4 hIm0 zq_142 (zb_41 _) (by omega) (by omega)
    have hFm4 := zfr_up hmm4 hFm0 zq_142 rfl
    have r5 : 0 ≤ (m4 a0 6) ∧ (m4 a0 6) ≤ 24 := zi_rd hIm4 hc0 zb_12_6
    have e6 : (m4 a0 6) = (m0 a0 6) := (zs_ne hmm4 (Or.inl (zc_ne hc0 zq_142 (by decide))))
    have b7 : 0 ≤ (m4 a0 6) ∧ (m4 a0 6) < 24 := by omega
    refine zw_if b7 ?_
    generalize hmm8 : zu_up m4 143 (m4 a0 6) a2 = m8
    have hIm8 := zi_up hmm8 hIm4 zq_143 (zb_42 _) (by omega) (by omega)
    have hFm8 := zfr_up hmm8 hFm4 zq_143 rfl
    have r9 : 0 ≤ (m8 a0 6) ∧ (m8 a0 6) ≤ 24 := zi_rd hIm8 hc0 zb_12_6
    have e10 : (m8 a0 6) = (m4 a0 6) := (zs_ne hmm8 (Or.inl (zc_ne hc0 zq_143 (by decide))))
    have b11 : 0 ≤ (m8 a0 6) ∧ (m8 a0 6) < 24 := by omega
    refine zw_if b11 ?_
    generalize hmm12 : zu_up m8 144 (m8 a0 6) a3 = m12
    have hIm12 := zi_up hmm12 hIm8 zq_144 (zb_43 _) (by omega) (by omega)
    have hFm12 := zfr_up hmm12 hFm8 zq_144 rfl
    have r13 : 0 ≤ (m12 a0 6) ∧ (m12 a0 6) ≤ 24 := zi_rd hIm12 hc0 zb_12_6
    have e14 : (m12 a0 6) = (m8 a0 6) := (zs_ne hmm12 (Or.inl (zc_ne hc0 zq_144 (by decide))))
    refine zw_b (by omega) ?_
    have b15 : 0 ≤ (m12 a0 6) ∧ (m12 a0 6) < 24 := by omega
    refine zw_if b15 ?_
    generalize hmm16 : zu_up m12 145 (m12 a0 6) a4 = m16
    have hIm16 := zi_up hmm16 hIm12 zq_145 (zb_44 _) (by omega) (by omega)
    have hFm16 := zfr_up hmm16 hFm12 zq_145 rfl
    have r17 : 0 ≤ (m16 a0 6) ∧ (m16 a0 6) ≤ 24 := zi_rd hIm16 hc0 zb_12_6
    have e18 : (m16 a0 6) = (m12 a0 6) := (zs_ne hmm16 (Or.inl (zc_ne hc0 zq_145 (by decide))))
    have b19 : 0 ≤ (m16 a0 6) ∧ (m16 a0 6) < 24 := by omega
    refine zw_if b19 ?_
    generalize hmm20 : zu_up m16 146 (m16 a0 6) (-1) = m20
    have hIm20 := zi_up hmm20 hIm16 zq_146 (zb_45 _) (by omega) (by omega)
    have hFm20 := zfr_up hmm20 hFm16 zq_146 rfl
    have r21 : 0 ≤ (m20 a0 6) ∧ (m20 a0 6) ≤ 24 := zi_rd hIm20 hc0 zb_12_6
    have e22 : (m20 a0 6) = (m16 a0 6) := (zs_ne hmm20 (Or.inl (zc_ne hc0 zq_146 (by decide))))
    have w23 := zu_w32_id (z := (m20 a0 6) + 1) (by omega) (by omega)
    generalize hmm24 : zu_up m20 a0 6 (zu_w32 ((m20 a0 6) + 1)) = m24
    have hIm24 := zi_up hmm24 hIm20 hc0 zb_12_6 (by omega) (by omega)
    have hFm24 := zfr_up hmm24 hFm20 hc0 rfl
    have r25 : 0 ≤ (m24 a0 6) ∧ (m24 a0 6) ≤ 24 := zi_rd hIm24 hc0 zb_12_6
    have e26 : (m24 a0 6) = (zu_w32 ((m20 a0 6) + 1)) := (zs_eq hmm24)
    have w27 := zu_w32_id (z := (m24 a0 6) - 1) (by omega) (by omega)
    exact zw_some ⟨hIm24, hFm24, ⟨by omega, by omega⟩, ⟨by omega, by omega⟩⟩
  · exact zw_some ⟨hIm0, hFm0, ⟨by omega, by omega⟩, ⟨by omega, by omega⟩⟩
set_option maxHeartbeats 4000000 in
theorem zk_273 (n : Nat) {a0 a1 : Int} {m0 : zu_m} (hIm0 : zi_I m0) (hc0 : zcls a0 = 12) (ha1 : (-2147483648) ≤ a1 ∧ a1 ≤ 2147483647)    : zw (zu_call (zt_T n) 273 [(28, a0), (0, a1)] m0) (fun v m => zi_I m ∧ zfr [(12, 7), (45, 0)] m0 m ∧ ((-1) ≤ v ∧ v ≤ 23)) := by
  have hFm0 : zfr [(12, 7), (45, 0)] m0 m0 := zfr_rf _ _
  refine zw_eq (zr_273_0 n a0 a1 m0) ?_
  refine zw_ite (fun h1 => ?_) (fun h1 => ?_)
  · exact zw_some ⟨hIm0, hFm0, ⟨by omega, by omega⟩⟩
  · have r2 : 0 ≤ (m0 a0 6) ∧ (m0 a0 6) ≤ 24 := zi_rd hIm0 hc0 zb_12_6
    refine zw_ite (fun h3 => ?_) (fun h3 => ?_)
    · exact zw_some ⟨hIm0, hFm0, ⟨by omega, by omega⟩⟩
    · refine zw_ite (fun h4 => ?_) (fun h4 => ?_)
      · have b5 : 0 ≤ (m0 a0 6) ∧ (m0 a0 6) < 24 := by omega
        refine zw_if b5 ?_
        generalize hmm6 : zu_up m0 146 (m0 a0 6) a1 = m6
        have hIm6 := zi_up hmm6 hIm0 zq_146 (zb_45 _) (by omega) (by omega)
        have hFm6 := zfr_up hmm6 hFm0 zq_146 rfl
        have r7 : 0 ≤ (m6 a0 6) ∧ (m6 a0 6) ≤ 24 := zi_rd hIm6 hc0 zb_12_6
        have e8 : (m6 a0 6) = (m0 a0 6) := (zs_ne hmm6 (Or.inl (zc_ne hc0 zq_146 (by decide))))
        have w9 := zu_w32_id (z := (m6 a0 6) + 1) (by omega) (by omega)
        generalize hmm10 : zu_up m6 a0 6 (zu_w32 ((m6 a0 6) + 1)) = m10
        have hIm10 := zi_up hmm10 hIm6 hc0 zb_12_6 (by omega) (by omega)
        have hFm10 := zfr_up hmm10 hFm6 hc0 rfl
        have r11 : 0 ≤ (m10 a0 6) ∧ (m10 a0 6) ≤ 24 := zi_rd hIm10 hc0 zb_12_6
        have e12 : (m10 a0 6) = (zu_w32 ((m6 a0 6) + 1)) := (zs_eq hmm10)
        have w13 := zu_w32_id (z := (m10 a0 6) - 1) (by omega) (by omega)
        exact zw_some ⟨hIm10, hFm10, ⟨by omega, by omega⟩⟩
      · exact zw_some ⟨hIm0, hFm0, ⟨by omega, by omega⟩⟩
