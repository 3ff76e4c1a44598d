set_option maxHeartbeats 4000000 in
theorem zk_129 (n : Nat) {a0 a1 a2 a3 a4 a5 : Int} {m0 : zu_m} (hIm0 : zi_I m0) (hc0 : zcls a0 = 28) (ha1 : 0 ≤ a1 ∧ a1 ≤ 3) (ha2 : 0 ≤ a2 ∧ a2 ≤ 3) (ha3 : 0 ≤ a3 ∧ a3 ≤ 9) (ha4 : 0 ≤ a4 ∧ a4 ≤ 47) (ha5 : (-2147483648) ≤ a5 ∧ a5 ≤ 2147483647)     : zw (zu_call (zt_T n) 129 [(40, a0), (0, a1), (0, a2), (0, a3), (0, a4), (0, a5)] m0) (fun v m => zi_I m ∧ zfr [(28, 54), (122, 0), (123, 0)] m0 m ∧ ((-2147483648) ≤ v ∧ v ≤ 2147483647)) := by
  have hFm0 : zfr [(28, 54), (122, 0), (123, 0)] m0 m0 := zfr_rf _ _
  refine zw_eq (zr_129_0 n a0 a1 a2 a3 a4 a5 m0) ?_
  have w1 := zu_w32_id (z := 10 * a3) (by omega) (by omega)
  have w2 := zu_w32_id (z := 100 - (zu_w32 (10 * a3))) (by omega) (by omega)
  have b3 : 0 ≤ a4 ∧ a4 < 96 := by omega
  refine zw_if b3 ?_
  have r4 : (-2147483648) ≤ (m0 195 a4) ∧ (m0 195 a4) ≤ 2147483647 := zi_rd hIm0 zq_195 (zb_104 _)
  refine zw_ite (fun h5 => ?_) (fun h5 => ?_)
  · have w6 := zu_w32_id (z := (zu_w32 (100 - (zu_w32 (10 * a3)))) - 0) (by omega) (by omega)
    refine zw_bd (zw_eq (zr_128_0 n a0 a1 m0) ?_)
    have r7 : 0 ≤ (m0 a0 68) ∧ (m0 a0 68) ≤ 1 := zi_rd hIm0 hc0 zb_28_68
    refine zw_ite (fun h8 => ?_) (fun h8 => ?_)
    · have b9 : 0 ≤ a1 ∧ a1 < 8 := by omega
      refine zw_if b9 ?_
      have r10 : 0 ≤ (m0 202 a1) ∧ (m0 202 a1) ≤ 15 := zi_rd hIm0 zq_202 (zb_111 _)
      refine zw_some ?_
      refine zw_nif (by omega) ?_
      have d11 : Int.tmod a1 4 = a1 % 4 := Int.tmod_eq_emod_of_nonneg (by omega)
      refine zw_ite (fun h12 => ?_) (fun h12 => ?_)
      · refine zw_bd (zw_mono (zk_38 n hIm0 hc0 ⟨by omega, by omega⟩ ⟨by omega, by omega⟩ ⟨by omega, by omega⟩ ⟨by omega, by omega⟩ ⟨by omega, by omega⟩ ⟨by omega, by omega⟩) (fun v14 m13 hqm13 => ?_))
        obtain ⟨hIm13, hfm13, hvm13⟩ := hqm13
        have hFm13 := zfr_tr hFm0 hfm13 rfl
        refine zw_ite (fun h15 => ?_) (fun h15 => ?_)
        · refine zw_bd (zw_mono (zk_39 n hIm13 hc0 ⟨by omega, by omega⟩ ⟨by omega, by omega⟩ ⟨by omega, by omega⟩) (fun v17 m16 hqm16 => ?_))
          obtain ⟨hIm16, hfm16, hvm16⟩ := hqm16
          have hFm16 := zfr_tr hFm13 hfm16 rfl
          exact zw_some ⟨hIm16, hFm16, ⟨by omega, by omega⟩⟩
        · exfalso; omega
      · refine zw_bd (zw_mono (zk_38 n hIm0 hc0 ⟨by omega, by omega⟩ ⟨by omega, by omega⟩ ⟨by omega, by omega⟩ ⟨by omega, by omega⟩ ⟨by omega, by omega⟩ ⟨by omega, by omega⟩) (fun v19 m18 hqm18 => ?_))
        obtain ⟨hIm18, hfm18, hvm18⟩ := hqm18
        have hFm18 := zfr_tr hFm0 hfm18 rfl
        refine zw_ite (fun h20 => ?_) (fun h20 => ?_)
        · refine zw_bd (zw_mono (zk_39 n hIm18 hc0 ⟨by omega, by omega⟩ ⟨by omega, by omega⟩ ⟨by omega, by omega⟩) (fun v22 m21 hqm21 => ?_))
          obtain ⟨hIm21, hfm21, hvm21⟩ := hqm21
          have hFm21 := zfr_tr hFm18 hfm21 rfl
          exact zw_some ⟨hIm21, hFm21, ⟨by omega, by omega⟩⟩
        · exfalso; omega
    · refine zw_some ?_
      refine zw_nif (by omega) ?_
      have d23 : Int.tmod a1 4 = a1 % 4 := Int.tmod_eq_emod_of_nonneg (by omega)
      refine zw_ite (fun h24 => ?_) (fun h24 => ?_)
      · refine zw_bd (zw_mono (zk_38 n hIm0 hc0 ⟨by omega, by omega⟩ ⟨by omega, by omega⟩ ⟨by omega, by omega⟩ ⟨by omega, by omega⟩ ⟨by omega, by omega⟩ ⟨by omega, by omega⟩) (fun v26 m25 hqm25 => ?_))
        obtain ⟨hIm25, hfm25, hvm25⟩ := hqm25
        have hFm25 := zfr_tr hFm0 hfm25 rfl
        refine zw_ite (fun h27 => ?_) (fun h27 => ?_)
        · refine zw_bd (zw_mono (zk_39 n hIm25 hc0 ⟨by omega, by omega⟩ ⟨by omega, by omega⟩ ⟨by omega, by omega⟩) (fun v29 m28 hqm28 => ?_))
          obtain ⟨hIm28, hfm28, hvm28⟩ := hqm28
          have hFm28 := zfr_tr hFm25 hfm28 rfl
          exact zw_some ⟨hIm28, hFm28, ⟨by omega, by omega⟩⟩
        · exfalso; omega
      · refine zw_bd (zw_mono (zk_38 n hIm0 hc0 ⟨by omega, by omega⟩ ⟨by omega, by omega⟩ ⟨by omega, by omega⟩ ⟨by omega, by omega⟩ ⟨by omega, by omega⟩ ⟨by omega, by omega⟩) (fun v31 m30 hqm30 => ?_))
        obtain ⟨hIm30, hfm30, hvm30⟩ := hqm30
        have hFm30 := zfr_tr hFm0 hfm30 rfl
        refine zw_ite (fun h32 => ?_) (fun h32 => ?_)
        · refine zw_bd (zw_mono (zk_39 n hIm30 hc0 ⟨by omega, by omega⟩ ⟨by omega, by omega⟩ ⟨by omega, by omega⟩) (fun v34 m33 hqm33 => ?_))
          obtain ⟨hIm33, hfm33, hvm33⟩ := hqm33
          have hFm33 := zfr_tr hFm30 hfm33 rfl
          exact zw_some ⟨hIm33, hFm33, ⟨by omega, by omega⟩⟩
        · exfalso; omega
  · refine zw_bd (zw_eq (zr_128_0 n a0 a1 m0) ?_)
    have r35 : 0 ≤ (m0 a0 68) ∧ (m0 a0 68) ≤ 1 := zi_rd hIm0 hc0 zb_28_68
    refine zw_ite (fun h36 => ?_) (fun h36 => ?_)
    · have b37 : 0 ≤ a1 ∧ a1 < 8 := by omega
      refine zw_if b37 ?_
      have r38 : 0 ≤ (m0 202 a1) ∧ (m0 202 a1) ≤ 15 := zi_rd hIm0 zq_202 (zb_111 _)
      refine zw_some ?_
      refine zw_ite (fun h39 => ?_) (fun h39 => ?_)
      · have w40 := zu_w32_id (z := (zu_w32 (100 - (zu_w32 (10 * a3)))) - 0) (by omega) (by omega)
        refine zw_bd (zw_eq (zr_128_0 n a0 a1 m0) ?_)
        refine zw_ite (fun h41 => ?_) (fun h41 => ?_)
        · have b42 : 0 ≤ a1 ∧ a1 < 8 := by omega
          refine zw_if b42 ?_
          refine zw_some ?_
          refine zw_nif (by omega) ?_
          have d43 : Int.tmod a1 4 = a1 % 4 := Int.tmod_eq_emod_of_nonneg (by omega)
          refine zw_ite (fun h44 => ?_) (fun h44 => ?_)
          · refine zw_bd (zw_mono (zk_38 n hIm0 hc0 ⟨by omega, by omega⟩ ⟨by omega, by omega⟩ ⟨by omega, by omega⟩ ⟨by omega, by omega⟩ ⟨by omega, by omega⟩ ⟨by omega, by omega⟩) (fun v46 m45 hqm45 => ?_))
            obtain ⟨hIm45, hfm45, hvm45⟩ := hqm45
            have hFm45 := zfr_tr hFm0 hfm45 rfl
            refine zw_ite (fun h47 => ?_) (fun h47 => ?_)
            · refine zw_bd (zw_mono (zk_39 n hIm45 hc0 ⟨by omega, by omega⟩ ⟨by omega, by omega⟩ ⟨by omega, by omega⟩) (fun v49 m48 hqm48 => ?_))
              obtain ⟨hIm48, hfm48, hvm48⟩ := hqm48
              have hFm48 := zfr_tr hFm45 hfm48 rfl
              exact zw_some ⟨hIm48, hFm48, ⟨by omega, by omega⟩⟩
            · exfalso; omega
          · refine zw_bd (zw_mono (zk_38 n hIm0 hc0 ⟨by omega, by omega⟩ ⟨by omega, by omega⟩ ⟨by omega, by omega⟩ ⟨by omega, by omega⟩ ⟨by omega, by omega⟩ ⟨by omega, by omega⟩) (fun v51 m50 hqm50 => ?_))
            obtain ⟨hIm50, hfm50, hvm50⟩ := hqm50
            have hFm50 := zfr_tr hFm0 hfm50 rfl
            refine zw_ite (fun h52 => ?_) (fun h52 => ?_)
            · refine zw_bd (zw_mono (zk_39 n hIm50 hc0 ⟨by omega, by omega⟩ ⟨by omega, by omega⟩ ⟨by omega, by omega⟩) (fun v54 m53 hqm53 => ?_))
              obtain ⟨hIm53, hfm53, hvm53⟩ := hqm53
              have hFm53 := zfr_tr hFm50 hfm53 rfl
              exact zw_some ⟨hIm53, hFm53, ⟨by omega, by omega⟩⟩
            · exfalso; omega
        · exfalso; omega
      · have w55 := zu_w32_id (z := (zu_w32 (100 - (zu_w32 (10 * a3)))) - 20) (by omega) (by omega)
        refine zw_bd (zw_eq (zr_128_0 n a0 a1 m0) ?_)
        refine zw_ite (fun h56 => ?_) (fun h56 => ?_)
        · have b57 : 0 ≤ a1 ∧ a1 < 8 := by omega
          refine zw_if b57 ?_
          refine zw_some ?_
          refine zw_nif (by omega) ?_
          have d58 : Int.tmod a1 4 = a1 % 4 := Int.tmod_eq_emod_of_nonneg (by omega)
          refine zw_ite (fun h59 => ?_) (fun h59 => ?_)
          · refine zw_bd (zw_mono (zk_38 n hIm0 hc0 ⟨by omega, by omega⟩ ⟨by omega, by omega⟩ ⟨by omega, by omega⟩ ⟨by omega, by omega⟩ ⟨by omega, by omega⟩ ⟨by omega, by omega⟩) (fun v61 m60 hqm60 => ?_))
            obtain ⟨hIm60, hfm60, hvm60⟩ := hqm60
            have hFm60 := zfr_tr hFm0 hfm60 rfl
            refine zw_ite (fun h62 => ?_) (fun h62 => ?_)
            · refine zw_bd (zw_mono (zk_39 n hIm60 hc0 ⟨by omega, by omega⟩ ⟨by omega, by omega⟩ ⟨by omega, by omega⟩) (fun v64 m63 hqm63 => ?_))
              obtain ⟨hIm63, hfm63, hvm63⟩ := hqm63
              have hFm63 := zfr_tr hFm60 hfm63 rfl
              exact zw_some ⟨hIm63, hFm63, ⟨by omega, by omega⟩⟩
            · refine zw_bd (zw_mono (zk_39 n hIm60 hc0 ⟨by omega, by omega⟩ ⟨by omega, by omega⟩ ⟨by omega, by omega⟩) (fun v66 m65 hqm65 => ?_))
              obtain ⟨hIm65, hfm65, hvm65⟩ := hqm65
              have hFm65 := zfr_tr hFm60 hfm65 rfl
              exact zw_some ⟨hIm65, hFm65, ⟨by omega, by omega⟩⟩
          · refine zw_bd (zw_mono (zk_38 n hIm0 hc0 ⟨by omega, by omega⟩ ⟨by omega, by omega⟩ ⟨by omega, by omega⟩ ⟨by omega, by omega⟩ ⟨by omega, by omega⟩ ⟨by omega, by omega⟩) (fun v68 m67 hqm67 => ?_))
            obtain ⟨hIm67, hfm67, hvm67⟩ := hqm67
            have hFm67 := zfr_tr hFm0 hfm67 rfl
            refine zw_ite (fun h69 => ?_) (fun h69 => ?_)
            · refine zw_bd (zw_mono (zk_39 n hIm67 hc0 ⟨by omega, by omega⟩ ⟨by omega, by omega⟩ ⟨by omega, by omega⟩) (fun v71 m70 hqm70 => ?_))
              obtain ⟨hIm70, hfm70, hvm70⟩ := hqm70
              have hFm70 := zfr_tr hFm67 hfm70 rfl
              exact zw_some ⟨hIm70, hFm70, ⟨by omega, by omega⟩⟩
            · refine zw_bd (zw_mono (zk_39 n hIm67 hc0 ⟨by omega, by omega⟩ ⟨by omega, by omega⟩ ⟨by omega, by omega⟩) (fun v73 m72 hqm72 => ?_))
              obtain ⟨hIm72, hfm72, hvm72⟩ := hqm72
              have hFm72 := zfr_tr hFm67 hfm72 rfl
              exact zw_some ⟨hIm72, hFm72, ⟨by omega, by omega⟩⟩
        · exfalso; omega
    · refine zw_some ?_
      refine zw_ite (fun h74 => ?_) (fun h74 => ?_)
      · have w75 := zu_w32_id (z := (zu_w32 (100 - (zu_w32 (10 * a3)))) - 0) (by omega) (by omega)
        refine zw_bd (zw_eq (zr_128_0 n a0 a1 m0) ?_)
        refine zw_ite (fun h76 => ?_) (fun h76 => ?_)
        · exfalso; omega
        · refine zw_some ?_
          refine zw_nif (by omega) ?_
          have d77 : Int.tmod a1 4 = a1 % 4 := Int.tmod_eq_emod_of_nonneg (by omega)
          refine zw_ite (fun h78 => ?_) (fun h78 => ?_)
          · refine zw_bd (zw_mono (zk_38 n hIm0 hc0 ⟨by omega, by omega⟩ ⟨by omega, by omega⟩ ⟨by omega, by omega⟩ ⟨by omega, by omega⟩ ⟨by omega, by omega⟩ ⟨by omega, by omega⟩) (fun v80 m79 hqm79 => ?_))
            obtain ⟨hIm79, hfm79, hvm79⟩ := hqm79
            have hFm79 := zfr_tr hFm0 hfm79 rfl
            refine zw_ite (fun h81 => ?_) (fun h81 => ?_)
            · refine zw_bd (zw_mono (zk_39 n hIm79 hc0 ⟨by omega, by omega⟩ ⟨by omega, by omega⟩ ⟨by omega, by omega⟩) (fun v83 m82 hqm82 => ?_))
              obtain ⟨hIm82, hfm82, hvm82⟩ := hqm82
              have hFm82 := zfr_tr hFm79 hfm82 rfl
              exact zw_some ⟨hIm82, hFm82, ⟨by omega, by omega⟩⟩
            · exfalso; omega
          · refine zw_bd (zw_mono (zk_38 n hIm0 hc0 ⟨by omega, by omega⟩ ⟨by omega, by omega⟩ ⟨by omega, by omega⟩ ⟨by omega, by omega⟩ ⟨by omega, by omega⟩ ⟨by omega, by omega⟩) (fun v85 m84 hqm84 => ?_))
            obtain ⟨hIm84, hfm84, hvm84⟩ := hqm84
            have hFm84 := zfr_tr hFm0 hfm84 rfl
            refine zw_ite (fun h86 => ?_) (fun h86 => ?_)
            · refine zw_bd (zw_mono (zk_39 n hIm84 hc0 ⟨by omega, by omega⟩ ⟨by omega, by omega⟩ ⟨by omega, by omega⟩) (fun v88 m87 hqm87 => ?_))
              obtain ⟨hIm87, hfm87, hvm87⟩ := hqm87
              have hFm87 := zfr_tr hFm84 hfm87 rfl
              exact zw_some ⟨hIm87, hFm87, ⟨by omega, by omega⟩⟩
            · exfalso; omega
      · exfalso; omega
set_option maxHeartbeats 4000000 in
theorem zk_132 (n : Nat) {a0 a1 a2 : Int} {m0 : zu_m} (hIm0 : zi_I m0) (hc0 : zcls a0 = 28) (ha1 : 0 ≤ a1 ∧ a1 ≤ 3) (ha2 : 0 ≤ a2 ∧ a2 ≤ 15)     : zw (zu_call (zt_T n) 132 [(40, a0), (0, a1), (0, a2)] m0) (fun v m => zi_I m ∧ zfr [(28, 54), (122, 0), (123, 0)] m0 m ∧ ((-2147483648) ≤ v ∧ v ≤ 2147483647)) := by
  have hFm0 : zfr [(28, 54), (122, 0), (123, 0)] m0 m0 := zfr_rf _ _
  refine zw_eq (zr_132_0 n a0 a1 a2 m0) ?_
  have b1 : 0 ≤ a2 ∧ a2 < 36 := by omega
  refine zw_if b1 ?_
  have r2 : 0 ≤ (m0 198 a2) ∧ (m0 198 a2) ≤ 3 := zi_rd hIm0 zq_198 (zb_107 _)
  refine zw_nif (by omega) ?_
  have d3 : Int.tmod a1 4 = a1 % 4 := Int.tmod_eq_emod_of_nonneg (by omega)
  refine zw_ite (fun h4 => ?_) (fun h4 => ?_)
  · have b5 : 0 ≤ a1 ∧ a1 < 8 := by omega
    refine zw_if b5 ?_
    have r6 : 0 ≤ (m0 202 a1) ∧ (m0 202 a1) ≤ 15 := zi_rd hIm0 zq_202 (zb_111 _)
    have b7 : 0 ≤ a2 ∧ a2 < 36 := by omega
    refine zw_if b7 ?_
    have r8 : 0 ≤ (m0 199 a2) ∧ (m0 199 a2) ≤ 9 := zi_rd hIm0 zq_199 (zb_108 _)
    have b9 : 0 ≤ a2 ∧ a2 < 36 := by omega
    refine zw_if b9 ?_
    have r10 : 0 ≤ (m0 197 a2) ∧ (m0 197 a2) ≤ 47 := zi_rd hIm0 zq_197 (zb_106 _)
    have b11 : 0 ≤ a2 ∧ a2 < 36 := by omega
    refine zw_if b11 ?_
    refine zw_ite (fun h12 => ?_) (fun h12 => ?_)
    · refine zw_bd (zw_mono (zk_38 n hIm0 hc0 ⟨by omega, by omega⟩ ⟨by omega, by omega⟩ ⟨by omega, by omega⟩ ⟨by omega, by omega⟩ ⟨by omega, by omega⟩ ⟨by omega, by omega⟩) (fun v14 m13 hqm13 => ?_))
      obtain ⟨hIm13, hfm13, hvm13⟩ := hqm13
      have hFm13 := zfr_tr hFm0 hfm13 rfl
      refine zw_ite (fun h15 => ?_) (fun h15 => ?_)
      · refine zw_bd (zw_mono (zk_39 n hIm13 hc0 ⟨by omega, by omega⟩ ⟨by omega, by omega⟩ ⟨by omega, by omega⟩) (fun v17 m16 hqm16 => ?_))
        obtain ⟨hIm16, hfm16, hvm16⟩ := hqm16
        have hFm16 := zfr_tr hFm13 hfm16 rfl
        exact zw_some ⟨hIm16, hFm16, ⟨by omega, by omega⟩⟩
      · exfalso; omega
    · exfalso; omega
  · have b18 : 0 ≤ a1 ∧ a1 < 8 := by omega
    refine zw_if b18 ?_
    have r19 : 0 ≤ (m0 202 a1) ∧ (m0 202 a1) ≤ 15 := zi_rd hIm0 zq_202 (zb_111 _)
    have b20 : 0 ≤ a2 ∧ a2 < 36 := by omega
    refine zw_if b20 ?_
    have r21 : 0 ≤ (m0 199 a2) ∧ (m0 199 a2) ≤ 9 := zi_rd hIm0 zq_199 (zb_108 _)
    have b22 : 0 ≤ a2 ∧ a2 < 36 := by omega
    refine zw_if b22 ?_
    have r23 : 0 ≤ (m0 197 a2) ∧ (m0 197 a2) ≤ 47 := zi_rd hIm0 zq_197 (zb_106 _)
    have b24 : 0 ≤ a2 ∧ a2 < 36 := by omega
    refine zw_if b24 ?_
    refine zw_ite (fun h25 => ?_) (fun h25 => ?_)
    · exfalso; omega
    · refine zw_bd (zw_mono (zk_38 n hIm0 hc0 ⟨by omega, by omega⟩ ⟨by omega, by omega⟩ ⟨by omega, by omega⟩ ⟨by omega, by omega⟩ ⟨by omega, by omega⟩ ⟨by omega, by omega⟩) (fun v27 m26 hqm26 => ?_))
      obtain ⟨hIm26, hfm26, hvm26⟩ := hqm26
      have hFm26 := zfr_tr hFm0 hfm26 rfl
      refine zw_ite (fun h28 => ?_) (fun h28 => ?_)
      · exfalso; omega
      · refine zw_bd (zw_mono (zk_39 n hIm26 hc0 ⟨by omega, by omega⟩ ⟨by omega, by omega⟩ ⟨by omega, by omega⟩) (fun v30 m29 hqm29 => ?_))
        obtain ⟨hIm29, hfm29, hvm29⟩ := hqm29
        have hFm29 := zfr_tr hFm26 hfm29 rfl
        exact zw_some ⟨hIm29, hFm29, ⟨by omega, by omega⟩⟩
set_option maxHeartbeats 4000000 in
theorem zk_133 (n : Nat) {a0 a1 : Int} {m0 : zu_m} (hIm0 : zi_I m0) (hc0 : zcls a0 = 28) (ha1 : 0 ≤ a1 ∧ a1 ≤ 15)     : zw (zu_call (zt_T n) 133 [(40, a0), (0, a1)] m0) (fun v m => zi_I m ∧ zfr [(28, 54), (122, 0), (123, 0)] m0 m ∧ ((-2147483648) ≤ v ∧ v ≤ 2147483647)) := by
  have hFm0 : zfr [(28, 54), (122, 0), (123, 0)] m0 m0 := zfr_rf _ _
  refine zw_eq (zr_133_0 n a0 a1 m0) ?_
  have b1 : 0 ≤ a1 ∧ a1 < 36 := by omega
  refine zw_if b1 ?_
  have r2 : 0 ≤ (m0 199 a1) ∧ (m0 199 a1) ≤ 9 := zi_rd hIm0 zq_199 (zb_108 _)
  have b3 : 0 ≤ a1 ∧ a1 < 36 := by omega
  refine zw_if b3 ?_
  have r4 : 0 ≤ (m0 197 a1) ∧ (m0 197 a1) ≤ 47 := zi_rd hIm0 zq_197 (zb_106 _)
  have b5 : 0 ≤ a1 ∧ a1 < 36 := by omega
  refine zw_if b5 ?_
  have r6 : 0 ≤ (m0 198 a1) ∧ (m0 198 a1) ≤ 3 := zi_rd hIm0 zq_198 (zb_107 _)
  have b7 : 0 ≤ (0 : Int) ∧ (0 : Int) < 2 := by omega
  refine zw_if b7 ?_
  have r8 : (-2147483648) ≤ (m0 221 0) ∧ (m0 221 0) ≤ 2147483647 := zi_rd hIm0 zq_221 (zb_130 _)
  refine zw_bd (zw_mono (zk_38 n hIm0 hc0 ⟨by omega, by omega⟩ ⟨by omega, by omega⟩ ⟨by omega, by omega⟩ ⟨by omega, by omega⟩ ⟨by omega, by omega⟩ ⟨by omega, by omega⟩) (fun v10 m9 hqm9 => ?_))
  obtain ⟨hIm9, hfm9, hvm9⟩ := hqm9
  have hFm9 := zfr_tr hFm0 hfm9 rfl
  refine zw_bd (zw_mono (zk_39 n hIm9 hc0 ⟨by omega, by omega⟩ ⟨by omega, by omega⟩ ⟨by omega, by omega⟩) (fun v12 m11 hqm11 => ?_))
  obtain ⟨hIm11, hfm11, hvm11⟩ := hqm11
  have hFm11 := zfr_tr hFm9 hfm11 rfl
  exact zw_some ⟨hIm11, hFm11, ⟨by omega, by omega⟩⟩
set_option maxHeartbeats 4000000 in
theorem zl_214_16 (n : Nat) {a0 a1 a2 : Int} {m0 : zu_m} (hc0 : zcls a0 = 16)  : ∀ k : Nat, (∀ (x3 : Int) (mh : zu_m), zi_I mh → zfr [(16, 9), (16, 10), (17, 4), (18, 2), (18, 6), (18, 7), (18, 8), (56, 0), (59, 0), (67, 0), (68, 0)] m0 mh → (0 ≤ a1 ∧ a1 ≤ 200) → (0 ≤ a2 ∧ a2 ≤ 0) → (0 ≤ x3 ∧ x3 ≤ 200) → (zR_K54 mh) → (200 - x3) * 11 + 10 < (k : Int) → zw (zu_ex (zt_T n) 214 2 [(27, a0), (0, a1), (0, a2), (0, x3), (2, 0)] [] mh) (fun v m => zi_I m ∧ zfr [(16, 9), (16, 10), (17, 4), (18, 2), (18, 6), (18, 7), (18, 8), (56, 0), (59, 0), (67, 0), (68, 0)] m0 m ∧ zR_K54 m ∧ True)) ∧ (∀ (x3 x4 : Int) (mh : zu_m), zi_I mh → zfr [(16, 9), (16, 10), (17, 4), (18, 2), (18, 6), (18, 7), (18, 8), (56, 0), (59, 0), (67, 0), (68, 0)] m0 mh → (1 ≤ a1 ∧ a1 ≤ 200) → (0 ≤ a2 ∧ a2 ≤ 0) → (0 ≤ x3 ∧ x3 ≤ 199) → (0 ≤ x4 ∧ x4 ≤ 4) → (zR_K54 mh) → (4 - x4) * 1 + (200 - x3) * 11 + 5 < (k : Int) → zw (zu_ex (zt_T n) 214 10 [(27, a0), (0, a1), (0, a2), (0, x3), (0, x4)] [] mh) (fun v m => zi_I m ∧ zfr [(16, 9), (16, 10), (17, 4), (18, 2), (18, 6), (18, 7), (18, 8), (56, 0), (59, 0), (67, 0), (68, 0)] m0 m ∧ zR_K54 m ∧ True)) ∧ (∀ (x3 x4 : Int) (mh : zu_m), zi_I mh → zfr [(16, 9), (16, 10), (17, 4), (18, 2), (18, 6), (18, 7), (18, 8), (56, 0), (59, 0), (67, 0), (68, 0)] m0 mh → (1 ≤ a1 ∧ a1 ≤ 200) → (0 ≤ a2 ∧ a2 ≤ 0) → (0 ≤ x3 ∧ x3 ≤ 199) → (0 ≤ x4 ∧ x4 ≤ 4) → (zR_K54 mh) → (4 - x4) * 1 + (200 - x3) * 11 + 0 < (k : Int) → zw (zu_ex (zt_T n) 214 52 [(27, a0), (0, a1), (0, a2), (0, x3), (0, x4)] [] mh) (fun v m => zi_I m ∧ zfr [(16, 9), (16, 10), (17, 4), (18, 2), (18, 6), (18, 7), (18, 8), (56, 0), (59, 0), (67, 0), (68, 0)] m0 m ∧ zR_K54 m ∧ True)) := by
  intro k
  induction k with
  | zero => exact ⟨fun x3 mh hImh hFmh hba1 hba2 hbx3 hRK54mh hM => by exfalso; omega, fun x3 x4 mh hImh hFmh hba1 hba2 hbx3 hbx4 hRK54mh hM => by exfalso; omega, fun x3 x4 mh hImh hFmh hba1 hba2 hbx3 hbx4 hRK54mh hM => by exfalso; omega⟩
  | succ k ih =>
    refine ⟨?_, ?_, ?_⟩
    · intro x3 mh hImh hFmh hba1 hba2 hbx3 hRK54mh hM
      refine zw_eq (zr_214_2 n a0 a1 a2 x3 mh) ?_
      refine zw_ite (fun h1 => ?_) (fun h1 => ?_)
      · exact zw_some ⟨hImh, hFmh, hRK54mh, trivial⟩
      · have hM : (4 - 0) * 1 + (200 - x3) * 11 + 5 < (k : Int) := by omega
        exact ih.2.1 x3 0 mh hImh hFmh ⟨by omega, by omega⟩ ⟨by omega, by omega⟩ ⟨by omega, by omega⟩ ⟨by omega, by omega⟩ hRK54mh hM
    · intro x3 x4 mh hImh hFmh hba1 hba2 hbx3 hbx4 hRK54mh hM
      refine zw_eq (zr_214_10 n a0 a1 a2 x3 x4 mh) ?_
      have r2 : 0 ≤ (mh a0 4) ∧ (mh a0 4) ≤ 4 := zi_rd hImh hc0 zb_16_4
      refine zw_ite (fun h3 => ?_) (fun h3 => ?_)
      · have hM : (4 - 0) * 1 + (200 - x3) * 11 + 0 < (k : Int) := by omega
        exact ih.2.2 x3 0 mh hImh hFmh ⟨by omega, by omega⟩ ⟨by omega, by omega⟩ ⟨by omega, by omega⟩ ⟨by omega, by omega⟩ hRK54mh hM
      · have b4 : 0 ≤ x4 ∧ x4 < 4 := by omega
        refine zw_if b4 ?_
        have r5 : (-2147483648) ≤ (mh ((a0 + 2) + 20 + x4) 4) ∧ (mh ((a0 + 2) + 20 + x4) 4) ≤ 2147483647 := zi_rd hImh (zc_66_e (zc_16_3 hc0) b4) zb_18_4
        have r6 : (-2147483648) ≤ (mh a0 8) ∧ (mh a0 8) ≤ 2147483647 := zi_rd hImh hc0 zb_16_8
        refine zw_ite (fun h7 => ?_) (fun h7 => ?_)
        · have w8 := zu_w32_id (z := x4 + 1) (by omega) (by omega)
          have hM : (4 - (zu_w32 (x4 + 1))) * 1 + (200 - x3) * 11 + 5 < (k : Int) := by omega
          exact ih.2.1 x3 (zu_w32 (x4 + 1)) mh hImh hFmh ⟨by omega, by omega⟩ ⟨by omega, by omega⟩ ⟨by omega, by omega⟩ ⟨by omega, by omega⟩ hRK54mh hM
        · refine zw_bd (zw_mono (zk_216_16 n hImh hc0 ⟨by omega, by omega⟩ ⟨by omega, by omega⟩ hRK54mh) (fun v10 m9 hqm9 => ?_))
          obtain ⟨hIm9, hfm9, hvm9⟩ := hqm9
          have hFm9 := zfr_tr hFmh hfm9 rfl
          obtain ⟨hRK54m9, hvm9⟩ := hvm9
          have w11 := zu_w32_id (z := x4 + 1) (by omega) (by omega)
          have hM : (4 - (zu_w32 (x4 + 1))) * 1 + (200 - x3) * 11 + 5 < (k : Int) := by omega
          exact ih.2.1 x3 (zu_w32 (x4 + 1)) m9 hIm9 hFm9 ⟨by omega, by omega⟩ ⟨by omega, by omega⟩ ⟨by omega, by omega⟩ ⟨by omega, by omega⟩ hRK54m9 hM
    · intro x3 x4 mh hImh hFmh hba1 hba2 hbx3 hbx4 hRK54mh hM
      refine zw_eq (zr_214_52 n a0 a1 a2 x3 x4 mh) ?_
      have r12 : 0 ≤ (mh a0 4) ∧ (mh a0 4) ≤ 4 := zi_rd hImh hc0 zb_16_4
      refine zw_ite (fun h13 => ?_) (fun h13 => ?_)
      · refine zw_ite (fun h14 => ?_) (fun h14 => ?_)
        · exfalso; omega
        · refine zw_bd (zw_mono (zk_221_16 n hImh hc0) (fun v16 m15 hqm15 => ?_))
          obtain ⟨hIm15, hfm15, hvm15⟩ := hqm15
          have hFm15 := zfr_tr hFmh hfm15 rfl
          have hRK54m15 := zR_K54_fr (zdis_fr hfm15 rfl) hRK54mh
          have r17 : (-2147483648) ≤ (m15 a0 8) ∧ (m15 a0 8) ≤ 2147483647 := zi_rd hIm15 hc0 zb_16_8
          have r18 : (-2147483648) ≤ (m15 a0 11) ∧ (m15 a0 11) ≤ 2147483647 := zi_rd hIm15 hc0 zb_16_11
          refine zw_ite (fun h19 => ?_) (fun h19 => ?_)
          · have w20 := zu_w32_rg ((m15 a0 8) + 1)
            generalize hmm21 : zu_up m15 a0 8 (zu_w32 ((m15 a0 8) + 1)) = m21
            have hIm21 := zi_up hmm21 hIm15 hc0 zb_16_8 (by omega) (by omega)
            have hFm21 := zfr_up hmm21 hFm15 hc0 rfl
            have hRK54m21 := zR_K54_fr (zdis_fr (zfr_up hmm21 (zfr_rf [(16, 9)] _) hc0 rfl) rfl) hRK54m15
            have w22 := zu_w32_id (z := x3 + 1) (by omega) (by omega)
            have hM : (200 - (zu_w32 (x3 + 1))) * 11 + 10 < (k : Int) := by omega
            exact zw_le (zu_forget (zu_lr_same (zu_lr_same (zu_lr_same (zu_lr_same (zu_lr_drop zu_lr_nil)))))) (ih.1 (zu_w32 (x3 + 1)) m21 hIm21 hFm21 ⟨by omega, by omega⟩ ⟨by omega, by omega⟩ ⟨by omega, by omega⟩ hRK54m21 hM)
          · refine zw_bd (zw_mono (zk_222_16 n hIm15 hc0) (fun v24 m23 hqm23 => ?_))
            obtain ⟨hIm23, hfm23, hvm23⟩ := hqm23
            have hFm23 := zfr_tr hFm15 hfm23 rfl
            have hRK54m23 := zR_K54_fr (zdis_fr hfm23 rfl) hRK54m15
            have r25 : (-2147483648) ≤ (m23 a0 8) ∧ (m23 a0 8) ≤ 2147483647 := zi_rd hIm23 hc0 zb_16_8
            have e26 : (m23 a0 8) = (m15 a0 8) := (zfr_ap hfm23 hc0 rfl)
            have w27 := zu_w32_rg ((m23 a0 8) + 1)
            generalize hmm28 : zu_up m23 a0 8 (zu_w32 ((m23 a0 8) + 1)) = m28
            have hIm28 := zi_up hmm28 hIm23 hc0 zb_16_8 (by omega) (by omega)
            have hFm28 := zfr_up hmm28 hFm23 hc0 rfl
            have hRK54m28 := zR_K54_fr (zdis_fr (zfr_up hmm28 (zfr_rf [(16, 9)] _) hc0 rfl) rfl) hRK54m23
            have w29 := zu_w32_id (z := x3 + 1) (by omega) (by omega)
            have hM : (200 - (zu_w32 (x3 + 1))) * 11 + 10 < (k : Int) := by omega
            exact zw_le (zu_forget (zu_lr_same (zu_lr_same (zu_lr_same (zu_lr_same (zu_lr_drop zu_lr_nil)))))) (ih.1 (zu_w32 (x3 + 1)) m28 hIm28 hFm28 ⟨by omega, by omega⟩ ⟨by omega, by omega⟩ ⟨by omega, by omega⟩ hRK54m28 hM)
      · have b30 : 0 ≤ x4 ∧ x4 < 4 := by omega
        refine zw_if b30 ?_
        have r31 : (-2147483648) ≤ (mh ((a0 + 2) + 20 + x4) 4) ∧ (mh ((a0 + 2) + 20 + x4) 4) ≤ 2147483647 := zi_rd hImh (zc_66_e (zc_16_3 hc0) b30) zb_18_4
        have r32 : (-2147483648) ≤ (mh a0 8) ∧ (mh a0 8) ≤ 2147483647 := zi_rd hImh hc0 zb_16_8
        refine zw_ite (fun h33 => ?_) (fun h33 => ?_)
        · have w34 := zu_w32_id (z := x4 + 1) (by omega) (by omega)
          have hM : (4 - (zu_w32 (x4 + 1))) * 1 + (200 - x3) * 11 + 0 < (k : Int) := by omega
          exact ih.2.2 x3 (zu_w32 (x4 + 1)) mh hImh hFmh ⟨by omega, by omega⟩ ⟨by omega, by omega⟩ ⟨by omega, by omega⟩ ⟨by omega, by omega⟩ hRK54mh hM
        · refine zw_bd (zw_mono (zk_219_16 n hImh hc0 ⟨by omega, by omega⟩) (fun v36 m35 hqm35 => ?_))
          obtain ⟨hIm35, hfm35, hvm35⟩ := hqm35
          have hFm35 := zfr_tr hFmh hfm35 rfl
          have hRK54m35 := zR_K54_fr (zdis_fr hfm35 rfl) hRK54mh
          have w37 := zu_w32_id (z := x4 + 1) (by omega) (by omega)
          have hM : (4 - (zu_w32 (x4 + 1))) * 1 + (200 - x3) * 11 + 0 < (k : Int) := by omega
          exact ih.2.2 x3 (zu_w32 (x4 + 1)) m35 hIm35 hFm35 ⟨by omega, by omega⟩ ⟨by omega, by omega⟩ ⟨by omega, by omega⟩ ⟨by omega, by omega⟩ hRK54m35 hM
set_option maxHeartbeats 4000000 in
theorem zk_214_16 (n : Nat) {a0 a1 a2 : Int} {m0 : zu_m} (hIm0 : zi_I m0) (hc0 : zcls a0 = 16) (ha1 : 0 ≤ a1 ∧ a1 ≤ 200) (ha2 : 0 ≤ a2 ∧ a2 ≤ 0)    (hRK54m0 : zR_K54 m0) : zw (zu_call (zt_T n) 214 [(27, a0), (0, a1), (0, a2)] m0) (fun v m => zi_I m ∧ zfr [(16, 9), (16, 10), (17, 4), (18, 2), (18, 6), (18, 7), (18, 8), (56, 0), (59, 0), (67, 0), (68, 0)] m0 m ∧ zR_K54 m ∧ True) := by
  have hFm0 : zfr [(16, 9), (16, 10), (17, 4), (18, 2), (18, 6), (18, 7), (18, 8), (56, 0), (59, 0), (67, 0), (68, 0)] m0 m0 := zfr_rf _ _
  refine zw_eq (zr_214_0 n a0 a1 a2 m0) ?_
  have hM : (200 - 0) * 11 + 10 < ((2211 : Nat) : Int) := by omega
  exact (zl_214_16 n (m0 := m0) hc0 2211).1 0 m0 hIm0 hFm0 ⟨by omega, by omega⟩ ⟨by omega, by omega⟩ ⟨by omega, by omega⟩ hRK54m0 hM
set_option maxHeartbeats 4000000 in
theorem zl_214_25 (n : Nat) {a0 a1 a2 : Int} {m0 : zu_m} (hc0 : zcls a0 = 25)  : ∀ k : Nat, (∀ (x3 : Int) (mh : zu_m), zi_I mh → zfr [(25, 9), (25, 10), (26, 4), (27, 2), (27, 6), (27, 7), (27, 8), (56, 0), (59, 0), (97, 0), (98, 0)] m0 mh → (0 ≤ a1 ∧ a1 ≤ 200) → (0 ≤ a2 ∧ a2 ≤ 1) → (0 ≤ x3 ∧ x3 ≤ 200) → (zR_K54 mh) → (200 - x3) * 11 + 10 < (k : Int) → zw (zu_ex (zt_T n) 214 2 [(27, a0), (0, a1), (0, a2), (0, x3), (2, 0)] [] mh) (fun v m => zi_I m ∧ zfr [(25, 9), (25, 10), (26, 4), (27, 2), (27, 6), (27, 7), (27, 8), (56, 0), (59, 0), (97, 0), (98, 0)] m0 m ∧ zR_K54 m ∧ True)) ∧ (∀ (x3 x4 : Int) (mh : zu_m), zi_I mh → zfr [(25, 9), (25, 10), (26, 4), (27, 2), (27, 6), (27, 7), (27, 8), (56, 0), (59, 0), (97, 0), (98, 0)] m0 mh → (1 ≤ a1 ∧ a1 ≤ 200) → (0 ≤ a2 ∧ a2 ≤ 1) → (0 ≤ x3 ∧ x3 ≤ 199) → (0 ≤ x4 ∧ x4 ≤ 4) → (zR_K54 mh) → (4 - x4) * 1 + (200 - x3) * 11 + 5 < (k : Int) → zw (zu_ex (zt_T n) 214 10 [(27, a0), (0, a1), (0, a2), (0, x3), (0, x4)] [] mh) (fun v m => zi_I m ∧ zfr [(25, 9), (25, 10), (26, 4), (27, 2), (27, 6), (27, 7), (27, 8), (56, 0), (59, 0), (97, 0), (98, 0)] m0 m ∧ zR_K54 m ∧ True)) ∧ (∀ (x3 x4 : Int) (mh : zu_m), zi_I mh → zfr [(25, 9), (25, 10), (26, 4), (27, 2), (27, 6), (27, 7), (27, 8), (56, 0), (59, 0), (97, 0), (98, 0)] m0 mh → (1 ≤ a1 ∧ a1 ≤ 200) → (0 ≤ a2 ∧ a2 ≤ 1) → (0 ≤ x3 ∧ x3 ≤ 199) → (0 ≤ x4 ∧ x4 ≤ 4) → (zR_K54 mh) → (4 - x4) * 1 + (200 - x3) * 11 + 0 < (k : Int) → zw (zu_ex (zt_T n) 214 52 [(27, a0), (0, a1), (0, a2), (0, x3), (0, x4)] [] mh) (fun v m => zi_I m ∧ zfr [(25, 9), (25, 10), (26, 4), (27, 2), (27, 6), (27, 7), (27, 8), (56, 0), (59, 0), (97, 0), (98, 0)] m0 m ∧ zR_K54 m ∧ True)) := by
  intro k
  induction k with
  | zero => exact ⟨fun x3 mh hImh hFmh hba1 hba2 hbx3 hRK54mh hM => by exfalso; omega, fun x3 x4 mh hImh hFmh hba1 hba2 hbx3 hbx4 hRK54mh hM => by exfalso; omega, fun x3 x4 mh hImh hFmh hba1 hba2 hbx3 hbx4 hRK54mh hM => by exfalso; omega⟩
  | succ k ih =>
    refine ⟨?_, ?_, ?_⟩
    · intro x3 mh hImh hFmh hba1 hba2 hbx3 hRK54mh hM
      refine zw_eq (zr_214_2 n a0 a1 a2 x3 mh) ?_
      refine zw_ite (fun h1 => ?_) (fun h1 => ?_)
      · exact zw_some ⟨hImh, hFmh, hRK54mh, trivial⟩
      · have hM : (4 - 0) * 1 + (200 - x3) * 11 + 5 < (k : Int) := by omega
        exact ih.2.1 x3 0 mh hImh hFmh ⟨by omega, by omega⟩ ⟨by omega, by omega⟩ ⟨by omega, by omega⟩ ⟨by omega, by omega⟩ hRK54mh hM
    · intro x3 x4 mh hImh hFmh hba1 hba2 hbx3 hbx4 hRK54mh hM
      refine zw_eq (zr_214_10 n a0 a1 a2 x3 x4 mh) ?_
      have r2 : 0 ≤ (mh a0 4) ∧ (mh a0 4) ≤ 4 := zi_rd hImh hc0 zb_25_4
      refine zw_ite (fun h3 => ?_) (fun h3 => ?_)
      · have hM : (4 - 0) * 1 + (200 - x3) * 11 + 0 < (k : Int) := by omega
        exact ih.2.2 x3 0 mh hImh hFmh ⟨by omega, by omega⟩ ⟨by omega, by omega⟩ ⟨by omega, by omega⟩ ⟨by omega, by omega⟩ hRK54mh hM
      · have b4 : 0 ≤ x4 ∧ x4 < 4 := by omega
        refine zw_if b4 ?_
        have r5 : (-2147483648) ≤ (mh ((a0 + 2) + 20 + x4) 4) ∧ (mh ((a0 + 2) + 20 + x4) 4) ≤ 2147483647 := zi_rd hImh (zc_96_e (zc_25_3 hc0) b4) zb_27_4
        have r6 : (-2147483648) ≤ (mh a0 8) ∧ (mh a0 8) ≤ 2147483647 := zi_rd hImh hc0 zb_25_8
        refine zw_ite (fun h7 => ?_) (fun h7 => ?_)
        · have w8 := zu_w32_id (z := x4 + 1) (by omega) (by omega)
          have hM : (4 - (zu_w32 (x4 + 1))) * 1 + (200 - x3) * 11 + 5 < (k : Int) := by omega
          exact ih.2.1 x3 (zu_w32 (x4 + 1)) mh hImh hFmh ⟨by omega, by omega⟩ ⟨by omega, by omega⟩ ⟨by omega, by omega⟩ ⟨by omega, by omega⟩ hRK54mh hM
        · refine zw_bd (zw_mono (zk_216_25 n hImh hc0 ⟨by omega, by omega⟩ ⟨by omega, by omega⟩ hRK54mh) (fun v10 m9 hqm9 => ?_))
          obtain ⟨hIm9, hfm9, hvm9⟩ := hqm9
          have hFm9 := zfr_tr hFmh hfm9 rfl
          obtain ⟨hRK54m9, hvm9⟩ := hvm9
          have w11 := zu_w32_id (z := x4 + 1) (by omega) (by omega)
          have hM : (4 - (zu_w32 (x4 + 1))) * 1 + (200 - x3) * 11 + 5 < (k : Int) := by omega
          exact ih.2.1 x3 (zu_w32 (x4 + 1)) m9 hIm9 hFm9 ⟨by omega, by omega⟩ ⟨by omega, by omega⟩ ⟨by omega, by omega⟩ ⟨by omega, by omega⟩ hRK54m9 hM
    · intro x3 x4 mh hImh hFmh hba1 hba2 hbx3 hbx4 hRK54mh hM
      refine zw_eq (zr_214_52 n a0 a1 a2 x3 x4 mh) ?_
      have r12 : 0 ≤ (mh a0 4) ∧ (mh a0 4) ≤ 4 := zi_rd hImh hc0 zb_25_4
      refine zw_ite (fun h13 => ?_) (fun h13 => ?_)
      · refine zw_ite (fun h14 => ?_) (fun h14 => ?_)
        · have r15 : (-2147483648) ≤ (mh a0 8) ∧ (mh a0 8) ≤ 2147483647 := zi_rd hImh hc0 zb_25_8
          have r16 : (-2147483648) ≤ (mh a0 11) ∧ (mh a0 11) ≤ 2147483647 := zi_rd hImh hc0 zb_25_11
          refine zw_ite (fun h17 => ?_) (fun h17 => ?_)
          · have w18 := zu_w32_rg ((mh a0 8) + 1)
            generalize hmm19 : zu_up mh a0 8 (zu_w32 ((mh a0 8) + 1)) = m19
            have hIm19 := zi_up hmm19 hImh hc0 zb_25_8 (by omega) (by omega)
            have hFm19 := zfr_up hmm19 hFmh hc0 rfl
            have hRK54m19 := zR_K54_fr (zdis_fr (zfr_up hmm19 (zfr_rf [(25, 9)] _) hc0 rfl) rfl) hRK54mh
            have w20 := zu_w32_id (z := x3 + 1) (by omega) (by omega)
            have hM : (200 - (zu_w32 (x3 + 1))) * 11 + 10 < (k : Int) := by omega
            exact zw_le (zu_forget (zu_lr_same (zu_lr_same (zu_lr_same (zu_lr_same (zu_lr_drop zu_lr_nil)))))) (ih.1 (zu_w32 (x3 + 1)) m19 hIm19 hFm19 ⟨by omega, by omega⟩ ⟨by omega, by omega⟩ ⟨by omega, by omega⟩ hRK54m19 hM)
          · refine zw_bd (zw_mono (zk_222_25 n hImh hc0) (fun v22 m21 hqm21 => ?_))
            obtain ⟨hIm21, hfm21, hvm21⟩ := hqm21
            have hFm21 := zfr_tr hFmh hfm21 rfl
            have hRK54m21 := zR_K54_fr (zdis_fr hfm21 rfl) hRK54mh
            have r23 : (-2147483648) ≤ (m21 a0 8) ∧ (m21 a0 8) ≤ 2147483647 := zi_rd hIm21 hc0 zb_25_8
            have e24 : (m21 a0 8) = (mh a0 8) := (zfr_ap hfm21 hc0 rfl)
            have w25 := zu_w32_rg ((m21 a0 8) + 1)
            generalize hmm26 : zu_up m21 a0 8 (zu_w32 ((m21 a0 8) + 1)) = m26
            have hIm26 := zi_up hmm26 hIm21 hc0 zb_25_8 (by omega) (by omega)
            have hFm26 := zfr_up hmm26 hFm21 hc0 rfl
            have hRK54m26 := zR_K54_fr (zdis_fr (zfr_up hmm26 (zfr_rf [(25, 9)] _) hc0 rfl) rfl) hRK54m21
            have w27 := zu_w32_id (z := x3 + 1) (by omega) (by omega)
            have hM : (200 - (zu_w32 (x3 + 1))) * 11 + 10 < (k : Int) := by omega
            exact zw_le (zu_forget (zu_lr_same (zu_lr_same (zu_lr_same (zu_lr_same (zu_lr_drop zu_lr_nil)))))) (ih.1 (zu_w32 (x3 + 1)) m26 hIm26 hFm26 ⟨by omega, by omega⟩ ⟨by omega, by omega⟩ ⟨by omega, by omega⟩ hRK54m26 hM)
        · refine zw_bd (zw_mono (zk_221_25 n hImh hc0) (fun v29 m28 hqm28 => ?_))
          obtain ⟨hIm28, hfm28, hvm28⟩ := hqm28
          have hFm28 := zfr_tr hFmh hfm28 rfl
          have hRK54m28 := zR_K54_fr (zdis_fr hfm28 rfl) hRK54mh
          have r30 : (-2147483648) ≤ (m28 a0 8) ∧ (m28 a0 8) ≤ 2147483647 := zi_rd hIm28 hc0 zb_25_8
          have r31 : (-2147483648) ≤ (m28 a0 11) ∧ (m28 a0 11) ≤ 2147483647 := zi_rd hIm28 hc0 zb_25_11
          refine zw_ite (fun h32 => ?_) (fun h32 => ?_)
          · have w33 := zu_w32_rg ((m28 a0 8) + 1)
            generalize hmm34 : zu_up m28 a0 8 (zu_w32 ((m28 a0 8) + 1)) = m34
            have hIm34 := zi_up hmm34 hIm28 hc0 zb_25_8 (by omega) (by omega)
            have hFm34 := zfr_up hmm34 hFm28 hc0 rfl
            have hRK54m34 := zR_K54_fr (zdis_fr (zfr_up hmm34 (zfr_rf [(25, 9)] _) hc0 rfl) rfl) hRK54m28
            have w35 := zu_w32_id (z := x3 + 1) (by omega) (by omega)
            have hM : (200 - (zu_w32 (x3 + 1))) * 11 + 10 < (k : Int) := by omega
            exact zw_le (zu_forget (zu_lr_same (zu_lr_same (zu_lr_same (zu_lr_same (zu_lr_drop zu_lr_nil)))))) (ih.1 (zu_w32 (x3 + 1)) m34 hIm34 hFm34 ⟨by omega, by omega⟩ ⟨by omega, by omega⟩ ⟨by omega, by omega⟩ hRK54m34 hM)
          · refine zw_bd (zw_mono (zk_222_25 n hIm28 hc0) (fun v37 m36 hqm36 => ?_))
            obtain ⟨hIm36, hfm36, hvm36⟩ := hqm36
            have hFm36 := zfr_tr hFm28 hfm36 rfl
            have hRK54m36 := zR_K54_fr (zdis_fr hfm36 rfl) hRK54m28
            have r38 : (-2147483648) ≤ (m36 a0 8) ∧ (m36 a0 8) ≤ 2147483647 := zi_rd hIm36 hc0 zb_25_8
            have e39 : (m36 a0 8) = (m28 a0 8) := (zfr_ap hfm36 hc0 rfl)
            have w40 := zu_w32_rg ((m36 a0 8) + 1)
            generalize hmm41 : zu_up m36 a0 8 (zu_w32 ((m36 a0 8) + 1)) = m41
            have hIm41 := zi_up hmm41 hIm36 hc0 zb_25_8 (by omega) (by omega)
            have hFm41 := zfr_up hmm41 hFm36 hc0 rfl
            have hRK54m41 := zR_K54_fr (zdis_fr (zfr_up hmm41 (zfr_rf [(25, 9)] _) hc0 rfl) rfl) hRK54m36
            have w42 := zu_w32_id (z := x3 + 1) (by omega) (by omega)
            have hM : (200 - (zu_w32 (x3 + 1))) * 11 + 10 < (k : Int) := by omega
            exact zw_le (zu_forget (zu_lr_same (zu_lr_same (zu_lr_same (zu_lr_same (zu_lr_drop zu_lr_nil)))))) (ih.1 (zu_w32 (x3 + 1)) m41 hIm41 hFm41 ⟨by omega, by omega⟩ ⟨by omega, by omega⟩ ⟨by omega, by omega⟩ hRK54m41 hM)
      · have b43 : 0 ≤ x4 ∧ x4 < 4 := by omega
        refine zw_if b43 ?_
        have r44 : (-2147483648) ≤ (mh ((a0 + 2) + 20 + x4) 4) ∧ (mh ((a0 + 2) + 20 + x4) 4) ≤ 2147483647 := zi_rd hImh (zc_96_e (zc_25_3 hc0) b43) zb_27_4
        have r45 : (-2147483648) ≤ (mh a0 8) ∧ (mh a0 8) ≤ 2147483647 := zi_rd hImh hc0 zb_25_8
        refine zw_ite (fun h46 => ?_) (fun h46 => ?_)
        · have w47 := zu_w32_id (z := x4 + 1) (by omega) (by omega)
          have hM : (4 - (zu_w32 (x4 + 1))) * 1 + (200 - x3) * 11 + 0 < (k : Int) := by omega
          exact ih.2.2 x3 (zu_w32 (x4 + 1)) mh hImh hFmh ⟨by omega, by omega⟩ ⟨by omega, by omega⟩ ⟨by omega, by omega⟩ ⟨by omega, by omega⟩ hRK54mh hM
        · refine zw_bd (zw_mono (zk_219_25 n hImh hc0 ⟨by omega, by omega⟩) (fun v49 m48 hqm48 => ?_))
          obtain ⟨hIm48, hfm48, hvm48⟩ := hqm48
          have hFm48 := zfr_tr hFmh hfm48 rfl
          have hRK54m48 := zR_K54_fr (zdis_fr hfm48 rfl) hRK54mh
          have w50 := zu_w32_id (z := x4 + 1) (by omega) (by omega)
          have hM : (4 - (zu_w32 (x4 + 1))) * 1 + (200 - x3) * 11 + 0 < (k : Int) := by omega
          exact ih.2.2 x3 (zu_w32 (x4 + 1)) m48 hIm48 hFm48 ⟨by omega, by omega⟩ ⟨by omega, by omega⟩ ⟨by omega, by omega⟩ ⟨by omega, by omega⟩ hRK54m48 hM
set_option maxHeartbeats 4000000 in
theorem zk_214_25 (n : Nat) {a0 a1 a2 : Int} {m0 : zu_m} (hIm0 : zi_I m0) (hc0 : zcls a0 = 25) (ha1 : 0 ≤ a1 ∧ a1 ≤ 200) (ha2 : 0 ≤ a2 ∧ a2 ≤ 1)    (hRK54m0 : zR_K54 m0) : zw (zu_call (zt_T n) 214 [(27, a0), (0, a1), (0, a2)] m0) (fun v m => zi_I m ∧ zfr [(25, 9), (25, 10), (26, 4), (27, 2), (27, 6), (27, 7), (27, 8), (56, 0), (59, 0), (97, 0), (98, 0)] m0 m ∧ zR_K54 m ∧ True) := by
  have hFm0 : zfr [(25, 9), (25, 10), (26, 4), (27, 2), (27, 6), (27, 7), (27, 8), (56, 0), (59, 0), (97, 0), (98, 0)] m0 m0 := zfr_rf _ _
  refine zw_eq (zr_214_0 n a0 a1 a2 m0) ?_
  have hM : (200 - 0) * 11 + 10 < ((2211 : Nat) : Int) := by omega
  exact (zl_214_25 n (m0 := m0) hc0 2211).1 0 m0 hIm0 hFm0 ⟨by omega, by omega⟩ ⟨by omega, by omega⟩ ⟨by omega, by omega⟩ hRK54m0 hM
set_option maxHeartbeats 4000000 in
theorem zl_237 (n : Nat) {a0 a1 : Int} {m0 : zu_m} (hc0 : zcls a0 = 16)  : ∀ k : Nat, (∀ (x2 x3 : Int) (mh : zu_m), zi_I mh → zfr [(56, 0), (59, 0)] m0 mh → (0 ≤ a1 ∧ a1 ≤ 3) → ((-2147483648) ≤ x2 ∧ x2 ≤ 2147483647) → (0 ≤ x3 ∧ x3 ≤ 16) → (zR_K54 mh) → (16 - x3) * 1 + 0 < (k : Int) → zw (zu_ex (zt_T n) 237 4 [(27, a0), (0, a1), (0, x2), (0, x3)] [] mh) (fun v m => zi_I m ∧ zfr [(56, 0), (59, 0)] m0 m ∧ zR_K54 m ∧ ((-2147483648) ≤ v ∧ v ≤ 2147483647))) := by
  intro k
  induction k with
  | zero => exact fun x2 x3 mh hImh hFmh hba1 hbx2 hbx3 hRK54mh hM => by exfalso; omega
  | succ k ih =>
    intro x2 x3 mh hImh hFmh hba1 hbx2 hbx3 hRK54mh hM
    refine zw_eq (zr_237_4 n a0 a1 x2 x3 mh) ?_
    have r1 : 0 ≤ (mh a0 2) ∧ (mh a0 2) ≤ 16 := zi_rd hImh hc0 zb_16_2
    refine zw_ite (fun h2 => ?_) (fun h2 => ?_)
    · exact zw_some ⟨hImh, hFmh, hRK54mh, ⟨by omega, by omega⟩⟩
    · have b3 : 0 ≤ x3 ∧ x3 < 16 := by omega
      refine zw_if b3 ?_
      have r4 : (-3) ≤ (mh ((a0 + 1) + 5 + x3) 3) ∧ (mh ((a0 + 1) + 5 + x3) 3) ≤ 3 := zi_rd hImh (zc_65_e (zc_16_1 hc0) b3) zb_17_3
      refine zw_ite (fun h5 => ?_) (fun h5 => ?_)
      · have w6 := zu_w32_id (z := x3 + 1) (by omega) (by omega)
        have hM : (16 - (zu_w32 (x3 + 1))) * 1 + 0 < (k : Int) := by omega
        exact ih x2 (zu_w32 (x3 + 1)) mh hImh hFmh ⟨by omega, by omega⟩ ⟨by omega, by omega⟩ ⟨by omega, by omega⟩ hRK54mh hM
      · refine zw_bd (zw_mono (zk_226 n hImh hc0 ⟨by omega, by omega⟩ ⟨by omega, by omega⟩ hRK54mh) (fun v8 m7 hqm7 => ?_))
        obtain ⟨hIm7, hfm7, hvm7⟩ := hqm7
        have hFm7 := zfr_tr hFmh hfm7 rfl
        obtain ⟨hRK54m7, hvm7⟩ := hvm7
        have w9 := zu_w32_rg (x2 + v8)
        have w10 := zu_w32_id (z := x3 + 1) (by omega) (by omega)
        have hM : (16 - (zu_w32 (x3 + 1))) * 1 + 0 < (k : Int) := by omega
        exact ih (zu_w32 (x2 + v8)) (zu_w32 (x3 + 1)) m7 hIm7 hFm7 ⟨by omega, by omega⟩ ⟨by omega, by omega⟩ ⟨by omega, by omega⟩ hRK54m7 hM
set_option maxHeartbeats 4000000 in
theorem zk_237 (n : Nat) {a0 a1 : Int} {m0 : zu_m} (hIm0 : zi_I m0) (hc0 : zcls a0 = 16) (ha1 : 0 ≤ a1 ∧ a1 ≤ 3)    (hRK54m0 : zR_K54 m0) : zw (zu_call (zt_T n) 237 [(27, a0), (0, a1)] m0) (fun v m => zi_I m ∧ zfr [(56, 0), (59, 0)] m0 m ∧ zR_K54 m ∧ ((-2147483648) ≤ v ∧ v ≤ 2147483647)) := by
  have hFm0 : zfr [(56, 0), (59, 0)] m0 m0 := zfr_rf _ _
  refine zw_eq (zr_237_0 n a0 a1 m0) ?_
  have hM : (16 - 0) * 1 + 0 < ((17 : Nat) : Int) := by omega
  exact (zl_237 n (m0 := m0) hc0 17) 0 0 m0 hIm0 hFm0 ⟨by omega, by omega⟩ ⟨by omega, by omega⟩ ⟨by omega, by omega⟩ hRK54m0 hM
set_option maxHeartbeats 4000000 in
theorem zl_242 (n : Nat) {a0 a1 a2 : Int} {m0 : zu_m} (hc0 : zcls a0 = 16)  : ∀ k : Nat, (∀ (x3 : Int) (mh : zu_m), zi_I mh → zfr [(56, 0), (59, 0)] m0 mh → (0 ≤ a1 ∧ a1 ≤ 3) → (1 ≤ a2 ∧ a2 ≤ 3) → (0 ≤ x3 ∧ x3 ≤ 16) → (zR_K54 mh) → (16 - x3) * 18 + 17 < (k : Int) → zw (zu_ex (zt_T n) 242 2 [(27, a0), (0, a1), (0, a2), (0, x3), (2, 0)] [] mh) (fun v m => zi_I m ∧ zfr [(56, 0), (59, 0)] m0 m ∧ zR_K54 m ∧ ((-1) ≤ v ∧ v ≤ 255))) ∧ (∀ (x3 x4 : Int) (mh : zu_m), zi_I mh → zfr [(56, 0), (59, 0)] m0 mh → (0 ≤ a1 ∧ a1 ≤ 3) → (1 ≤ a2 ∧ a2 ≤ 3) → (0 ≤ x3 ∧ x3 ≤ 15) → (0 ≤ x4 ∧ x4 ≤ 16) → (1 ≤ mh a0 2 ∧ mh a0 2 ≤ 16) → (zR_K54 mh) → (16 - x4) * 1 + (16 - x3) * 18 + 0 < (k : Int) → zw (zu_ex (zt_T n) 242 13 [(27, a0), (0, a1), (0, a2), (0, x3), (0, x4)] [] mh) (fun v m => zi_I m ∧ zfr [(56, 0), (59, 0)] m0 m ∧ zR_K54 m ∧ ((-1) ≤ v ∧ v ≤ 255))) := by
  intro k
  induction k with
  | zero => exact ⟨fun x3 mh hImh hFmh hba1 hba2 hbx3 hRK54mh hM => by exfalso; omega, fun x3 x4 mh hImh hFmh hba1 hba2 hbx3 hbx4 hg4 hRK54mh hM => by exfalso; omega⟩
  | succ k ih =>
    refine ⟨?_, ?_⟩
    · intro x3 mh hImh hFmh hba1 hba2 hbx3 hRK54mh hM
      refine zw_eq (zr_242_2 n a0 a1 a2 x3 mh) ?_
      have r1 : 0 ≤ (mh a0 2) ∧ (mh a0 2) ≤ 16 := zi_rd hImh hc0 zb_16_2
      refine zw_ite (fun h2 => ?_) (fun h2 => ?_)
      · exact zw_some ⟨hImh, hFmh, hRK54mh, ⟨by omega, by omega⟩⟩
      · have hM : (16 - 0) * 1 + (16 - x3) * 18 + 0 < (k : Int) := by omega
        exact ih.2 x3 0 mh hImh hFmh ⟨by omega, by omega⟩ ⟨by omega, by omega⟩ ⟨by omega, by omega⟩ ⟨by omega, by omega⟩ ⟨by omega, by omega⟩ hRK54mh hM
    · intro x3 x4 mh hImh hFmh hba1 hba2 hbx3 hbx4 hg4 hRK54mh hM
      refine zw_eq (zr_242_13 n a0 a1 a2 x3 x4 mh) ?_
      refine zw_ite (fun h3 => ?_) (fun h3 => ?_)
      · have w4 := zu_w32_id (z := x3 + 1) (by omega) (by omega)
        have hM : (16 - (zu_w32 (x3 + 1))) * 18 + 17 < (k : Int) := by omega
        exact zw_le (zu_forget (zu_lr_same (zu_lr_same (zu_lr_same (zu_lr_same (zu_lr_drop zu_lr_nil)))))) (ih.1 (zu_w32 (x3 + 1)) mh hImh hFmh ⟨by omega, by omega⟩ ⟨by omega, by omega⟩ ⟨by omega, by omega⟩ hRK54mh hM)
      · have b5 : 0 ≤ x3 ∧ x3 < 16 := by omega
        refine zw_if b5 ?_
        have r6 : (-3) ≤ (mh ((a0 + 1) + 5 + x3) 3) ∧ (mh ((a0 + 1) + 5 + x3) 3) ≤ 3 := zi_rd hImh (zc_65_e (zc_16_1 hc0) b5) zb_17_3
        refine zw_ite (fun h7 => ?_) (fun h7 => ?_)
        · have w8 := zu_w32_id (z := x3 + 1) (by omega) (by omega)
          have hM : (16 - (zu_w32 (x3 + 1))) * 18 + 17 < (k : Int) := by omega
          exact zw_le (zu_forget (zu_lr_same (zu_lr_same (zu_lr_same (zu_lr_same (zu_lr_drop zu_lr_nil)))))) (ih.1 (zu_w32 (x3 + 1)) mh hImh hFmh ⟨by omega, by omega⟩ ⟨by omega, by omega⟩ ⟨by omega, by omega⟩ hRK54mh hM)
        · have b9 : 0 ≤ x4 ∧ x4 < 16 := by omega
          refine zw_if b9 ?_
          have r10 : (-3) ≤ (mh ((a0 + 1) + 5 + x4) 3) ∧ (mh ((a0 + 1) + 5 + x4) 3) ≤ 3 := zi_rd hImh (zc_65_e (zc_16_1 hc0) b9) zb_17_3
          refine zw_ite (fun h11 => ?_) (fun h11 => ?_)
          · have w12 := zu_w32_id (z := x4 + 1) (by omega) (by omega)
            have hM : (16 - (zu_w32 (x4 + 1))) * 1 + (16 - x3) * 18 + 0 < (k : Int) := by omega
            exact ih.2 x3 (zu_w32 (x4 + 1)) mh hImh hFmh ⟨by omega, by omega⟩ ⟨by omega, by omega⟩ ⟨by omega, by omega⟩ ⟨by omega, by omega⟩ ⟨by omega, by omega⟩ hRK54mh hM
          · refine zw_bd (zw_mono (zk_226 n hImh hc0 ⟨by omega, by omega⟩ ⟨by omega, by omega⟩ hRK54mh) (fun v14 m13 hqm13 => ?_))
            obtain ⟨hIm13, hfm13, hvm13⟩ := hqm13
            have hFm13 := zfr_tr hFmh hfm13 rfl
            obtain ⟨hRK54m13, hvm13⟩ := hvm13
            refine zw_bd (zw_mono (zk_226 n hIm13 hc0 ⟨by omega, by omega⟩ ⟨by omega, by omega⟩ hRK54m13) (fun v16 m15 hqm15 => ?_))
            obtain ⟨hIm15, hfm15, hvm15⟩ := hqm15
            have hFm15 := zfr_tr hFm13 hfm15 rfl
            obtain ⟨hRK54m15, hvm15⟩ := hvm15
            refine zw_ite (fun h17 => ?_) (fun h17 => ?_)
            · have w18 := zu_w32_id (z := x4 + 1) (by omega) (by omega)
              have r19 : 0 ≤ (m15 a0 2) ∧ (m15 a0 2) ≤ 16 := zi_rd hIm15 hc0 zb_16_2
              have e20 : (m15 a0 2) = (mh a0 2) := (Eq.trans (zfr_ap hfm15 hc0 rfl) (zfr_ap hfm13 hc0 rfl))
              have hM : (16 - (zu_w32 (x4 + 1))) * 1 + (16 - x3) * 18 + 0 < (k : Int) := by omega
              exact ih.2 x3 (zu_w32 (x4 + 1)) m15 hIm15 hFm15 ⟨by omega, by omega⟩ ⟨by omega, by omega⟩ ⟨by omega, by omega⟩ ⟨by omega, by omega⟩ ⟨by omega, by omega⟩ hRK54m15 hM
            · refine zw_bd (zw_mono (zk_226 n hIm15 hc0 ⟨by omega, by omega⟩ ⟨by omega, by omega⟩ hRK54m15) (fun v22 m21 hqm21 => ?_))
              obtain ⟨hIm21, hfm21, hvm21⟩ := hqm21
              have hFm21 := zfr_tr hFm15 hfm21 rfl
              obtain ⟨hRK54m21, hvm21⟩ := hvm21
              refine zw_bd (zw_mono (zk_226 n hIm21 hc0 ⟨by omega, by omega⟩ ⟨by omega, by omega⟩ hRK54m21) (fun v24 m23 hqm23 => ?_))
              obtain ⟨hIm23, hfm23, hvm23⟩ := hqm23
              have hFm23 := zfr_tr hFm21 hfm23 rfl
              obtain ⟨hRK54m23, hvm23⟩ := hvm23
              refine zw_ite (fun h25 => ?_) (fun h25 => ?_)
              · have w26 := zu_w32_id (z := x4 + 1) (by omega) (by omega)
                have r27 : 0 ≤ (m23 a0 2) ∧ (m23 a0 2) ≤ 16 := zi_rd hIm23 hc0 zb_16_2
                have e28 : (m23 a0 2) = (mh a0 2) := (Eq.trans (zfr_ap hfm23 hc0 rfl) (Eq.trans (zfr_ap hfm21 hc0 rfl) (Eq.trans (zfr_ap hfm15 hc0 rfl) (zfr_ap hfm13 hc0 rfl))))
                have hM : (16 - (zu_w32 (x4 + 1))) * 1 + (16 - x3) * 18 + 0 < (k : Int) := by omega
                exact ih.2 x3 (zu_w32 (x4 + 1)) m23 hIm23 hFm23 ⟨by omega, by omega⟩ ⟨by omega, by omega⟩ ⟨by omega, by omega⟩ ⟨by omega, by omega⟩ ⟨by omega, by omega⟩ hRK54m23 hM
              · have w29 := zu_w32_id (z := x3 * 16) (by omega) (by omega)
                have w30 := zu_w32_id (z := (zu_w32 (x3 * 16)) + x4) (by omega) (by omega)
                exact zw_some ⟨hIm23, hFm23, hRK54m23, ⟨by omega, by omega⟩⟩
set_option maxHeartbeats 4000000 in
theorem zk_242 (n : Nat) {a0 a1 a2 : Int} {m0 : zu_m} (hIm0 : zi_I m0) (hc0 : zcls a0 = 16) (ha1 : 0 ≤ a1 ∧ a1 ≤ 3) (ha2 : 1 ≤ a2 ∧ a2 ≤ 3)    (hRK54m0 : zR_K54 m0) : zw (zu_call (zt_T n) 242 [(27, a0), (0, a1), (0, a2)] m0) (fun v m => zi_I m ∧ zfr [(56, 0), (59, 0)] m0 m ∧ zR_K54 m ∧ ((-1) ≤ v ∧ v ≤ 255)) := by
  have hFm0 : zfr [(56, 0), (59, 0)] m0 m0 := zfr_rf _ _
  refine zw_eq (zr_242_0 n a0 a1 a2 m0) ?_
  have hM : (16 - 0) * 18 + 17 < ((306 : Nat) : Int) := by omega
  exact (zl_242 n (m0 := m0) hc0 306).1 0 m0 hIm0 hFm0 ⟨by omega, by omega⟩ ⟨by omega, by omega⟩ ⟨by omega, by omega⟩ hRK54m0 hM
set_option maxHeartbeats 4000000 in
theorem zl_243 (n : Nat) {a0 a1 : Int} {m0 : zu_m} (hc0 : zcls a0 = 16)  : ∀ k : Nat, (∀ (x2 : Int) (mh : zu_m), zi_I mh → zfr [(56, 0), (59, 0), (69, 0)] m0 mh → (0 ≤ a1 ∧ a1 ≤ 15) → (0 ≤ x2 ∧ x2 ≤ 4) → (1 ≤ mh a0 2 ∧ mh a0 2 ≤ 16) → (zR_K54 mh) → (4 - x2) * 1 + 85 < (k : Int) → zw (zu_ex (zt_T n) 243 2 [(27, a0), (0, a1), (0, x2), (2, 0), (2, 0)] [] mh) (fun v m => zi_I m ∧ zfr [(56, 0), (59, 0), (69, 0)] m0 m ∧ zR_K54 m ∧ ((-8) ≤ v ∧ v ≤ 3))) ∧ (∀ (x2 : Int) (mh : zu_m), zi_I mh → zfr [(56, 0), (59, 0), (69, 0)] m0 mh → (0 ≤ a1 ∧ a1 ≤ 15) → (0 ≤ x2 ∧ x2 ≤ 16) → (1 ≤ mh a0 2 ∧ mh a0 2 ≤ 16) → (zR_K54 mh) → (16 - x2) * 5 + 4 < (k : Int) → zw (zu_ex (zt_T n) 243 22 [(27, a0), (0, a1), (0, x2), (2, 0), (2, 0)] [] mh) (fun v m => zi_I m ∧ zfr [(56, 0), (59, 0), (69, 0)] m0 m ∧ zR_K54 m ∧ ((-8) ≤ v ∧ v ≤ 3))) ∧ (∀ (x2 x3 x4 : Int) (mh : zu_m), zi_I mh → zfr [(56, 0), (59, 0), (69, 0)] m0 mh → (0 ≤ a1 ∧ a1 ≤ 15) → (0 ≤ x2 ∧ x2 ≤ 15) → (0 ≤ x3 ∧ x3 ≤ 3) → (1 ≤ x4 ∧ x4 ≤ 4) → (1 ≤ mh a0 2 ∧ mh a0 2 ≤ 16) → (zR_K54 mh) → (4 - x4) * 1 + (16 - x2) * 5 + 0 < (k : Int) → zw (zu_ex (zt_T n) 243 47 [(27, a0), (0, a1), (0, x2), (0, x3), (0, x4)] [] mh) (fun v m => zi_I m ∧ zfr [(56, 0), (59, 0), (69, 0)] m0 m ∧ zR_K54 m ∧ ((-8) ≤ v ∧ v ≤ 3))) := by
  intro k
  induction k with
  | zero => exact ⟨fun x2 mh hImh hFmh hba1 hbx2 hg2 hRK54mh hM => by exfalso; omega, fun x2 mh hImh hFmh hba1 hbx2 hg2 hRK54mh hM => by exfalso; omega, fun x2 x3 x4 mh hImh hFmh hba1 hbx2 hbx3 hbx4 hg4 hRK54mh hM => by exfalso; omega⟩
  | succ k ih =>
    refine ⟨?_, ?_, ?_⟩
    · intro x2 mh hImh hFmh hba1 hbx2 hg2 hRK54mh hM
      refine zw_eq (zr_243_2 n a0 a1 x2 mh) ?_
      refine zw_ite (fun h1 => ?_) (fun h1 => ?_)
      · have hM : (16 - 0) * 5 + 4 < (k : Int) := by omega
        exact ih.2.1 0 mh hImh hFmh ⟨by omega, by omega⟩ ⟨by omega, by omega⟩ ⟨by omega, by omega⟩ hRK54mh hM
      · have b2 : 0 ≤ x2 ∧ x2 < 4 := by omega
        refine zw_if b2 ?_
        generalize hmm3 : zu_up mh (a0 + 5) x2 0 = m3
        have hIm3 := zi_up hmm3 hImh (zc_16_7 hc0) (zb_69 _) (by omega) (by omega)
        have hFm3 := zfr_up hmm3 hFmh (zc_16_7 hc0) rfl
        have hRK54m3 := zR_K54_fr (zdis_fr (zfr_up hmm3 (zfr_rf [(69, 0)] _) (zc_16_7 hc0) rfl) rfl) hRK54mh
        have w4 := zu_w32_id (z := x2 + 1) (by omega) (by omega)
        have r5 : 0 ≤ (m3 a0 2) ∧ (m3 a0 2) ≤ 16 := zi_rd hIm3 hc0 zb_16_2
        have e6 : (m3 a0 2) = (mh a0 2) := (zs_ne hmm3 (Or.inl (zc_ne hc0 (zc_16_7 hc0) (by decide))))
        have hM : (4 - (zu_w32 (x2 + 1))) * 1 + 85 < (k : Int) := by omega
        exact ih.1 (zu_w32 (x2 + 1)) m3 hIm3 hFm3 ⟨by omega, by omega⟩ ⟨by omega, by omega⟩ ⟨by omega, by omega⟩ hRK54m3 hM
    · intro x2 mh hImh hFmh hba1 hbx2 hg2 hRK54mh hM
      refine zw_eq (zr_243_22 n a0 a1 x2 mh) ?_
      refine zw_ite (fun h7 => ?_) (fun h7 => ?_)
      · exact zw_some ⟨hImh, hFmh, hRK54mh, ⟨by omega, by omega⟩⟩
      · have b8 : 0 ≤ x2 ∧ x2 < 16 := by omega
        refine zw_if b8 ?_
        have r9 : (-3) ≤ (mh ((a0 + 1) + 5 + x2) 3) ∧ (mh ((a0 + 1) + 5 + x2) 3) ≤ 3 := zi_rd hImh (zc_65_e (zc_16_1 hc0) b8) zb_17_3
        refine zw_ite (fun h10 => ?_) (fun h10 => ?_)
        · have w11 := zu_w32_id (z := x2 + 1) (by omega) (by omega)
          have hM : (16 - (zu_w32 (x2 + 1))) * 5 + 4 < (k : Int) := by omega
          exact ih.2.1 (zu_w32 (x2 + 1)) mh hImh hFmh ⟨by omega, by omega⟩ ⟨by omega, by omega⟩ ⟨by omega, by omega⟩ hRK54mh hM
        · have hM : (4 - 1) * 1 + (16 - x2) * 5 + 0 < (k : Int) := by omega
          exact ih.2.2 x2 0 1 mh hImh hFmh ⟨by omega, by omega⟩ ⟨by omega, by omega⟩ ⟨by omega, by omega⟩ ⟨by omega, by omega⟩ ⟨by omega, by omega⟩ hRK54mh hM
    · intro x2 x3 x4 mh hImh hFmh hba1 hbx2 hbx3 hbx4 hg4 hRK54mh hM
      refine zw_eq (zr_243_47 n a0 a1 x2 x3 x4 mh) ?_
      have r12 : 0 ≤ (mh a0 4) ∧ (mh a0 4) ≤ 4 := zi_rd hImh hc0 zb_16_4
      refine zw_ite (fun h13 => ?_) (fun h13 => ?_)
      · refine zw_ite (fun h14 => ?_) (fun h14 => ?_)
        · have b15 : 0 ≤ x3 ∧ x3 < 4 := by omega
          refine zw_if b15 ?_
          have r16 : (-2147483648) ≤ (mh (a0 + 5) x3) ∧ (mh (a0 + 5) x3) ≤ 2147483647 := zi_rd hImh (zc_16_7 hc0) (zb_69 _)
          refine zw_bd (zw_mono (zk_226 n hImh hc0 ⟨by omega, by omega⟩ ⟨by omega, by omega⟩ hRK54mh) (fun v18 m17 hqm17 => ?_))
          obtain ⟨hIm17, hfm17, hvm17⟩ := hqm17
          have hFm17 := zfr_tr hFmh hfm17 rfl
          obtain ⟨hRK54m17, hvm17⟩ := hvm17
          have w19 := zu_w32_rg ((mh (a0 + 5) x3) + v18)
          have b20 : 0 ≤ x3 ∧ x3 < 4 := by omega
          refine zw_if b20 ?_
          generalize hmm21 : zu_up m17 (a0 + 5) x3 (zu_w32 ((mh (a0 + 5) x3) + v18)) = m21
          have hIm21 := zi_up hmm21 hIm17 (zc_16_7 hc0) (zb_69 _) (by omega) (by omega)
          have hFm21 := zfr_up hmm21 hFm17 (zc_16_7 hc0) rfl
          have hRK54m21 := zR_K54_fr (zdis_fr (zfr_up hmm21 (zfr_rf [(69, 0)] _) (zc_16_7 hc0) rfl) rfl) hRK54m17
          have w22 := zu_w32_id (z := x2 + 1) (by omega) (by omega)
          have r23 : 0 ≤ (m21 a0 2) ∧ (m21 a0 2) ≤ 16 := zi_rd hIm21 hc0 zb_16_2
          have e24 : (m21 a0 2) = (mh a0 2) := (Eq.trans (zs_ne hmm21 (Or.inl (zc_ne hc0 (zc_16_7 hc0) (by decide)))) (zfr_ap hfm17 hc0 rfl))
          have hM : (16 - (zu_w32 (x2 + 1))) * 5 + 4 < (k : Int) := by omega
          exact zw_le (zu_forget (zu_lr_same (zu_lr_same (zu_lr_same (zu_lr_drop (zu_lr_drop zu_lr_nil)))))) (ih.2.1 (zu_w32 (x2 + 1)) m21 hIm21 hFm21 ⟨by omega, by omega⟩ ⟨by omega, by omega⟩ ⟨by omega, by omega⟩ hRK54m21 hM)
        · exact zw_some ⟨hImh, hFmh, hRK54mh, ⟨by omega, by omega⟩⟩
      · have b25 : 0 ≤ x4 ∧ x4 < 4 := by omega
        refine zw_if b25 ?_
        have r26 : (-2147483648) ≤ (mh (a0 + 5) x4) ∧ (mh (a0 + 5) x4) ≤ 2147483647 := zi_rd hImh (zc_16_7 hc0) (zb_69 _)
        have b27 : 0 ≤ x3 ∧ x3 < 4 := by omega
        refine zw_if b27 ?_
        have r28 : (-2147483648) ≤ (mh (a0 + 5) x3) ∧ (mh (a0 + 5) x3) ≤ 2147483647 := zi_rd hImh (zc_16_7 hc0) (zb_69 _)
        refine zw_ite (fun h29 => ?_) (fun h29 => ?_)
        · have w30 := zu_w32_id (z := x4 + 1) (by omega) (by omega)
          have hM : (4 - (zu_w32 (x4 + 1))) * 1 + (16 - x2) * 5 + 0 < (k : Int) := by omega
          exact ih.2.2 x2 x3 (zu_w32 (x4 + 1)) mh hImh hFmh ⟨by omega, by omega⟩ ⟨by omega, by omega⟩ ⟨by omega, by omega⟩ ⟨by omega, by omega⟩ ⟨by omega, by omega⟩ hRK54mh hM
        · have w31 := zu_w32_id (z := x4 + 1) (by omega) (by omega)
          have hM : (4 - (zu_w32 (x4 + 1))) * 1 + (16 - x2) * 5 + 0 < (k : Int) := by omega
          exact ih.2.2 x2 x4 (zu_w32 (x4 + 1)) mh hImh hFmh ⟨by omega, by omega⟩ ⟨by omega, by omega⟩ ⟨by omega, by omega⟩ ⟨by omega, by omega⟩ ⟨by omega, by omega⟩ hRK54mh hM
set_option maxHeartbeats 4000000 in
theorem zk_243 (n : Nat) {a0 a1 : Int} {m0 : zu_m} (hIm0 : zi_I m0) (hc0 : zcls a0 = 16) (ha1 : 0 ≤ a1 ∧ a1 ≤ 15)  (he0 : 1 ≤ m0 a0 2 ∧ m0 a0 2 ≤ 16)  (hRK54m0 : zR_K54 m0) : zw (zu_call (zt_T n) 243 [(27, a0), (0, a1)] m0) (fun v m => zi_I m ∧ zfr [(56, 0), (59, 0), (69, 0)] m0 m ∧ zR_K54 m ∧ ((-8) ≤ v ∧ v ≤ 3)) := by
  have hFm0 : zfr [(56, 0), (59, 0), (69, 0)] m0 m0 := zfr_rf _ _
  refine zw_eq (zr_243_0 n a0 a1 m0) ?_
  have hM : (4 - 0) * 1 + 85 < ((90 : Nat) : Int) := by omega
  exact (zl_243 n (m0 := m0) hc0 90).1 0 m0 hIm0 hFm0 ⟨by omega, by omega⟩ ⟨by omega, by omega⟩ ⟨by omega, by omega⟩ hRK54m0 hM
set_option maxHeartbeats 4000000 in
theorem zk_265 (n : Nat) {a0 : Int} {m0 : zu_m} (hIm0 : zi_I m0) (hc0 : zcls a0 = 3)   (he0 : 1 ≤ m0 45 5 ∧ m0 45 5 ≤ 3)   : zw (zu_call (zt_T n) 265 [(7, a0)] m0) (fun v m => zi_I m ∧ zfr [(3, 6), (3, 7), (3, 8), (3, 9), (3, 10), (3, 11), (9, 4), (9, 5), (9, 6), (9, 7), (32, 0)] m0 m ∧ (0 ≤ v ∧ v ≤ 1)) := by
  have hFm0 : zfr [(3, 6), (3, 7), (3, 8), (3, 9), (3, 10), (3, 11), (9, 4), (9, 5), (9, 6), (9, 7), (32, 0)] m0 m0 := zfr_rf _ _
  refine zw_eq (zr_265_0 n a0 m0) ?_
  have r1 : 0 ≤ (m0 a0 5) ∧ (m0 a0 5) ≤ 16 := zi_rd hIm0 hc0 zb_3_5
  refine zw_ite (fun h2 => ?_) (fun h2 => ?_)
  · refine zw_bd (zw_eq (zr_262_0 n a0 m0) ?_)
    refine zw_b (by omega) ?_
    generalize hmm3 : zu_up m0 a0 6 1 = m3
    have hIm3 := zi_up hmm3 hIm0 hc0 zb_3_6 (by omega) (by omega)
    have hFm3 := zfr_up hmm3 hFm0 hc0 rfl
    have r4 : 1 ≤ (m3 6 0) ∧ (m3 6 0) ≤ 8 := zi_rd hIm3 zq_6 zb_4_0
    have w5 := zu_w32_id (z := (m3 6 0) - 1) (by omega) (by omega)
    refine zw_bd (zw_eq (zr_260_0 n a0 0 (zu_w32 ((m3 6 0) - 1)) m3) ?_)
    refine zw_bd (zw_mono (zk_18 n hIm3 zq_45) (fun v7 m6 hqm6 => ?_))
    obtain ⟨hIm6, hfm6, hvm6⟩ := hqm6
    have hFm6 := zfr_tr hFm3 hfm6 rfl
    have r8 : 0 ≤ (m6 45 4) ∧ (m6 45 4) ≤ 5 := zi_rd hIm6 zq_45 zb_9_4
    refine zw_ite (fun h9 => ?_) (fun h9 => ?_)
    · have r10 : (-2147483648) ≤ (m6 45 5) ∧ (m6 45 5) ≤ 2147483647 := zi_rd hIm6 zq_45 zb_9_5
      generalize hmm11 : zu_up m6 a0 7 (m6 45 5) = m11
      have hIm11 := zi_up hmm11 hIm6 hc0 zb_3_7 (by omega) (by omega)
      have hFm11 := zfr_up hmm11 hFm6 hc0 rfl
      have r12 : (-2147483648) ≤ (m11 a0 7) ∧ (m11 a0 7) ≤ 2147483647 := zi_rd hIm11 hc0 zb_3_7
      have e13 : (m11 a0 7) = (m6 45 5) := (zs_eq hmm11)
      refine zw_ite (fun h14 => ?_) (fun h14 => ?_)
      · refine zw_bd (zw_eq (zr_257_0 n a0 2 m11) ?_)
        generalize hmm15 : zu_up m11 a0 9 2 = m15
        have hIm15 := zi_up hmm15 hIm11 hc0 zb_3_9 (by omega) (by omega)
        have hFm15 := zfr_up hmm15 hFm11 hc0 rfl
        have r16 : 0 ≤ (m15 45 6) ∧ (m15 45 6) ≤ 700 := zi_rd hIm15 zq_45 zb_9_6
        generalize hmm17 : zu_up m15 a0 10 (m15 45 6) = m17
        have hIm17 := zi_up hmm17 hIm15 hc0 zb_3_10 (by omega) (by omega)
        have hFm17 := zfr_up hmm17 hFm15 hc0 rfl
        refine zw_b (by omega) ?_
        refine zw_some ?_
        refine zw_ite (fun h18 => ?_) (fun h18 => ?_)
        · refine zw_b (by omega) ?_
          refine zw_some ?_
          refine zw_ite (fun h19 => ?_) (fun h19 => ?_)
          · exfalso; omega
          · refine zw_b (by omega) ?_
            refine zw_some ?_
            refine zw_ite (fun h20 => ?_) (fun h20 => ?_)
            · exfalso; omega
            · refine zw_b (by omega) ?_
              exact zw_some ⟨hIm17, hFm17, ⟨by omega, by omega⟩⟩
        · exfalso; omega
      · refine zw_ite (fun h21 => ?_) (fun h21 => ?_)
        · refine zw_b (by omega) ?_
          refine zw_some ?_
          refine zw_ite (fun h22 => ?_) (fun h22 => ?_)
          · have r23 : 1 ≤ (m11 6 1) ∧ (m11 6 1) ≤ 6 := zi_rd hIm11 zq_6 zb_4_1
            have w24 := zu_w32_id (z := (m11 6 1) - 1) (by omega) (by omega)
            refine zw_bd (zw_eq (zr_260_0 n a0 0 (zu_w32 ((m11 6 1) - 1)) m11) ?_)
            refine zw_bd (zw_mono (zk_18 n hIm11 zq_45) (fun v26 m25 hqm25 => ?_))
            obtain ⟨hIm25, hfm25, hvm25⟩ := hqm25
            have hFm25 := zfr_tr hFm11 hfm25 rfl
            have r27 : 0 ≤ (m25 45 4) ∧ (m25 45 4) ≤ 5 := zi_rd hIm25 zq_45 zb_9_4
            refine zw_ite (fun h28 => ?_) (fun h28 => ?_)
            · have r29 : (-2147483648) ≤ (m25 45 5) ∧ (m25 45 5) ≤ 2147483647 := zi_rd hIm25 zq_45 zb_9_5
              generalize hmm30 : zu_up m25 a0 7 (m25 45 5) = m30
              have hIm30 := zi_up hmm30 hIm25 hc0 zb_3_7 (by omega) (by omega)
              have hFm30 := zfr_up hmm30 hFm25 hc0 rfl
              have r31 : (-2147483648) ≤ (m30 a0 7) ∧ (m30 a0 7) ≤ 2147483647 := zi_rd hIm30 hc0 zb_3_7
              have e32 : (m30 a0 7) = (m25 45 5) := (zs_eq hmm30)
              refine zw_ite (fun h33 => ?_) (fun h33 => ?_)
              · refine zw_bd (zw_eq (zr_257_0 n a0 2 m30) ?_)
                generalize hmm34 : zu_up m30 a0 9 2 = m34
                have hIm34 := zi_up hmm34 hIm30 hc0 zb_3_9 (by omega) (by omega)
                have hFm34 := zfr_up hmm34 hFm30 hc0 rfl
                have r35 : 0 ≤ (m34 45 6) ∧ (m34 45 6) ≤ 700 := zi_rd hIm34 zq_45 zb_9_6
                generalize hmm36 : zu_up m34 a0 10 (m34 45 6) = m36
                have hIm36 := zi_up hmm36 hIm34 hc0 zb_3_10 (by omega) (by omega)
                have hFm36 := zfr_up hmm36 hFm34 hc0 rfl
                refine zw_b (by omega) ?_
                refine zw_some ?_
                refine zw_ite (fun h37 => ?_) (fun h37 => ?_)
                · refine zw_b (by omega) ?_
                  refine zw_some ?_
                  refine zw_ite (fun h38 => ?_) (fun h38 => ?_)
                  · exfalso; omega
                  · refine zw_b (by omega) ?_
                    refine zw_some ?_
                    refine zw_ite (fun h39 => ?_) (fun h39 => ?_)
                    · exfalso; omega
                    · refine zw_b (by omega) ?_
                      exact zw_some ⟨hIm36, hFm36, ⟨by omega, by omega⟩⟩
                · exfalso; omega
              · refine zw_ite (fun h40 => ?_) (fun h40 => ?_)
                · refine zw_b (by omega) ?_
                  refine zw_some ?_
                  refine zw_ite (fun h41 => ?_) (fun h41 => ?_)
                  · have r42 : 1 ≤ (m30 6 0) ∧ (m30 6 0) ≤ 8 := zi_rd hIm30 zq_6 zb_4_0
                    have e43 : (m30 6 0) = (m3 6 0) := (Eq.trans (zs_ne hmm30 (Or.inl (zc_ne zq_6 hc0 (by decide)))) (Eq.trans (zfr_ap hfm25 zq_6 rfl) (Eq.trans (zs_ne hmm11 (Or.inl (zc_ne zq_6 hc0 (by decide)))) (zfr_ap hfm6 zq_6 rfl))))
                    have p44 := zmul_bd (x := (m30 a0 7)) (y := (m30 6 0)) (a := 0) (b := 1) (A := 5) (B := 8) (by omega) (by omega) (by omega) (by omega) (by omega) (by omega)
                    have w45 := zu_w32_id (z := (m30 a0 7) * (m30 6 0)) (by omega) (by omega)
                    have w46 := zu_w32_id (z := (zu_w32 ((m30 a0 7) * (m30 6 0))) + (m11 a0 7)) (by omega) (by omega)
                    generalize hmm47 : zu_up m30 a0 8 (zu_w32 ((zu_w32 ((m30 a0 7) * (m30 6 0))) + (m11 a0 7))) = m47
                    have hIm47 := zi_up hmm47 hIm30 hc0 zb_3_8 (by omega) (by omega)
                    have hFm47 := zfr_up hmm47 hFm30 hc0 rfl
                    refine zw_b (by omega) ?_
                    refine zw_some ?_
                    refine zw_ite (fun h48 => ?_) (fun h48 => ?_)
                    · have r49 : 0 ≤ (m47 a0 8) ∧ (m47 a0 8) ≤ 47 := zi_rd hIm47 hc0 zb_3_8
                      have e50 : (m47 a0 8) = (zu_w32 ((zu_w32 ((m30 a0 7) * (m30 6 0))) + (m11 a0 7))) := (zs_eq hmm47)
                      have b51 : 0 ≤ (m47 a0 8) ∧ (m47 a0 8) < 48 := by omega
                      refine zw_if b51 ?_
                      have r52 : 0 ≤ (m47 (6 + 3) (m47 a0 8)) ∧ (m47 (6 + 3) (m47 a0 8)) ≤ 3 := zi_rd hIm47 (zc_4_8 zq_6) (zb_32 _)
                      refine zw_ite (fun h53 => ?_) (fun h53 => ?_)
                      · have b54 : 0 ≤ (m47 a0 8) ∧ (m47 a0 8) < 48 := by omega
                        refine zw_if b54 ?_
                        generalize hmm55 : zu_up m47 (6 + 3) (m47 a0 8) (m0 45 5) = m55
                        have hIm55 := zi_up hmm55 hIm47 (zc_4_8 zq_6) (zb_32 _) (by omega) (by omega)
                        have hFm55 := zfr_up hmm55 hFm47 (zc_4_8 zq_6) rfl
                        have r56 : 0 ≤ (m55 a0 5) ∧ (m55 a0 5) ≤ 16 := zi_rd hIm55 hc0 zb_3_5
                        have e57 : (m55 a0 5) = (m0 a0 5) := (Eq.trans (zs_ne hmm55 (Or.inl (zc_ne hc0 (zc_4_8 zq_6) (by decide)))) (Eq.trans (zs_ne hmm47 (Or.inr (by decide))) (Eq.trans (zs_ne hmm30 (Or.inr (by decide))) (Eq.trans (zfr_ap hfm25 hc0 rfl) (Eq.trans (zs_ne hmm11 (Or.inr (by decide))) (Eq.trans (zfr_ap hfm6 hc0 rfl) (zs_ne hmm3 (Or.inr (by decide)))))))))
                        have w58 := zu_w32_id (z := (m55 a0 5) + 1) (by omega) (by omega)
                        generalize hmm59 : zu_up m55 a0 5 (zu_w32 ((m55 a0 5) + 1)) = m59
                        have hIm59 := zi_up hmm59 hIm55 hc0 zb_3_5 (by omega) (by omega)
                        have hFm59 := zfr_up hmm59 hFm55 hc0 rfl
                        refine zw_b (by omega) ?_
                        exact zw_some ⟨hIm59, hFm59, ⟨by omega, by omega⟩⟩
                      · refine zw_bd (zw_eq (zr_257_0 n a0 3 m47) ?_)
                        generalize hmm60 : zu_up m47 a0 9 3 = m60
                        have hIm60 := zi_up hmm60 hIm47 hc0 zb_3_9 (by omega) (by omega)
                        have hFm60 := zfr_up hmm60 hFm47 hc0 rfl
                        have r61 : 0 ≤ (m60 45 6) ∧ (m60 45 6) ≤ 700 := zi_rd hIm60 zq_45 zb_9_6
                        generalize hmm62 : zu_up m60 a0 10 (m60 45 6) = m62
                        have hIm62 := zi_up hmm62 hIm60 hc0 zb_3_10 (by omega) (by omega)
                        have hFm62 := zfr_up hmm62 hFm60 hc0 rfl
                        refine zw_b (by omega) ?_
                        refine zw_some ?_
                        refine zw_b (by omega) ?_
                        exact zw_some ⟨hIm62, hFm62, ⟨by omega, by omega⟩⟩
                    · exfalso; omega
                  · exfalso; omega
                · refine zw_bd (zw_eq (zr_257_0 n a0 2 m30) ?_)
                  generalize hmm63 : zu_up m30 a0 9 2 = m63
                  have hIm63 := zi_up hmm63 hIm30 hc0 zb_3_9 (by omega) (by omega)
                  have hFm63 := zfr_up hmm63 hFm30 hc0 rfl
                  have r64 : 0 ≤ (m63 45 6) ∧ (m63 45 6) ≤ 700 := zi_rd hIm63 zq_45 zb_9_6
                  generalize hmm65 : zu_up m63 a0 10 (m63 45 6) = m65
                  have hIm65 := zi_up hmm65 hIm63 hc0 zb_3_10 (by omega) (by omega)
                  have hFm65 := zfr_up hmm65 hFm63 hc0 rfl
                  refine zw_b (by omega) ?_
                  refine zw_some ?_
                  refine zw_ite (fun h66 => ?_) (fun h66 => ?_)
                  · refine zw_b (by omega) ?_
                    refine zw_some ?_
                    refine zw_ite (fun h67 => ?_) (fun h67 => ?_)
                    · exfalso; omega
                    · refine zw_b (by omega) ?_
                      refine zw_some ?_
                      refine zw_ite (fun h68 => ?_) (fun h68 => ?_)
                      · exfalso; omega
                      · refine zw_b (by omega) ?_
                        exact zw_some ⟨hIm65, hFm65, ⟨by omega, by omega⟩⟩
                  · exfalso; omega
            · refine zw_bd (zw_eq (zr_257_0 n a0 1 m25) ?_)
              generalize hmm69 : zu_up m25 a0 9 1 = m69
              have hIm69 := zi_up hmm69 hIm25 hc0 zb_3_9 (by omega) (by omega)
              have hFm69 := zfr_up hmm69 hFm25 hc0 rfl
              have r70 : 0 ≤ (m69 45 6) ∧ (m69 45 6) ≤ 700 := zi_rd hIm69 zq_45 zb_9_6
              generalize hmm71 : zu_up m69 a0 10 (m69 45 6) = m71
              have hIm71 := zi_up hmm71 hIm69 hc0 zb_3_10 (by omega) (by omega)
              have hFm71 := zfr_up hmm71 hFm69 hc0 rfl
              refine zw_b (by omega) ?_
              refine zw_some ?_
              refine zw_b (by omega) ?_
              refine zw_some ?_
              refine zw_ite (fun h72 => ?_) (fun h72 => ?_)
              · exfalso; omega
              · refine zw_b (by omega) ?_
                refine zw_some ?_
                refine zw_ite (fun h73 => ?_) (fun h73 => ?_)
                · exfalso; omega
                · refine zw_b (by omega) ?_
                  exact zw_some ⟨hIm71, hFm71, ⟨by omega, by omega⟩⟩
          · exfalso; omega
        · refine zw_bd (zw_eq (zr_257_0 n a0 2 m11) ?_)
          generalize hmm74 : zu_up m11 a0 9 2 = m74
          have hIm74 := zi_up hmm74 hIm11 hc0 zb_3_9 (by omega) (by omega)
          have hFm74 := zfr_up hmm74 hFm11 hc0 rfl
          have r75 : 0 ≤ (m74 45 6) ∧ (m74 45 6) ≤ 700 := zi_rd hIm74 zq_45 zb_9_6
          generalize hmm76 : zu_up m74 a0 10 (m74 45 6) = m76
          have hIm76 := zi_up hmm76 hIm74 hc0 zb_3_10 (by omega) (by omega)
          have hFm76 := zfr_up hmm76 hFm74 hc0 rfl
          refine zw_b (by omega) ?_
          refine zw_some ?_
          refine zw_ite (fun h77 => ?_) (fun h77 => ?_)
          · refine zw_b (by omega) ?_
            refine zw_some ?_
            refine zw_ite (fun h78 => ?_) (fun h78 => ?_)
            · exfalso; omega
            · refine zw_b (by omega) ?_
              refine zw_some ?_
              refine zw_ite (fun h79 => ?_) (fun h79 => ?_)
              · exfalso; omega
              · refine zw_b (by omega) ?_
                exact zw_some ⟨hIm76, hFm76, ⟨by omega, by omega⟩⟩
          · exfalso; omega
    · refine zw_bd (zw_eq (zr_257_0 n a0 1 m6) ?_)
      generalize hmm80 : zu_up m6 a0 9 1 = m80
      have hIm80 := zi_up hmm80 hIm6 hc0 zb_3_9 (by omega) (by omega)
      have hFm80 := zfr_up hmm80 hFm6 hc0 rfl
      have r81 : 0 ≤ (m80 45 6) ∧ (m80 45 6) ≤ 700 := zi_rd hIm80 zq_45 zb_9_6
      generalize hmm82 : zu_up m80 a0 10 (m80 45 6) = m82
      have hIm82 := zi_up hmm82 hIm80 hc0 zb_3_10 (by omega) (by omega)
      have hFm82 := zfr_up hmm82 hFm80 hc0 rfl
      refine zw_b (by omega) ?_
      refine zw_some ?_
      refine zw_b (by omega) ?_
      refine zw_some ?_
      refine zw_ite (fun h83 => ?_) (fun h83 => ?_)
      · exfalso; omega
      · refine zw_b (by omega) ?_
        refine zw_some ?_
        refine zw_ite (fun h84 => ?_) (fun h84 => ?_)
        · exfalso; omega
        · refine zw_b (by omega) ?_
          exact zw_some ⟨hIm82, hFm82, ⟨by omega, by omega⟩⟩
  · refine zw_bd (zw_eq (zr_257_0 n a0 2 m0) ?_)
    generalize hmm85 : zu_up m0 a0 9 2 = m85
    have hIm85 := zi_up hmm85 hIm0 hc0 zb_3_9 (by omega) (by omega)
    have hFm85 := zfr_up hmm85 hFm0 hc0 rfl
    have r86 : 0 ≤ (m85 45 6) ∧ (m85 45 6) ≤ 700 := zi_rd hIm85 zq_45 zb_9_6
    generalize hmm87 : zu_up m85 a0 10 (m85 45 6) = m87
    have hIm87 := zi_up hmm87 hIm85 hc0 zb_3_10 (by omega) (by omega)
    have hFm87 := zfr_up hmm87 hFm85 hc0 rfl
    refine zw_b (by omega) ?_
    refine zw_some ?_
    refine zw_b (by omega) ?_
    exact zw_some ⟨hIm87, hFm87, ⟨by omega, by omega⟩⟩
set_option maxHeartbeats 4000000 in
theorem zk_266 (n : Nat) {a0 : Int} {m0 : zu_m} (hIm0 : zi_I m0) (hc0 : zcls a0 = 3)   (he0 : 1 ≤ m0 45 4 ∧ m0 45 4 ≤ 1) (he1 : 4 ≤ m0 45 5 ∧ m0 45 5 ≤ 4)   : zw (zu_call (zt_T n) 266 [(7, a0)] m0) (fun v m => zi_I m ∧ zfr [(3, 7), (3, 8), (3, 9), (3, 10), (3, 11), (6, 3), (7, 1), (7, 2), (7, 3), (7, 4), (9, 4), (9, 5), (9, 6), (9, 7)] m0 m ∧ (0 ≤ v ∧ v ≤ 1)) := by
  have hFm0 : zfr [(3, 7), (3, 8), (3, 9), (3, 10), (3, 11), (6, 3), (7, 1), (7, 2), (7, 3), (7, 4), (9, 4), (9, 5), (9, 6), (9, 7)] m0 m0 := zfr_rf _ _
  refine zw_eq (zr_266_0 n a0 m0) ?_
  have r1 : 0 ≤ (m0 19 2) ∧ (m0 19 2) ≤ 16 := zi_rd hIm0 zq_19 zb_6_2
  refine zw_ite (fun h2 => ?_) (fun h2 => ?_)
  · refine zw_bd (zw_eq (zr_261_0 n a0 12 4 m0) ?_)
    refine zw_bd (zw_mono (zk_18 n hIm0 zq_45) (fun v4 m3 hqm3 => ?_))
    obtain ⟨hIm3, hfm3, hvm3⟩ := hqm3
    have hFm3 := zfr_tr hFm0 hfm3 rfl
    refine zw_bd (zw_eq (zr_279_0 n 45 12 4 m3) ?_)
    have r5 : 0 ≤ (m3 45 4) ∧ (m3 45 4) ≤ 5 := zi_rd hIm3 zq_45 zb_9_4
    refine zw_ite (fun h6 => ?_) (fun h6 => ?_)
    · refine zw_b (by omega) ?_
      refine zw_some ?_
      refine zw_ite (fun h7 => ?_) (fun h7 => ?_)
      · exfalso; omega
      · refine zw_bd (zw_eq (zr_257_0 n a0 1 m3) ?_)
        generalize hmm8 : zu_up m3 a0 9 1 = m8
        have hIm8 := zi_up hmm8 hIm3 hc0 zb_3_9 (by omega) (by omega)
        have hFm8 := zfr_up hmm8 hFm3 hc0 rfl
        have r9 : 0 ≤ (m8 45 6) ∧ (m8 45 6) ≤ 700 := zi_rd hIm8 zq_45 zb_9_6
        generalize hmm10 : zu_up m8 a0 10 (m8 45 6) = m10
        have hIm10 := zi_up hmm10 hIm8 hc0 zb_3_10 (by omega) (by omega)
        have hFm10 := zfr_up hmm10 hFm8 hc0 rfl
        refine zw_b (by omega) ?_
        refine zw_some ?_
        refine zw_b (by omega) ?_
        refine zw_some ?_
        refine zw_ite (fun h11 => ?_) (fun h11 => ?_)
        · exfalso; omega
        · refine zw_b (by omega) ?_
          exact zw_some ⟨hIm10, hFm10, ⟨by omega, by omega⟩⟩
    · have r12 : (-2147483648) ≤ (m3 45 5) ∧ (m3 45 5) ≤ 2147483647 := zi_rd hIm3 zq_45 zb_9_5
      refine zw_ite (fun h13 => ?_) (fun h13 => ?_)
      · refine zw_b (by omega) ?_
        refine zw_some ?_
        refine zw_ite (fun h14 => ?_) (fun h14 => ?_)
        · exfalso; omega
        · refine zw_bd (zw_eq (zr_257_0 n a0 1 m3) ?_)
          generalize hmm15 : zu_up m3 a0 9 1 = m15
          have hIm15 := zi_up hmm15 hIm3 hc0 zb_3_9 (by omega) (by omega)
          have hFm15 := zfr_up hmm15 hFm3 hc0 rfl
          have r16 : 0 ≤ (m15 45 6) ∧ (m15 45 6) ≤ 700 := zi_rd hIm15 zq_45 zb_9_6
          generalize hmm17 : zu_up m15 a0 10 (m15 45 6) = m17
          have hIm17 := zi_up hmm17 hIm15 hc0 zb_3_10 (by omega) (by omega)
          have hFm17 := zfr_up hmm17 hFm15 hc0 rfl
          refine zw_b (by omega) ?_
          refine zw_some ?_
          refine zw_b (by omega) ?_
          refine zw_some ?_
          refine zw_ite (fun h18 => ?_) (fun h18 => ?_)
          · exfalso; omega
          · refine zw_b (by omega) ?_
            exact zw_some ⟨hIm17, hFm17, ⟨by omega, by omega⟩⟩
      · have w19 := zu_w32_id (z := 12 + 4) (by omega) (by omega)
        refine zw_ite (fun h20 => ?_) (fun h20 => ?_)
        · refine zw_b (by omega) ?_
          refine zw_some ?_
          refine zw_ite (fun h21 => ?_) (fun h21 => ?_)
          · exfalso; omega
          · refine zw_bd (zw_eq (zr_257_0 n a0 1 m3) ?_)
            generalize hmm22 : zu_up m3 a0 9 1 = m22
            have hIm22 := zi_up hmm22 hIm3 hc0 zb_3_9 (by omega) (by omega)
            have hFm22 := zfr_up hmm22 hFm3 hc0 rfl
            have r23 : 0 ≤ (m22 45 6) ∧ (m22 45 6) ≤ 700 := zi_rd hIm22 zq_45 zb_9_6
            generalize hmm24 : zu_up m22 a0 10 (m22 45 6) = m24
            have hIm24 := zi_up hmm24 hIm22 hc0 zb_3_10 (by omega) (by omega)
            have hFm24 := zfr_up hmm24 hFm22 hc0 rfl
            refine zw_b (by omega) ?_
            refine zw_some ?_
            refine zw_b (by omega) ?_
            refine zw_some ?_
            refine zw_ite (fun h25 => ?_) (fun h25 => ?_)
            · exfalso; omega
            · refine zw_b (by omega) ?_
              exact zw_some ⟨hIm24, hFm24, ⟨by omega, by omega⟩⟩
        · refine zw_b (by omega) ?_
          refine zw_some ?_
          refine zw_ite (fun h26 => ?_) (fun h26 => ?_)
          · have w27 := zu_w32_id (z := (m3 45 5) - 12) (by omega) (by omega)
            generalize hmm28 : zu_up m3 a0 7 (zu_w32 ((m3 45 5) - 12)) = m28
            have hIm28 := zi_up hmm28 hIm3 hc0 zb_3_7 (by omega) (by omega)
            have hFm28 := zfr_up hmm28 hFm3 hc0 rfl
            refine zw_b (by omega) ?_
            refine zw_some ?_
            refine zw_ite (fun h29 => ?_) (fun h29 => ?_)
            · have r30 : (-2147483648) ≤ (m28 a0 7) ∧ (m28 a0 7) ≤ 2147483647 := zi_rd hIm28 hc0 zb_3_7
              have e31 : (m28 a0 7) = (zu_w32 ((m3 45 5) - 12)) := (zs_eq hmm28)
              refine zw_bd (zw_eq (zr_262_0 n a0 m28) ?_)
              refine zw_b (by omega) ?_
              generalize hmm32 : zu_up m28 a0 6 1 = m32
              have hIm32 := zi_up hmm32 hIm28 hc0 zb_3_6 (by omega) (by omega)
              have hFm32 := zfr_up hmm32 hFm28 hc0 rfl
              have r33 : 1 ≤ (m32 6 0) ∧ (m32 6 0) ≤ 8 := zi_rd hIm32 zq_6 zb_4_0
              have w34 := zu_w32_id (z := (m32 6 0) - 1) (by omega) (by omega)
              refine zw_bd (zw_eq (zr_260_0 n a0 0 (zu_w32 ((m32 6 0) - 1)) m32) ?_)
              refine zw_bd (zw_mono (zk_18 n hIm32 zq_45) (fun v36 m35 hqm35 => ?_))
              obtain ⟨hIm35, hfm35, hvm35⟩ := hqm35
              have hFm35 := zfr_tr hFm32 hfm35 rfl
              have r37 : 0 ≤ (m35 45 4) ∧ (m35 45 4) ≤ 5 := zi_rd hIm35 zq_45 zb_9_4
              refine zw_ite (fun h38 => ?_) (fun h38 => ?_)
              · have r39 : (-2147483648) ≤ (m35 45 5) ∧ (m35 45 5) ≤ 2147483647 := zi_rd hIm35 zq_45 zb_9_5
                generalize hmm40 : zu_up m35 a0 7 (m35 45 5) = m40
                have hIm40 := zi_up hmm40 hIm35 hc0 zb_3_7 (by omega) (by omega)
                have hFm40 := zfr_up hmm40 hFm35 hc0 rfl
                have r41 : (-2147483648) ≤ (m40 a0 7) ∧ (m40 a0 7) ≤ 2147483647 := zi_rd hIm40 hc0 zb_3_7
                have e42 : (m40 a0 7) = (m35 45 5) := (zs_eq hmm40)
                refine zw_ite (fun h43 => ?_) (fun h43 => ?_)
                · refine zw_bd (zw_eq (zr_257_0 n a0 2 m40) ?_)
                  generalize hmm44 : zu_up m40 a0 9 2 = m44
                  have hIm44 := zi_up hmm44 hIm40 hc0 zb_3_9 (by omega) (by omega)
                  have hFm44 := zfr_up hmm44 hFm40 hc0 rfl
                  have r45 : 0 ≤ (m44 45 6) ∧ (m44 45 6) ≤ 700 := zi_rd hIm44 zq_45 zb_9_6
                  generalize hmm46 : zu_up m44 a0 10 (m44 45 6) = m46
                  have hIm46 := zi_up hmm46 hIm44 hc0 zb_3_10 (by omega) (by omega)
                  have hFm46 := zfr_up hmm46 hFm44 hc0 rfl
                  refine zw_b (by omega) ?_
                  refine zw_some ?_
                  refine zw_ite (fun h47 => ?_) (fun h47 => ?_)
                  · refine zw_b (by omega) ?_
                    refine zw_some ?_
                    refine zw_ite (fun h48 => ?_) (fun h48 => ?_)
                    · exfalso; omega
                    · refine zw_b (by omega) ?_
                      refine zw_some ?_
                      refine zw_ite (fun h49 => ?_) (fun h49 => ?_)
                      · refine zw_b (by omega) ?_
                        exact zw_some ⟨hIm46, hFm46, ⟨by omega, by omega⟩⟩
                      · exfalso; omega
                  · exfalso; omega
                · refine zw_ite (fun h50 => ?_) (fun h50 => ?_)
                  · refine zw_b (by omega) ?_
                    refine zw_some ?_
                    refine zw_ite (fun h51 => ?_) (fun h51 => ?_)
                    · have r52 : 1 ≤ (m40 6 1) ∧ (m40 6 1) ≤ 6 := zi_rd hIm40 zq_6 zb_4_1
                      have w53 := zu_w32_id (z := (m40 6 1) - 1) (by omega) (by omega)
                      refine zw_bd (zw_eq (zr_260_0 n a0 0 (zu_w32 ((m40 6 1) - 1)) m40) ?_)
                      refine zw_bd (zw_mono (zk_18 n hIm40 zq_45) (fun v55 m54 hqm54 => ?_))
                      obtain ⟨hIm54, hfm54, hvm54⟩ := hqm54
                      have hFm54 := zfr_tr hFm40 hfm54 rfl
                      have r56 : 0 ≤ (m54 45 4) ∧ (m54 45 4) ≤ 5 := zi_rd hIm54 zq_45 zb_9_4
                      refine zw_ite (fun h57 => ?_) (fun h57 => ?_)
                      · have r58 : (-2147483648) ≤ (m54 45 5) ∧ (m54 45 5) ≤ 2147483647 := zi_rd hIm54 zq_45 zb_9_5
                        generalize hmm59 : zu_up m54 a0 7 (m54 45 5) = m59
                        have hIm59 := zi_up hmm59 hIm54 hc0 zb_3_7 (by omega) (by omega)
                        have hFm59 := zfr_up hmm59 hFm54 hc0 rfl
                        have r60 : (-2147483648) ≤ (m59 a0 7) ∧ (m59 a0 7) ≤ 2147483647 := zi_rd hIm59 hc0 zb_3_7
                        have e61 : (m59 a0 7) = (m54 45 5) := (zs_eq hmm59)
                        refine zw_ite (fun h62 => ?_) (fun h62 => ?_)
                        · refine zw_bd (zw_eq (zr_257_0 n a0 2 m59) ?_)
                          generalize hmm63 : zu_up m59 a0 9 2 = m63
                          have hIm63 := zi_up hmm63 hIm59 hc0 zb_3_9 (by omega) (by omega)
                          have hFm63 := zfr_up hmm63 hFm59 hc0 rfl
                          have r64 : 0 ≤ (m63 45 6) ∧ (m63 45 6) ≤ 700 := zi_rd hIm63 zq_45 zb_9_6
                          generalize hmm65 : zu_up m63 a0 10 (m63 45 6) = m65
                          have hIm65 := zi_up hmm65 hIm63 hc0 zb_3_10 (by omega) (by omega)
                          have hFm65 := zfr_up hmm65 hFm63 hc0 rfl
                          refine zw_b (by omega) ?_
                          refine zw_some ?_
                          refine zw_ite (fun h66 => ?_) (fun h66 => ?_)
                          · refine zw_b (by omega) ?_
                            refine zw_some ?_
                            refine zw_ite (fun h67 => ?_) (fun h67 => ?_)
                            · exfalso; omega
                            · refine zw_b (by omega) ?_
                              refine zw_some ?_
                              refine zw_ite (fun h68 => ?_) (fun h68 => ?_)
                              · refine zw_b (by omega) ?_
                                exact zw_some ⟨hIm65, hFm65, ⟨by omega, by omega⟩⟩
                              · exfalso; omega
                          · exfalso; omega
                        · refine zw_ite (fun h69 => ?_) (fun h69 => ?_)
                          · refine zw_b (by omega) ?_
                            refine zw_some ?_
                            refine zw_ite (fun h70 => ?_) (fun h70 => ?_)
                            · have r71 : 1 ≤ (m59 6 0) ∧ (m59 6 0) ≤ 8 := zi_rd hIm59 zq_6 zb_4_0
                              have e72 : (m59 6 0) = (m32 6 0) := (Eq.trans (zs_ne hmm59 (Or.inl (zc_ne zq_6 hc0 (by decide)))) (Eq.trans (zfr_ap hfm54 zq_6 rfl) (Eq.trans (zs_ne hmm40 (Or.inl (zc_ne zq_6 hc0 (by decide)))) (zfr_ap hfm35 zq_6 rfl))))
                              have p73 := zmul_bd (x := (m59 a0 7)) (y := (m59 6 0)) (a := 0) (b := 1) (A := 5) (B := 8) (by omega) (by omega) (by omega) (by omega) (by omega) (by omega)
                              have w74 := zu_w32_id (z := (m59 a0 7) * (m59 6 0)) (by omega) (by omega)
                              have w75 := zu_w32_id (z := (zu_w32 ((m59 a0 7) * (m59 6 0))) + (m40 a0 7)) (by omega) (by omega)
                              generalize hmm76 : zu_up m59 a0 8 (zu_w32 ((zu_w32 ((m59 a0 7) * (m59 6 0))) + (m40 a0 7))) = m76
                              have hIm76 := zi_up hmm76 hIm59 hc0 zb_3_8 (by omega) (by omega)
                              have hFm76 := zfr_up hmm76 hFm59 hc0 rfl
                              refine zw_b (by omega) ?_
                              refine zw_some ?_
                              refine zw_ite (fun h77 => ?_) (fun h77 => ?_)
                              · exfalso; omega
                              · refine zw_bd (zw_eq (zr_260_0 n a0 0 9 m76) ?_)
                                refine zw_bd (zw_mono (zk_18 n hIm76 zq_45) (fun v79 m78 hqm78 => ?_))
                                obtain ⟨hIm78, hfm78, hvm78⟩ := hqm78
                                have hFm78 := zfr_tr hFm76 hfm78 rfl
                                have r80 : 0 ≤ (m78 45 4) ∧ (m78 45 4) ≤ 5 := zi_rd hIm78 zq_45 zb_9_4
                                refine zw_ite (fun h81 => ?_) (fun h81 => ?_)
                                · have r82 : (-2147483648) ≤ (m78 45 5) ∧ (m78 45 5) ≤ 2147483647 := zi_rd hIm78 zq_45 zb_9_5
                                  generalize hmm83 : zu_up m78 a0 7 (m78 45 5) = m83
                                  have hIm83 := zi_up hmm83 hIm78 hc0 zb_3_7 (by omega) (by omega)
                                  have hFm83 := zfr_up hmm83 hFm78 hc0 rfl
                                  have r84 : (-2147483648) ≤ (m83 a0 7) ∧ (m83 a0 7) ≤ 2147483647 := zi_rd hIm83 hc0 zb_3_7
                                  have e85 : (m83 a0 7) = (m78 45 5) := (zs_eq hmm83)
                                  refine zw_ite (fun h86 => ?_) (fun h86 => ?_)
                                  · refine zw_bd (zw_eq (zr_257_0 n a0 2 m83) ?_)
                                    generalize hmm87 : zu_up m83 a0 9 2 = m87
                                    have hIm87 := zi_up hmm87 hIm83 hc0 zb_3_9 (by omega) (by omega)
                                    have hFm87 := zfr_up hmm87 hFm83 hc0 rfl
                                    have r88 : 0 ≤ (m87 45 6) ∧ (m87 45 6) ≤ 700 := zi_rd hIm87 zq_45 zb_9_6
                                    generalize hmm89 : zu_up m87 a0 10 (m87 45 6) = m89
                                    have hIm89 := zi_up hmm89 hIm87 hc0 zb_3_10 (by omega) (by omega)
                                    have hFm89 := zfr_up hmm89 hFm87 hc0 rfl
                                    refine zw_b (by omega) ?_
                                    refine zw_some ?_
                                    refine zw_ite (fun h90 => ?_) (fun h90 => ?_)
                                    · refine zw_b (by omega) ?_
                                      refine zw_some ?_
                                      refine zw_ite (fun h91 => ?_) (fun h91 => ?_)
                                      · exfalso; omega
                                      · refine zw_b (by omega) ?_
                                        exact zw_some ⟨hIm89, hFm89, ⟨by omega, by omega⟩⟩
                                    · exfalso; omega
                                  · refine zw_ite (fun h92 => ?_) (fun h92 => ?_)
                                    · refine zw_b (by omega) ?_
                                      refine zw_some ?_
                                      refine zw_ite (fun h93 => ?_) (fun h93 => ?_)
                                      · have r94 : 0 ≤ (m83 a0 8) ∧ (m83 a0 8) ≤ 47 := zi_rd hIm83 hc0 zb_3_8
                                        have e95 : (m83 a0 8) = (zu_w32 ((zu_w32 ((m59 a0 7) * (m59 6 0))) + (m40 a0 7))) := (Eq.trans (zs_ne hmm83 (Or.inr (by decide))) (Eq.trans (zfr_ap hfm78 hc0 rfl) (zs_eq hmm76)))
                                        refine zw_bd (zw_eq (zr_213b_0 n 19 (m83 a0 8) (m28 a0 7) (m83 a0 7) m83) ?_)
                                        have r96 : 0 ≤ (m83 19 2) ∧ (m83 19 2) ≤ 16 := zi_rd hIm83 zq_19 zb_6_2
                                        have e97 : (m83 19 2) = (m0 19 2) := (Eq.trans (zs_ne hmm83 (Or.inl (zc_ne zq_19 hc0 (by decide)))) (Eq.trans (zfr_ap hfm78 zq_19 rfl) (Eq.trans (zs_ne hmm76 (Or.inl (zc_ne zq_19 hc0 (by decide)))) (Eq.trans (zs_ne hmm59 (Or.inl (zc_ne zq_19 hc0 (by decide)))) (Eq.trans (zfr_ap hfm54 zq_19 rfl) (Eq.trans (zs_ne hmm40 (Or.inl (zc_ne zq_19 hc0 (by decide)))) (Eq.trans (zfr_ap hfm35 zq_19 rfl) (Eq.trans (zs_ne hmm32 (Or.inl (zc_ne zq_19 hc0 (by decide)))) (Eq.trans (zs_ne hmm28 (Or.inl (zc_ne zq_19 hc0 (by decide)))) (zfr_ap hfm3 zq_19 rfl))))))))))
                                        refine zw_ite (fun h98 => ?_) (fun h98 => ?_)
                                        · exfalso; omega
                                        · have b99 : 0 ≤ (m83 19 2) ∧ (m83 19 2) < 16 := by omega
                                          refine zw_if b99 ?_
                                          generalize hmm100 : zu_up m83 (20 + 5 + (m83 19 2)) 0 (m83 a0 8) = m100
                                          have hIm100 := zi_up hmm100 hIm83 (zc_41_e zq_20 b99) zb_7_0 (by omega) (by omega)
                                          have hFm100 := zfr_up hmm100 hFm83 (zc_41_e zq_20 b99) rfl
                                          generalize hmm101 : zu_up m100 (20 + 5 + (m83 19 2)) 1 (m28 a0 7) = m101
                                          have hIm101 := zi_up hmm101 hIm100 (zc_41_e zq_20 b99) zb_7_1 (by omega) (by omega)
                                          have hFm101 := zfr_up hmm101 hFm100 (zc_41_e zq_20 b99) rfl
                                          generalize hmm102 : zu_up m101 (20 + 5 + (m83 19 2)) 2 (m83 a0 7) = m102
                                          have hIm102 := zi_up hmm102 hIm101 (zc_41_e zq_20 b99) zb_7_2 (by omega) (by omega)
                                          have hFm102 := zfr_up hmm102 hFm101 (zc_41_e zq_20 b99) rfl
                                          generalize hmm103 : zu_up m102 (20 + 5 + (m83 19 2)) 3 (-1) = m103
                                          have hIm103 := zi_up hmm103 hIm102 (zc_41_e zq_20 b99) zb_7_3 (by omega) (by omega)
                                          have hFm103 := zfr_up hmm103 hFm102 (zc_41_e zq_20 b99) rfl
                                          have r104 : 0 ≤ (m103 19 2) ∧ (m103 19 2) ≤ 16 := zi_rd hIm103 zq_19 zb_6_2
                                          have e105 : (m103 19 2) = (m83 19 2) := (Eq.trans (zs_ne hmm103 (Or.inl (zc_ne zq_19 (zc_41_e zq_20 b99) (by decide)))) (Eq.trans (zs_ne hmm102 (Or.inl (zc_ne zq_19 (zc_41_e zq_20 b99) (by decide)))) (Eq.trans (zs_ne hmm101 (Or.inl (zc_ne zq_19 (zc_41_e zq_20 b99) (by decide)))) (zs_ne hmm100 (Or.inl (zc_ne zq_19 (zc_41_e zq_20 b99) (by decide)))))))
                                          have w106 := zu_w32_id (z := (m103 19 2) + 1) (by omega) (by omega)
                                          generalize hmm107 : zu_up m103 19 2 (zu_w32 ((m103 19 2) + 1)) = m107
                                          have hIm107 := zi_up hmm107 hIm103 zq_19 zb_6_2 (by omega) (by omega)
                                          have hFm107 := zfr_up hmm107 hFm103 zq_19 rfl
                                          refine zw_some ?_
                                          refine zw_b (by omega) ?_
                                          exact zw_some ⟨hIm107, hFm107, ⟨by omega, by omega⟩⟩
                                      · exfalso; omega
                                    · refine zw_bd (zw_eq (zr_257_0 n a0 2 m83) ?_)
                                      generalize hmm108 : zu_up m83 a0 9 2 = m108
                                      have hIm108 := zi_up hmm108 hIm83 hc0 zb_3_9 (by omega) (by omega)
                                      have hFm108 := zfr_up hmm108 hFm83 hc0 rfl
                                      have r109 : 0 ≤ (m108 45 6) ∧ (m108 45 6) ≤ 700 := zi_rd hIm108 zq_45 zb_9_6
                                      generalize hmm110 : zu_up m108 a0 10 (m108 45 6) = m110
                                      have hIm110 := zi_up hmm110 hIm108 hc0 zb_3_10 (by omega) (by omega)
                                      have hFm110 := zfr_up hmm110 hFm108 hc0 rfl
                                      refine zw_b (by omega) ?_
                                      refine zw_some ?_
                                      refine zw_ite (fun h111 => ?_) (fun h111 => ?_)
                                      · refine zw_b (by omega) ?_
                                        refine zw_some ?_
                                        refine zw_ite (fun h112 => ?_) (fun h112 => ?_)
                                        · exfalso; omega
                                        · refine zw_b (by omega) ?_
                                          exact zw_some ⟨hIm110, hFm110, ⟨by omega, by omega⟩⟩
                                      · exfalso; omega
                                · refine zw_bd (zw_eq (zr_257_0 n a0 1 m78) ?_)
                                  generalize hmm113 : zu_up m78 a0 9 1 = m113
                                  have hIm113 := zi_up hmm113 hIm78 hc0 zb_3_9 (by omega) (by omega)
                                  have hFm113 := zfr_up hmm113 hFm78 hc0 rfl
                                  have r114 : 0 ≤ (m113 45 6) ∧ (m113 45 6) ≤ 700 := zi_rd hIm113 zq_45 zb_9_6
                                  generalize hmm115 : zu_up m113 a0 10 (m113 45 6) = m115
                                  have hIm115 := zi_up hmm115 hIm113 hc0 zb_3_10 (by omega) (by omega)
                                  have hFm115 := zfr_up hmm115 hFm113 hc0 rfl
                                  refine zw_b (by omega) ?_
                                  refine zw_some ?_
                                  refine zw_b (by omega) ?_
                                  refine zw_some ?_
                                  refine zw_ite (fun h116 => ?_) (fun h116 => ?_)
                                  · exfalso; omega
                                  · refine zw_b (by omega) ?_
                                    exact zw_some ⟨hIm115, hFm115, ⟨by omega, by omega⟩⟩
                            · exfalso; omega
                          · refine zw_bd (zw_eq (zr_257_0 n a0 2 m59) ?_)
                            generalize hmm117 : zu_up m59 a0 9 2 = m117
                            have hIm117 := zi_up hmm117 hIm59 hc0 zb_3_9 (by omega) (by omega)
                            have hFm117 := zfr_up hmm117 hFm59 hc0 rfl
                            have r118 : 0 ≤ (m117 45 6) ∧ (m117 45 6) ≤ 700 := zi_rd hIm117 zq_45 zb_9_6
                            generalize hmm119 : zu_up m117 a0 10 (m117 45 6) = m119
                            have hIm119 := zi_up hmm119 hIm117 hc0 zb_3_10 (by omega) (by omega)
                            have hFm119 := zfr_up hmm119 hFm117 hc0 rfl
                            refine zw_b (by omega) ?_
                            refine zw_some ?_
                            refine zw_ite (fun h120 => ?_) (fun h120 => ?_)
                            · refine zw_b (by omega) ?_
                              refine zw_some ?_
                              refine zw_ite (fun h121 => ?_) (fun h121 => ?_)
                              · exfalso; omega
                              · refine zw_b (by omega) ?_
                                refine zw_some ?_
                                refine zw_ite (fun h122 => ?_) (fun h122 => ?_)
                                · refine zw_b (by omega) ?_
                                  exact zw_some ⟨hIm119, hFm119, ⟨by omega, by omega⟩⟩
                                · exfalso; omega
                            · exfalso; omega
                      · refine zw_bd (zw_eq (zr_257_0 n a0 1 m54) ?_)
                        generalize hmm123 : zu_up m54 a0 9 1 = m123
                        have hIm123 := zi_up hmm123 hIm54 hc0 zb_3_9 (by omega) (by omega)
                        have hFm123 := zfr_up hmm123 hFm54 hc0 rfl
                        have r124 : 0 ≤ (m123 45 6) ∧ (m123 45 6) ≤ 700 := zi_rd hIm123 zq_45 zb_9_6
                        generalize hmm125 : zu_up m123 a0 10 (m123 45 6) = m125
                        have hIm125 := zi_up hmm125 hIm123 hc0 zb_3_10 (by omega) (by omega)
                        have hFm125 := zfr_up hmm125 hFm123 hc0 rfl
                        refine zw_b (by omega) ?_
                        refine zw_some ?_
                        refine zw_b (by omega) ?_
                        refine zw_some ?_
                        refine zw_ite (fun h126 => ?_) (fun h126 => ?_)
                        · exfalso; omega
                        · refine zw_b (by omega) ?_
                          refine zw_some ?_
                          refine zw_ite (fun h127 => ?_) (fun h127 => ?_)
                          · refine zw_b (by omega) ?_
                            exact zw_some ⟨hIm125, hFm125, ⟨by omega, by omega⟩⟩
                          · exfalso; omega
                    · exfalso; omega
                  · refine zw_bd (zw_eq (zr_257_0 n a0 2 m40) ?_)
                    generalize hmm128 : zu_up m40 a0 9 2 = m128
                    have hIm128 := zi_up hmm128 hIm40 hc0 zb_3_9 (by omega) (by omega)
                    have hFm128 := zfr_up hmm128 hFm40 hc0 rfl
                    have r129 : 0 ≤ (m128 45 6) ∧ (m128 45 6) ≤ 700 := zi_rd hIm128 zq_45 zb_9_6
                    generalize hmm130 : zu_up m128 a0 10 (m128 45 6) = m130
                    have hIm130 := zi_up hmm130 hIm128 hc0 zb_3_10 (by omega) (by omega)
                    have hFm130 := zfr_up hmm130 hFm128 hc0 rfl
                    refine zw_b (by omega) ?_
                    refine zw_some ?_
                    refine zw_ite (fun h131 => ?_) (fun h131 => ?_)
                    · refine zw_b (by omega) ?_
                      refine zw_some ?_
                      refine zw_ite (fun h132 => ?_) (fun h132 => ?_)
                      · exfalso; omega
                      · refine zw_b (by omega) ?_
                        refine zw_some ?_
                        refine zw_ite (fun h133 => ?_) (fun h133 => ?_)
                        · refine zw_b (by omega) ?_
                          exact zw_some ⟨hIm130, hFm130, ⟨by omega, by omega⟩⟩
                        · exfalso; omega
                    · exfalso; omega
              · refine zw_bd (zw_eq (zr_257_0 n a0 1 m35) ?_)
                generalize hmm134 : zu_up m35 a0 9 1 = m134
                have hIm134 := zi_up hmm134 hIm35 hc0 zb_3_9 (by omega) (by omega)
                have hFm134 := zfr_up hmm134 hFm35 hc0 rfl
                have r135 : 0 ≤ (m134 45 6) ∧ (m134 45 6) ≤ 700 := zi_rd hIm134 zq_45 zb_9_6
                generalize hmm136 : zu_up m134 a0 10 (m134 45 6) = m136
                have hIm136 := zi_up hmm136 hIm134 hc0 zb_3_10 (by omega) (by omega)
                have hFm136 := zfr_up hmm136 hFm134 hc0 rfl
                refine zw_b (by omega) ?_
                refine zw_some ?_
                refine zw_b (by omega) ?_
                refine zw_some ?_
                refine zw_ite (fun h137 => ?_) (fun h137 => ?_)
                · exfalso; omega
                · refine zw_b (by omega) ?_
                  refine zw_some ?_
                  refine zw_ite (fun h138 => ?_) (fun h138 => ?_)
                  · refine zw_b (by omega) ?_
                    exact zw_some ⟨hIm136, hFm136, ⟨by omega, by omega⟩⟩
                  · exfalso; omega
            · exfalso; omega
          · exfalso; omega
  · refine zw_bd (zw_eq (zr_257_0 n a0 2 m0) ?_)
    generalize hmm139 : zu_up m0 a0 9 2 = m139
    have hIm139 := zi_up hmm139 hIm0 hc0 zb_3_9 (by omega) (by omega)
    have hFm139 := zfr_up hmm139 hFm0 hc0 rfl
    have r140 : 0 ≤ (m139 45 6) ∧ (m139 45 6) ≤ 700 := zi_rd hIm139 zq_45 zb_9_6
    generalize hmm141 : zu_up m139 a0 10 (m139 45 6) = m141
    have hIm141 := zi_up hmm141 hIm139 hc0 zb_3_10 (by omega) (by omega)
    have hFm141 := zfr_up hmm141 hFm139 hc0 rfl
    refine zw_b (by omega) ?_
    refine zw_some ?_
    refine zw_b (by omega) ?_
    exact zw_some ⟨hIm141, hFm141, ⟨by omega, by omega⟩⟩
