def zt_INV (m : zu_m) : Prop := zi_I m ∧ zR_BN m ∧ zR_C0 m ∧ (m 3 9 = 1 → zE m 115 50) ∧ zE m 63 50 ∧ zE m 89 50 ∧ zgeo m 50 ∧ zR_K10 m ∧ zR_K54 m ∧ zR_KN m ∧ zR_LT m ∧ zR_NS m ∧ zR_RI m ∧ zR_RU m ∧ zE1 m 0 ∧ zR_TE m ∧ zR_UN m ∧ zR_UW m ∧ zR_WD m ∧ zR_W1 m ∧ zR_W2 m ∧ zR_BX m ∧ zR_TA m ∧ zR_TP m ∧ zR_LK m ∧ m 3 1 = m 190 1 ∧ ∀ j, (-2147483648 : Int) ≤ m 1 j ∧ m 1 j ≤ 2147483647
def zt_HS (n : Nat) (K : Nat → Nat → Nat → List zu_v → List zu_v → zu_m → Prop) : Prop := ∀ (cells slots : Nat) (stops : List Nat) (q pc : Nat) (Lz Sz : List zu_v) (σ : zu_m), zw (zu_rega (zt_T n) (zu_call (zt_T n)) (zt_kex (K cells slots)) 11 zt_law stops q pc Lz Sz σ) (fun v _ => v = 1) → K cells slots pc Lz Sz σ
theorem zq_1 : zcls 1 = 0 := by decide +kernel
theorem zt_Sf {W : List (Nat × Nat)} {m m' : zu_m} (h : ∀ p, m' 1 p = m 1 p) (hS : ∀ j, (-2147483648 : Int) ≤ m 1 j ∧ m 1 j ≤ 2147483647) : ∀ j, (-2147483648 : Int) ≤ m' 1 j ∧ m' 1 j ≤ 2147483647 := fun j => by
  rw [h j]
  exact hS j
def zt_Wl : List (Nat × Nat) := [(2, 2), (2, 3), (2, 4), (2, 10), (3, 5), (3, 6), (3, 7), (3, 8), (3, 9), (3, 10), (3, 11), (4, 1), (4, 2), (4, 3), (4, 4), (4, 5), (4, 6), (5, 6), (5, 7), (6, 3), (6, 5), (6, 9), (6, 10), (6, 11), (6, 12), (7, 1), (7, 2), (7, 3), (7, 4), (8, 1), (8, 2), (8, 3), (8, 4), (8, 5), (8, 6), (8, 7), (9, 3), (9, 4), (9, 5), (9, 6), (9, 7), (10, 4), (10, 5), (10, 7), (10, 8), (11, 1), (11, 2), (11, 3), (11, 4), (11, 5), (11, 6), (12, 6), (12, 7), (13, 3), (13, 5), (13, 9), (13, 10), (13, 11), (13, 12), (14, 1), (14, 2), (14, 3), (14, 4), (15, 1), (15, 2), (15, 3), (15, 4), (15, 5), (15, 6), (15, 7), (15, 8), (16, 3), (16, 5), (16, 9), (16, 10), (16, 11), (16, 12), (17, 1), (17, 2), (17, 3), (17, 4), (18, 1), (18, 2), (18, 3), (18, 4), (18, 5), (18, 6), (18, 7), (18, 8), (19, 3), (19, 5), (19, 9), (19, 10), (19, 11), (19, 12), (20, 1), (20, 2), (20, 3), (20, 4), (21, 1), (21, 2), (21, 3), (21, 4), (21, 5), (21, 6), (21, 7), (21, 8), (22, 7), (22, 8), (23, 5), (24, 7), (24, 14), (24, 15), (24, 16), (24, 19), (25, 3), (25, 5), (25, 9), (25, 10), (25, 11), (25, 12), (26, 1), (26, 2), (26, 3), (26, 4), (27, 1), (27, 2), (27, 3), (27, 4), (27, 5), (27, 6), (27, 7), (27, 8), (28, 2), (28, 3), (28, 5), (28, 6), (28, 7), (28, 8), (28, 9), (28, 10), (28, 11), (28, 12), (28, 13), (28, 14), (28, 15), (28, 16), (28, 17), (28, 18), (28, 19), (28, 20), (28, 21), (28, 22), (28, 23), (28, 24), (28, 43), (28, 46), (28, 47), (28, 48), (28, 49), (28, 50), (28, 51), (28, 54), (28, 63), (28, 64), (28, 65), (28, 66), (28, 67), (28, 68), (28, 69), (28, 70), (28, 72), (28, 73), (28, 74), (28, 76), (28, 78), (28, 79), (28, 82), (28, 84), (28, 89), (28, 90), (28, 91), (29, 0), (30, 0), (31, 0), (32, 0), (33, 0), (34, 0), (35, 0), (36, 0), (43, 0), (44, 0), (47, 0), (48, 0), (49, 0), (50, 0), (51, 0), (52, 0), (53, 0), (54, 0), (55, 0), (56, 0), (57, 0), (58, 0), (59, 1), (59, 2), (59, 3), (59, 4), (59, 5), (59, 6), (59, 7), (62, 0), (63, 0), (67, 0), (68, 0), (69, 0), (72, 0), (73, 0), (75, 0), (76, 0), (77, 0), (78, 0), (79, 0), (80, 0), (81, 0), (82, 0), (83, 0), (84, 0), (85, 0), (86, 0), (87, 0), (88, 0), (89, 0), (90, 0), (91, 0), (92, 0), (93, 0), (94, 0), (97, 0), (98, 0), (100, 0), (102, 0), (103, 0), (104, 0), (105, 0), (106, 0), (107, 0), (108, 0), (109, 0), (110, 0), (111, 0), (112, 0), (113, 0), (114, 0), (115, 0), (116, 0), (117, 0), (118, 0), (119, 0), (120, 0), (121, 0), (122, 0), (123, 0), (124, 0), (125, 0), (125, 1), (125, 2), (126, 0), (127, 0), (128, 0), (129, 0), (130, 0), (131, 0), (132, 0), (133, 0), (134, 0), (135, 0), (136, 0), (137, 0), (138, 0), (139, 0), (140, 0), (141, 0)]
theorem zlw_553 {n : Nat} {K : Nat → Nat → Nat → List zu_v → List zu_v → zu_m → Prop} (hst : zt_HS n K) (hp2 : ∀ (cells slots pc : Nat) (i v : Int) (m : zu_m), pc ∈ [529, 552] → K cells slots (pc + 1) [(3, 1), (5, 3), (40, 190), (53, 233), (0, i), (2, 0), (2, 0)] [] m → K cells slots pc [(3, 1), (5, 3), (40, 190), (53, 233), (0, i), (2, 0), (2, 0)] [(1, v)] m) {cells slots : Nat} {i : Int} {m0 : zu_m} (hN : zt_INV m0) (hi0 : 0 ≤ i) (hi1 : i ≤ (n : Int) - 6) (hn : n ≤ 3072) (ih : ∀ m, zt_INV m → K cells slots 1454 [(3, 1), (5, 3), (40, 190), (53, 233), (0, i), (2, 0), (2, 0)] [] m) : K cells slots 553 [(3, 1), (5, 3), (40, 190), (53, 233), (0, i), (2, 0), (2, 0)] [] m0 := by
  refine hst cells slots [23, 40, 208, 281, 306, 331, 356, 370, 396, 433, 470, 507, 529, 552, 556, 605, 618, 655, 680, 705, 730, 755, 792, 865, 902, 939, 964, 977, 1002, 1028, 1041, 1078, 1103, 1128, 1205, 1230, 1255, 1280, 1341, 1390, 1403, 1416, 1429, 1454] 400 553 _ _ _ ?_
  refine zw_eq (zlr_553 n _ _ i m0) ?_
  obtain ⟨hIm0, hRBNm0, hRC0m0, hRE115m0, hRE63m0, hRE89m0, hRG5m0, hRK10m0, hRK54m0, hRKNm0, hRLTm0, hRNSm0, hRRIm0, hRRUm0, hRSEm0, hRTEm0, hRUNm0, hRUWm0, hRWDm0, hRW1m0, hRW2m0, hRBYm0, hRTAm0, hRTPm0, hRLKm0, hT, hSm0⟩ := hN
  have r1 : 0 ≤ (m0 3 1) ∧ (m0 3 1) ≤ 700 := zi_rd hIm0 zq_3 zb_2_1
  have r2 : 0 ≤ (m0 190 1) ∧ (m0 190 1) ≤ 700 := zi_rd hIm0 zq_190 zb_28_1
  exact zw_kex (ih _ ⟨hIm0, hRBNm0, hRC0m0, hRE115m0, hRE63m0, hRE89m0, hRG5m0, hRK10m0, hRK54m0, hRKNm0, hRLTm0, hRNSm0, hRRIm0, hRRUm0, hRSEm0, hRTEm0, hRUNm0, hRUWm0, hRWDm0, hRW1m0, hRW2m0, hRBYm0, hRTAm0, hRTPm0, hRLKm0, by omega, hSm0⟩)
theorem zlw_530 {n : Nat} {K : Nat → Nat → Nat → List zu_v → List zu_v → zu_m → Prop} (hst : zt_HS n K) (hp2 : ∀ (cells slots pc : Nat) (i v : Int) (m : zu_m), pc ∈ [529, 552] → K cells slots (pc + 1) [(3, 1), (5, 3), (40, 190), (53, 233), (0, i), (2, 0), (2, 0)] [] m → K cells slots pc [(3, 1), (5, 3), (40, 190), (53, 233), (0, i), (2, 0), (2, 0)] [(1, v)] m) {cells slots : Nat} {i : Int} {m0 : zu_m} (hN : zt_INV m0) (hi0 : 0 ≤ i) (hi1 : i ≤ (n : Int) - 6) (hn : n ≤ 3072) (ih : ∀ m, zt_INV m → K cells slots 1454 [(3, 1), (5, 3), (40, 190), (53, 233), (0, i), (2, 0), (2, 0)] [] m) : K cells slots 530 [(3, 1), (5, 3), (40, 190), (53, 233), (0, i), (2, 0), (2, 0)] [] m0 := by
  refine hst cells slots [23, 40, 208, 281, 306, 331, 356, 370, 396, 433, 470, 507, 529, 552, 556, 605, 618, 655, 680, 705, 730, 755, 792, 865, 902, 939, 964, 977, 1002, 1028, 1041, 1078, 1103, 1128, 1205, 1230, 1255, 1280, 1341, 1390, 1403, 1416, 1429, 1454] 400 530 _ _ _ ?_
  refine zw_eq (zlr_530 n _ _ i m0) ?_
  obtain ⟨hIm0, hRBNm0, hRC0m0, hRE115m0, hRE63m0, hRE89m0, hRG5m0, hRK10m0, hRK54m0, hRKNm0, hRLTm0, hRNSm0, hRRIm0, hRRUm0, hRSEm0, hRTEm0, hRUNm0, hRUWm0, hRWDm0, hRW1m0, hRW2m0, hRBYm0, hRTAm0, hRTPm0, hRLKm0, hT, hSm0⟩ := hN
  have r1 : 0 ≤ (m0 3 1) ∧ (m0 3 1) ≤ 700 := zi_rd hIm0 zq_3 zb_2_1
  have r2 : 0 ≤ (m0 190 1) ∧ (m0 190 1) ≤ 700 := zi_rd hIm0 zq_190 zb_28_1
  have w3 := zu_w32_id (z := i + 1) (by omega) (by omega)
  refine zw_if ⟨by omega, by omega⟩ ?_
  have r4 := hSm0 (zu_w32 (i + 1))
  have w5 := zu_w32_id (z := i + 2) (by omega) (by omega)
  refine zw_if ⟨by omega, by omega⟩ ?_
  have r6 := hSm0 (zu_w32 (i + 2))
  have w7 := zu_w32_id (z := i + 3) (by omega) (by omega)
  refine zw_if ⟨by omega, by omega⟩ ?_
  have r8 := hSm0 (zu_w32 (i + 3))
  refine zw_bd (zw_mono (zk_147 n hIm0 zq_190 ⟨by omega, by omega⟩ ⟨by omega, by omega⟩ ⟨by omega, by omega⟩ hRKNm0 hRLTm0) (fun v10 m9 hqm9 => ?_))
  obtain ⟨hIm9, hfm9, hvm9⟩ := hqm9
  obtain ⟨hRKNm9, hRLTm9, hvm9⟩ := hvm9
  have hRBNm9 := zR_BN_fr (zdis_fr hfm9 rfl) hRBNm0
  have hRBYm9 := zR_BY_fr (zdis_fr hfm9 rfl) hRBYm0
  have hRC0m9 := zR_C0_fr (zdis_fr hfm9 rfl) hRC0m0
  have hRE115m9 := zR_E115_fr (zdis_fr hfm9 rfl) hRE115m0
  have hRE63m9 := zR_E63_fr (zdis_fr hfm9 rfl) hRE63m0
  have hRE89m9 := zR_E89_fr (zdis_fr hfm9 rfl) hRE89m0
  have hRG5m9 := zR_G5_fr (zdis_fr hfm9 rfl) hRG5m0
  have hRK10m9 := zR_K10_fr (zdis_fr hfm9 rfl) hRK10m0
  have hRK54m9 := zR_K54_fr (zdis_fr hfm9 rfl) hRK54m0
  have hRLKm9 := zR_LK_fr (zdis_fr hfm9 rfl) hRLKm0
  have hRNSm9 := zR_NS_fr (zdis_fr hfm9 rfl) hRNSm0
  have hRRIm9 := zR_RI_fr (zdis_fr hfm9 rfl) hRRIm0
  have hRRUm9 := zR_RU_fr (zdis_fr hfm9 rfl) hRRUm0
  have hRSEm9 := zR_SE_fr (zdis_fr hfm9 rfl) hRSEm0
  have hRTAm9 := zR_TA_fr (zdis_fr hfm9 rfl) hRTAm0
  have hRTEm9 := zR_TE_fr (zdis_fr hfm9 rfl) hRTEm0
  have hRTPm9 := zR_TP_fr (zdis_fr hfm9 rfl) hRTPm0
  have hRUNm9 := zR_UN_fr (zdis_fr hfm9 rfl) hRUNm0
  have hRUWm9 := zR_UW_fr (zdis_fr hfm9 rfl) hRUWm0
  have hRW1m9 := zR_W1_fr (zdis_fr hfm9 rfl) hRW1m0
  have hRW2m9 := zR_W2_fr (zdis_fr hfm9 rfl) hRW2m0
  have hRWDm9 := zR_WD_fr (zdis_fr hfm9 rfl) hRWDm0
  have hSm9 := zt_Sf (W := []) (fun p => zfr_ap (p := p) hfm9 zq_1 rfl) hSm0
  have r11 : 0 ≤ (m9 3 1) ∧ (m9 3 1) ≤ 700 := zi_rd hIm9 zq_3 zb_2_1
  have e12 : (m9 3 1) = (m0 3 1) := (zfr_ap hfm9 zq_3 rfl)
  have r13 : 0 ≤ (m9 190 1) ∧ (m9 190 1) ≤ 700 := zi_rd hIm9 zq_190 zb_28_1
  have e14 : (m9 190 1) = (m0 190 1) := (zfr_ap hfm9 zq_190 rfl)
  exact zw_kex (hp2 _ _ _ _ _ _ (by decide) (zlw_553 hst hp2 ⟨hIm9, hRBNm9, hRC0m9, hRE115m9, hRE63m9, hRE89m9, hRG5m9, hRK10m9, hRK54m9, hRKNm9, hRLTm9, hRNSm9, hRRIm9, hRRUm9, hRSEm9, hRTEm9, hRUNm9, hRUWm9, hRWDm9, hRW1m9, hRW2m9, hRBYm9, hRTAm9, hRTPm9, hRLKm9, by omega, hSm9⟩ hi0 hi1 hn ih))
theorem zlw_208 {n : Nat} {K : Nat → Nat → Nat → List zu_v → List zu_v → zu_m → Prop} (hst : zt_HS n K) (hp2 : ∀ (cells slots pc : Nat) (i v : Int) (m : zu_m), pc ∈ [529, 552] → K cells slots (pc + 1) [(3, 1), (5, 3), (40, 190), (53, 233), (0, i), (2, 0), (2, 0)] [] m → K cells slots pc [(3, 1), (5, 3), (40, 190), (53, 233), (0, i), (2, 0), (2, 0)] [(1, v)] m) {cells slots : Nat} {i : Int} {m0 : zu_m} (hN : zt_INV m0) (hi0 : 0 ≤ i) (hi1 : i ≤ (n : Int) - 6) (hn : n ≤ 3072) (ih : ∀ m, zt_INV m → K cells slots 1454 [(3, 1), (5, 3), (40, 190), (53, 233), (0, i), (2, 0), (2, 0)] [] m) : K cells slots 208 [(3, 1), (5, 3), (40, 190), (53, 233), (0, i), (2, 0), (2, 0)] [] m0 := by
  refine hst cells slots [23, 40, 208, 281, 306, 331, 356, 370, 396, 433, 470, 507, 529, 552, 556, 605, 618, 655, 680, 705, 730, 755, 792, 865, 902, 939, 964, 977, 1002, 1028, 1041, 1078, 1103, 1128, 1205, 1230, 1255, 1280, 1341, 1390, 1403, 1416, 1429, 1454] 400 208 _ _ _ ?_
  refine zw_eq (zlr_208 n _ _ i m0) ?_
  obtain ⟨hIm0, hRBNm0, hRC0m0, hRE115m0, hRE63m0, hRE89m0, hRG5m0, hRK10m0, hRK54m0, hRKNm0, hRLTm0, hRNSm0, hRRIm0, hRRUm0, hRSEm0, hRTEm0, hRUNm0, hRUWm0, hRWDm0, hRW1m0, hRW2m0, hRBYm0, hRTAm0, hRTPm0, hRLKm0, hT, hSm0⟩ := hN
  have r1 : 0 ≤ (m0 3 1) ∧ (m0 3 1) ≤ 700 := zi_rd hIm0 zq_3 zb_2_1
  have r2 : 0 ≤ (m0 190 1) ∧ (m0 190 1) ≤ 700 := zi_rd hIm0 zq_190 zb_28_1
  have w3 := zu_w32_id (z := i + 1) (by omega) (by omega)
  refine zw_if ⟨by omega, by omega⟩ ?_
  have r4 := hSm0 (zu_w32 (i + 1))
  have w5 := zu_w32_id (z := i + 2) (by omega) (by omega)
  refine zw_if ⟨by omega, by omega⟩ ?_
  have r6 := hSm0 (zu_w32 (i + 2))
  have w7 := zu_w32_id (z := i + 3) (by omega) (by omega)
  refine zw_if ⟨by omega, by omega⟩ ?_
  have r8 := hSm0 (zu_w32 (i + 3))
  have w9 := zu_w32_id (z := i + 4) (by omega) (by omega)
  refine zw_if ⟨by omega, by omega⟩ ?_
  have r10 := hSm0 (zu_w32 (i + 4))
  have w11 := zu_w32_id (z := i + 5) (by omega) (by omega)
  refine zw_if ⟨by omega, by omega⟩ ?_
  have r12 := hSm0 (zu_w32 (i + 5))
  refine zw_bd (zw_mono (zw_self (zk_40 n hIm0 zq_3 ⟨by omega, by omega⟩ ⟨by omega, by omega⟩ ⟨by omega, by omega⟩ ⟨by omega, by omega⟩ ⟨by omega, by omega⟩)) (fun v14 m13 hqm13 => ?_))
  obtain ⟨⟨hIm13, hfm13, hvm13⟩, hcm13⟩ := hqm13
  have hRBNm13 := zR_BN_fr (zdis_fr hfm13 rfl) hRBNm0
  have hRBYm13 := zR_BY_fr (zdis_fr hfm13 rfl) hRBYm0
  have hRC0m13 := zR_C0_fr (zdis_fr hfm13 rfl) hRC0m0
  have hRE115m13 := zR_E115_fr (zdis_fr hfm13 rfl) hRE115m0
  have hRE63m13 := zR_E63_fr (zdis_fr hfm13 rfl) hRE63m0
  have hRE89m13 := zR_E89_fr (zdis_fr hfm13 rfl) hRE89m0
  have hRG5m13 := zR_G5_fr (zdis_fr hfm13 rfl) hRG5m0
  have hRK10m13 := zR_K10_fr (zdis_fr hfm13 rfl) hRK10m0
  have hRK54m13 := zR_K54_fr (zdis_fr hfm13 rfl) hRK54m0
  have hRKNm13 := zR_KN_fr (zdis_fr hfm13 rfl) hRKNm0
  have hRLKm13 := zR_LK_fr (zdis_fr hfm13 rfl) hRLKm0
  have hRLTm13 := zR_LT_fr (zdis_fr hfm13 rfl) hRLTm0
  have hRNSm13 := zR_NS_fr (zdis_fr hfm13 rfl) hRNSm0
  have hRRIm13 := zR_RI_fr (zdis_fr hfm13 rfl) hRRIm0
  have hRRUm13 := zR_RU_fr (zdis_fr hfm13 rfl) hRRUm0
  have hRSEm13 := zR_SE_fr (zdis_fr hfm13 rfl) hRSEm0
  have hRTEm13 := zR_TE_fr (zdis_fr hfm13 rfl) hRTEm0
  have hRTPm13 := zR_TP_fr (zdis_fr hfm13 rfl) hRTPm0
  have hRUNm13 := zR_UN_fr (zdis_fr hfm13 rfl) hRUNm0
  have hRUWm13 := zR_UW_fr (zdis_fr hfm13 rfl) hRUWm0
  have hRW1m13 := zR_W1_fr (zdis_fr hfm13 rfl) hRW1m0
  have hRW2m13 := zR_W2_fr (zdis_fr hfm13 rfl) hRW2m0
  have hRWDm13 := zR_WD_fr (zdis_fr hfm13 rfl) hRWDm0
  have r15 : 0 ≤ (m13 3 1) ∧ (m13 3 1) ≤ 700 := zi_rd hIm13 zq_3 zb_2_1
  have hSm13 := zt_Sf (W := []) (fun p => zfr_ap (p := p) hfm13 zq_1 rfl) hSm0
  refine zw_if ⟨by omega, by omega⟩ ?_
  have r16 := hSm13 (zu_w32 (i + 1))
  have e17 : (m13 1 (zu_w32 (i + 1))) = (m0 1 (zu_w32 (i + 1))) := (zfr_ap hfm13 zq_1 rfl)
  refine zw_if ⟨by omega, by omega⟩ ?_
  have r18 := hSm13 (zu_w32 (i + 2))
  have e19 : (m13 1 (zu_w32 (i + 2))) = (m0 1 (zu_w32 (i + 2))) := (zfr_ap hfm13 zq_1 rfl)
  refine zw_if ⟨by omega, by omega⟩ ?_
  have r20 := hSm13 (zu_w32 (i + 3))
  have e21 : (m13 1 (zu_w32 (i + 3))) = (m0 1 (zu_w32 (i + 3))) := (zfr_ap hfm13 zq_1 rfl)
  refine zw_if ⟨by omega, by omega⟩ ?_
  have r22 := hSm13 (zu_w32 (i + 4))
  have e23 : (m13 1 (zu_w32 (i + 4))) = (m0 1 (zu_w32 (i + 4))) := (zfr_ap hfm13 zq_1 rfl)
  refine zw_if ⟨by omega, by omega⟩ ?_
  have r24 := hSm13 (zu_w32 (i + 5))
  have e25 : (m13 1 (zu_w32 (i + 5))) = (m0 1 (zu_w32 (i + 5))) := (zfr_ap hfm13 zq_1 rfl)
  have r28 : 0 ≤ (m13 190 1) ∧ (m13 190 1) ≤ 700 := zi_rd hIm13 zq_190 zb_28_1
  have e29 : (m13 190 1) = (m0 190 1) := (zfr_ap hfm13 zq_190 rfl)
  refine zw_bd (zw_mono (zw_self (zk_82 n hIm13 zq_190 ⟨by omega, by omega⟩ ⟨by omega, by omega⟩ ⟨by omega, by omega⟩ ⟨by omega, by omega⟩ ⟨by omega, by omega⟩)) (fun v27 m26 hqm26 => ?_))
  obtain ⟨⟨hIm26, hfm26, hvm26⟩, hcm26⟩ := hqm26
  have hRBNm26 := zR_BN_fr (zdis_fr hfm26 rfl) hRBNm13
  have hRBYm26 := zR_BY_fr (zdis_fr hfm26 rfl) hRBYm13
  have hRC0m26 := zR_C0_fr (zdis_fr hfm26 rfl) hRC0m13
  have hRE115m26 := zR_E115_fr (zdis_fr hfm26 rfl) hRE115m13
  have hRE63m26 := zR_E63_fr (zdis_fr hfm26 rfl) hRE63m13
  have hRE89m26 := zR_E89_fr (zdis_fr hfm26 rfl) hRE89m13
  have hRG5m26 := zR_G5_fr (zdis_fr hfm26 rfl) hRG5m13
  have hRK10m26 := zR_K10_fr (zdis_fr hfm26 rfl) hRK10m13
  have hRK54m26 := zR_K54_fr (zdis_fr hfm26 rfl) hRK54m13
  have hRKNm26 := zR_KN_fr (zdis_fr hfm26 rfl) hRKNm13
  have hRLKm26 := zR_LK_fr (zdis_fr hfm26 rfl) hRLKm13
  have hRLTm26 := zR_LT_fr (zdis_fr hfm26 rfl) hRLTm13
  have hRNSm26 := zR_NS_fr (zdis_fr hfm26 rfl) hRNSm13
  have hRRIm26 := zR_RI_fr (zdis_fr hfm26 rfl) hRRIm13
  have hRRUm26 := zR_RU_fr (zdis_fr hfm26 rfl) hRRUm13
  have hRSEm26 := zR_SE_fr (zdis_fr hfm26 rfl) hRSEm13
  have hRTEm26 := zR_TE_fr (zdis_fr hfm26 rfl) hRTEm13
  have hRTPm26 := zR_TP_fr (zdis_fr hfm26 rfl) hRTPm13
  have hRUNm26 := zR_UN_fr (zdis_fr hfm26 rfl) hRUNm13
  have hRUWm26 := zR_UW_fr (zdis_fr hfm26 rfl) hRUWm13
  have hRW1m26 := zR_W1_fr (zdis_fr hfm26 rfl) hRW1m13
  have hRW2m26 := zR_W2_fr (zdis_fr hfm26 rfl) hRW2m13
  have hRWDm26 := zR_WD_fr (zdis_fr hfm26 rfl) hRWDm13
  have hRTAm26 := zz_feedL n (zfr_ap hfm13 zq_1 rfl) (zfr_ap hfm13 zq_1 rfl) (zfr_ap hfm13 zq_1 rfl) (zfr_ap hfm13 zq_1 rfl) (zfr_ap hfm13 zq_1 rfl) hIm0 hRTAm0 hT hfm13 rfl hfm26 rfl hcm13 hcm26
  have hSm26 := zt_Sf (W := []) (fun p => zfr_ap (p := p) hfm26 zq_1 rfl) hSm13
  have r31 : 0 ≤ (m26 3 1) ∧ (m26 3 1) ≤ 700 := zi_rd hIm26 zq_3 zb_2_1
  have e32 : (m26 3 1) = (m13 3 1) := (zfr_ap hfm26 zq_3 rfl)
  exact zw_kex (ih _ ⟨hIm26, hRBNm26, hRC0m26, hRE115m26, hRE63m26, hRE89m26, hRG5m26, hRK10m26, hRK54m26, hRKNm26, hRLTm26, hRNSm26, hRRIm26, hRRUm26, hRSEm26, hRTEm26, hRUNm26, hRUWm26, hRWDm26, hRW1m26, hRW2m26, hRBYm26, hRTAm26, hRTPm26, hRLKm26, by omega, hSm26⟩)
theorem zlw_281 {n : Nat} {K : Nat → Nat → Nat → List zu_v → List zu_v → zu_m → Prop} (hst : zt_HS n K) (hp2 : ∀ (cells slots pc : Nat) (i v : Int) (m : zu_m), pc ∈ [529, 552] → K cells slots (pc + 1) [(3, 1), (5, 3), (40, 190), (53, 233), (0, i), (2, 0), (2, 0)] [] m → K cells slots pc [(3, 1), (5, 3), (40, 190), (53, 233), (0, i), (2, 0), (2, 0)] [(1, v)] m) {cells slots : Nat} {i : Int} {m0 : zu_m} (hN : zt_INV m0) (hi0 : 0 ≤ i) (hi1 : i ≤ (n : Int) - 6) (hn : n ≤ 3072) (ih : ∀ m, zt_INV m → K cells slots 1454 [(3, 1), (5, 3), (40, 190), (53, 233), (0, i), (2, 0), (2, 0)] [] m) : K cells slots 281 [(3, 1), (5, 3), (40, 190), (53, 233), (0, i), (2, 0), (2, 0)] [] m0 := by
  refine hst cells slots [23, 40, 208, 281, 306, 331, 356, 370, 396, 433, 470, 507, 529, 552, 556, 605, 618, 655, 680, 705, 730, 755, 792, 865, 902, 939, 964, 977, 1002, 1028, 1041, 1078, 1103, 1128, 1205, 1230, 1255, 1280, 1341, 1390, 1403, 1416, 1429, 1454] 400 281 _ _ _ ?_
  refine zw_eq (zlr_281 n _ _ i m0) ?_
  obtain ⟨hIm0, hRBNm0, hRC0m0, hRE115m0, hRE63m0, hRE89m0, hRG5m0, hRK10m0, hRK54m0, hRKNm0, hRLTm0, hRNSm0, hRRIm0, hRRUm0, hRSEm0, hRTEm0, hRUNm0, hRUWm0, hRWDm0, hRW1m0, hRW2m0, hRBYm0, hRTAm0, hRTPm0, hRLKm0, hT, hSm0⟩ := hN
  have r1 : 0 ≤ (m0 3 1) ∧ (m0 3 1) ≤ 700 := zi_rd hIm0 zq_3 zb_2_1
  have r2 : 0 ≤ (m0 190 1) ∧ (m0 190 1) ≤ 700 := zi_rd hIm0 zq_190 zb_28_1
  have w3 := zu_w32_id (z := i + 1) (by omega) (by omega)
  refine zw_if ⟨by omega, by omega⟩ ?_
  have r4 := hSm0 (zu_w32 (i + 1))
  refine zw_bd (zw_mono (zw_self (zk_42 n hIm0 zq_3 ⟨by omega, by omega⟩ hRBNm0 hRE115m0 hRE63m0 hRE89m0 hRG5m0 hRK10m0 hRK54m0 hRUNm0 hRUWm0)) (fun v6 m5 hqm5 => ?_))
  obtain ⟨⟨hIm5, hfm5, hvm5⟩, hcm5⟩ := hqm5
  obtain ⟨hRBNm5, hRE115m5, hRE63m5, hRE89m5, hRG5m5, hRK10m5, hRK54m5, hRUNm5, hRUWm5, hvm5⟩ := hvm5
  have hRBYm5 := zR_BY_fr (zdis_fr hfm5 rfl) hRBYm0
  have hRC0m5 := zR_C0_fr (zdis_fr hfm5 rfl) hRC0m0
  have hRKNm5 := zR_KN_fr (zdis_fr hfm5 rfl) hRKNm0
  have hRLTm5 := zR_LT_fr (zdis_fr hfm5 rfl) hRLTm0
  have hRNSm5 := zR_NS_fr (zdis_fr hfm5 rfl) hRNSm0
  have hRRIm5 := zR_RI_fr (zdis_fr hfm5 rfl) hRRIm0
  have hRRUm5 := zR_RU_fr (zdis_fr hfm5 rfl) hRRUm0
  have hRSEm5 := zR_SE_fr (zdis_fr hfm5 rfl) hRSEm0
  have hRTAm5 := zR_TA_fr (zdis_fr hfm5 rfl) hRTAm0
  have hRTEm5 := zR_TE_fr (zdis_fr hfm5 rfl) hRTEm0
  have hRW1m5 := zR_W1_fr (zdis_fr hfm5 rfl) hRW1m0
  have hRW2m5 := zR_W2_fr (zdis_fr hfm5 rfl) hRW2m0
  have hRWDm5 := zR_WD_fr (zdis_fr hfm5 rfl) hRWDm0
  have r7 : 0 ≤ (m5 3 1) ∧ (m5 3 1) ≤ 700 := zi_rd hIm5 zq_3 zb_2_1
  have hSm5 := zt_Sf (W := []) (fun p => zfr_ap (p := p) hfm5 zq_1 rfl) hSm0
  refine zw_if ⟨by omega, by omega⟩ ?_
  have r8 := hSm5 (zu_w32 (i + 1))
  have e9 : (m5 1 (zu_w32 (i + 1))) = (m0 1 (zu_w32 (i + 1))) := (zfr_ap hfm5 zq_1 rfl)
  have r12 : 0 ≤ (m5 190 1) ∧ (m5 190 1) ≤ 700 := zi_rd hIm5 zq_190 zb_28_1
  have e13 : (m5 190 1) = (m0 190 1) := (zfr_ap hfm5 zq_190 rfl)
  refine zw_bd (zw_mono (zw_self (zk_106 n hIm5 zq_190 ⟨by omega, by omega⟩ hRC0m5 hRKNm5 hRLTm5 hRNSm5 hRRIm5 hRRUm5 hRSEm5 hRTEm5 hRWDm5)) (fun v11 m10 hqm10 => ?_))
  obtain ⟨⟨hIm10, hfm10, hvm10⟩, hcm10⟩ := hqm10
  obtain ⟨hRC0m10, hRKNm10, hRLTm10, hRNSm10, hRRIm10, hRRUm10, hRSEm10, hRTEm10, hRWDm10, hvm10⟩ := hvm10
  have hRBNm10 := zR_BN_fr (zdis_fr hfm10 rfl) hRBNm5
  have hRBYm10 := zR_BY_fr (zdis_fr hfm10 rfl) hRBYm5
  have hRE115m10 := zR_E115_fr (zdis_fr hfm10 rfl) hRE115m5
  have hRE63m10 := zR_E63_fr (zdis_fr hfm10 rfl) hRE63m5
  have hRE89m10 := zR_E89_fr (zdis_fr hfm10 rfl) hRE89m5
  have hRG5m10 := zR_G5_fr (zdis_fr hfm10 rfl) hRG5m5
  have hRK10m10 := zR_K10_fr (zdis_fr hfm10 rfl) hRK10m5
  have hRK54m10 := zR_K54_fr (zdis_fr hfm10 rfl) hRK54m5
  have hRTAm10 := zR_TA_fr (zdis_fr hfm10 rfl) hRTAm5
  have hRUNm10 := zR_UN_fr (zdis_fr hfm10 rfl) hRUNm5
  have hRUWm10 := zR_UW_fr (zdis_fr hfm10 rfl) hRUWm5
  have hRW1m10 := zR_W1_fr (zdis_fr hfm10 rfl) hRW1m5
  have hRW2m10 := zR_W2_fr (zdis_fr hfm10 rfl) hRW2m5
  have r14 : 0 ≤ (m10 190 1) ∧ (m10 190 1) ≤ 700 := zi_rd hIm10 zq_190 zb_28_1
  have hx15 := zz_textL n (zfr_ap hfm5 zq_1 rfl) ⟨by omega, by omega⟩ hIm0 hRBNm0 hRK10m0 hRW1m0 hRBYm0 hIm5 hRC0m5 hRKNm5 hRLTm5 hRWDm5 hRW2m5 hRTAm0 hT hfm5 rfl hfm10 rfl hcm5 hcm10
  have heq16 := hx15.1
  have hRTPm10 := hx15.2 hRTPm0
  have hRLKm10 := zz_textA n (zfr_ap hfm5 zq_1 rfl) ⟨by omega, by omega⟩ hIm0 hRBNm0 hRK10m0 hRW1m0 hRBYm0 hIm5 hRC0m5 hRKNm5 hRLTm5 hRWDm5 hRW2m5 hRTAm0 hT hRLKm0 hfm5 rfl hfm10 rfl hcm5 hcm10
  have hSm10 := zt_Sf (W := []) (fun p => zfr_ap (p := p) hfm10 zq_1 rfl) hSm5
  have r17 : 0 ≤ (m10 3 1) ∧ (m10 3 1) ≤ 700 := zi_rd hIm10 zq_3 zb_2_1
  have e18 : (m10 3 1) = (m5 3 1) := (zfr_ap hfm10 zq_3 rfl)
  exact zw_kex (ih _ ⟨hIm10, hRBNm10, hRC0m10, hRE115m10, hRE63m10, hRE89m10, hRG5m10, hRK10m10, hRK54m10, hRKNm10, hRLTm10, hRNSm10, hRRIm10, hRRUm10, hRSEm10, hRTEm10, hRUNm10, hRUWm10, hRWDm10, hRW1m10, hRW2m10, hRBYm10, hRTAm10, hRTPm10, hRLKm10, by omega, hSm10⟩)
theorem zlw_306 {n : Nat} {K : Nat → Nat → Nat → List zu_v → List zu_v → zu_m → Prop} (hst : zt_HS n K) (hp2 : ∀ (cells slots pc : Nat) (i v : Int) (m : zu_m), pc ∈ [529, 552] → K cells slots (pc + 1) [(3, 1), (5, 3), (40, 190), (53, 233), (0, i), (2, 0), (2, 0)] [] m → K cells slots pc [(3, 1), (5, 3), (40, 190), (53, 233), (0, i), (2, 0), (2, 0)] [(1, v)] m) {cells slots : Nat} {i : Int} {m0 : zu_m} (hN : zt_INV m0) (hi0 : 0 ≤ i) (hi1 : i ≤ (n : Int) - 6) (hn : n ≤ 3072) (ih : ∀ m, zt_INV m → K cells slots 1454 [(3, 1), (5, 3), (40, 190), (53, 233), (0, i), (2, 0), (2, 0)] [] m) : K cells slots 306 [(3, 1), (5, 3), (40, 190), (53, 233), (0, i), (2, 0), (2, 0)] [] m0 := by
  refine hst cells slots [23, 40, 208, 281, 306, 331, 356, 370, 396, 433, 470, 507, 529, 552, 556, 605, 618, 655, 680, 705, 730, 755, 792, 865, 902, 939, 964, 977, 1002, 1028, 1041, 1078, 1103, 1128, 1205, 1230, 1255, 1280, 1341, 1390, 1403, 1416, 1429, 1454] 400 306 _ _ _ ?_
  refine zw_eq (zlr_306 n _ _ i m0) ?_
  obtain ⟨hIm0, hRBNm0, hRC0m0, hRE115m0, hRE63m0, hRE89m0, hRG5m0, hRK10m0, hRK54m0, hRKNm0, hRLTm0, hRNSm0, hRRIm0, hRRUm0, hRSEm0, hRTEm0, hRUNm0, hRUWm0, hRWDm0, hRW1m0, hRW2m0, hRBYm0, hRTAm0, hRTPm0, hRLKm0, hT, hSm0⟩ := hN
  have r1 : 0 ≤ (m0 3 1) ∧ (m0 3 1) ≤ 700 := zi_rd hIm0 zq_3 zb_2_1
  have r2 : 0 ≤ (m0 190 1) ∧ (m0 190 1) ≤ 700 := zi_rd hIm0 zq_190 zb_28_1
  have w3 := zu_w32_id (z := i + 1) (by omega) (by omega)
  refine zw_if ⟨by omega, by omega⟩ ?_
  have r4 := hSm0 (zu_w32 (i + 1))
  refine zw_bd (zw_mono (zw_self (zk_43 n hIm0 zq_3 ⟨by omega, by omega⟩)) (fun v6 m5 hqm5 => ?_))
  obtain ⟨⟨hIm5, hfm5, hvm5⟩, hcm5⟩ := hqm5
  have hRBNm5 := zR_BN_fr (zdis_fr hfm5 rfl) hRBNm0
  have hRBYm5 := zR_BY_fr (zdis_fr hfm5 rfl) hRBYm0
  have hRC0m5 := zR_C0_fr (zdis_fr hfm5 rfl) hRC0m0
  have hRE115m5 := zR_E115_fr (zdis_fr hfm5 rfl) hRE115m0
  have hRE63m5 := zR_E63_fr (zdis_fr hfm5 rfl) hRE63m0
  have hRE89m5 := zR_E89_fr (zdis_fr hfm5 rfl) hRE89m0
  have hRG5m5 := zR_G5_fr (zdis_fr hfm5 rfl) hRG5m0
  have hRK10m5 := zR_K10_fr (zdis_fr hfm5 rfl) hRK10m0
  have hRK54m5 := zR_K54_fr (zdis_fr hfm5 rfl) hRK54m0
  have hRKNm5 := zR_KN_fr (zdis_fr hfm5 rfl) hRKNm0
  have hRLKm5 := zR_LK_fr (zdis_fr hfm5 rfl) hRLKm0
  have hRLTm5 := zR_LT_fr (zdis_fr hfm5 rfl) hRLTm0
  have hRNSm5 := zR_NS_fr (zdis_fr hfm5 rfl) hRNSm0
  have hRRIm5 := zR_RI_fr (zdis_fr hfm5 rfl) hRRIm0
  have hRRUm5 := zR_RU_fr (zdis_fr hfm5 rfl) hRRUm0
  have hRSEm5 := zR_SE_fr (zdis_fr hfm5 rfl) hRSEm0
  have hRTAm5 := zR_TA_fr (zdis_fr hfm5 rfl) hRTAm0
  have hRTEm5 := zR_TE_fr (zdis_fr hfm5 rfl) hRTEm0
  have hRTPm5 := zR_TP_fr (zdis_fr hfm5 rfl) hRTPm0
  have hRUNm5 := zR_UN_fr (zdis_fr hfm5 rfl) hRUNm0
  have hRUWm5 := zR_UW_fr (zdis_fr hfm5 rfl) hRUWm0
  have hRW1m5 := zR_W1_fr (zdis_fr hfm5 rfl) hRW1m0
  have hRW2m5 := zR_W2_fr (zdis_fr hfm5 rfl) hRW2m0
  have hRWDm5 := zR_WD_fr (zdis_fr hfm5 rfl) hRWDm0
  have hSm5 := zt_Sf (W := []) (fun p => zfr_ap (p := p) hfm5 zq_1 rfl) hSm0
  refine zw_if ⟨by omega, by omega⟩ ?_
  have r7 := hSm5 (zu_w32 (i + 1))
  have e8 : (m5 1 (zu_w32 (i + 1))) = (m0 1 (zu_w32 (i + 1))) := (zfr_ap hfm5 zq_1 rfl)
  refine zw_bd (zw_mono (zw_self (zk_107 n hIm5 zq_190 ⟨by omega, by omega⟩)) (fun v10 m9 hqm9 => ?_))
  obtain ⟨⟨hIm9, hfm9, hvm9⟩, hcm9⟩ := hqm9
  have hRBNm9 := zR_BN_fr (zdis_fr hfm9 rfl) hRBNm5
  have hRBYm9 := zR_BY_fr (zdis_fr hfm9 rfl) hRBYm5
  have hRC0m9 := zR_C0_fr (zdis_fr hfm9 rfl) hRC0m5
  have hRE115m9 := zR_E115_fr (zdis_fr hfm9 rfl) hRE115m5
  have hRE63m9 := zR_E63_fr (zdis_fr hfm9 rfl) hRE63m5
  have hRE89m9 := zR_E89_fr (zdis_fr hfm9 rfl) hRE89m5
  have hRG5m9 := zR_G5_fr (zdis_fr hfm9 rfl) hRG5m5
  have hRK10m9 := zR_K10_fr (zdis_fr hfm9 rfl) hRK10m5
  have hRK54m9 := zR_K54_fr (zdis_fr hfm9 rfl) hRK54m5
  have hRKNm9 := zR_KN_fr (zdis_fr hfm9 rfl) hRKNm5
  have hRLKm9 := zR_LK_fr (zdis_fr hfm9 rfl) hRLKm5
  have hRLTm9 := zR_LT_fr (zdis_fr hfm9 rfl) hRLTm5
  have hRNSm9 := zR_NS_fr (zdis_fr hfm9 rfl) hRNSm5
  have hRRIm9 := zR_RI_fr (zdis_fr hfm9 rfl) hRRIm5
  have hRRUm9 := zR_RU_fr (zdis_fr hfm9 rfl) hRRUm5
  have hRSEm9 := zR_SE_fr (zdis_fr hfm9 rfl) hRSEm5
  have hRTAm9 := zR_TA_fr (zdis_fr hfm9 rfl) hRTAm5
  have hRTEm9 := zR_TE_fr (zdis_fr hfm9 rfl) hRTEm5
  have hRTPm9 := zR_TP_fr (zdis_fr hfm9 rfl) hRTPm5
  have hRUNm9 := zR_UN_fr (zdis_fr hfm9 rfl) hRUNm5
  have hRUWm9 := zR_UW_fr (zdis_fr hfm9 rfl) hRUWm5
  have hRW1m9 := zR_W1_fr (zdis_fr hfm9 rfl) hRW1m5
  have hRW2m9 := zR_W2_fr (zdis_fr hfm9 rfl) hRW2m5
  have hRWDm9 := zR_WD_fr (zdis_fr hfm9 rfl) hRWDm5
  have heq12 := zz_faultL n (zfr_ap hfm5 zq_1 rfl) hRTPm0 hfm5 rfl hcm5 hcm9
  have hSm9 := zt_Sf (W := []) (fun p => zfr_ap (p := p) hfm9 zq_1 rfl) hSm5
  have r13 : 0 ≤ (m9 3 1) ∧ (m9 3 1) ≤ 700 := zi_rd hIm9 zq_3 zb_2_1
  have e14 : (m9 3 1) = (m0 3 1) := (Eq.trans (zfr_ap hfm9 zq_3 rfl) (zfr_ap hfm5 zq_3 rfl))
  have r15 : 0 ≤ (m9 190 1) ∧ (m9 190 1) ≤ 700 := zi_rd hIm9 zq_190 zb_28_1
  have e16 : (m9 190 1) = (m0 190 1) := (Eq.trans (zfr_ap hfm9 zq_190 rfl) (zfr_ap hfm5 zq_190 rfl))
  exact zw_kex (ih _ ⟨hIm9, hRBNm9, hRC0m9, hRE115m9, hRE63m9, hRE89m9, hRG5m9, hRK10m9, hRK54m9, hRKNm9, hRLTm9, hRNSm9, hRRIm9, hRRUm9, hRSEm9, hRTEm9, hRUNm9, hRUWm9, hRWDm9, hRW1m9, hRW2m9, hRBYm9, hRTAm9, hRTPm9, hRLKm9, by omega, hSm9⟩)
theorem zlw_331 {n : Nat} {K : Nat → Nat → Nat → List zu_v → List zu_v → zu_m → Prop} (hst : zt_HS n K) (hp2 : ∀ (cells slots pc : Nat) (i v : Int) (m : zu_m), pc ∈ [529, 552] → K cells slots (pc + 1) [(3, 1), (5, 3), (40, 190), (53, 233), (0, i), (2, 0), (2, 0)] [] m → K cells slots pc [(3, 1), (5, 3), (40, 190), (53, 233), (0, i), (2, 0), (2, 0)] [(1, v)] m) {cells slots : Nat} {i : Int} {m0 : zu_m} (hN : zt_INV m0) (hi0 : 0 ≤ i) (hi1 : i ≤ (n : Int) - 6) (hn : n ≤ 3072) (ih : ∀ m, zt_INV m → K cells slots 1454 [(3, 1), (5, 3), (40, 190), (53, 233), (0, i), (2, 0), (2, 0)] [] m) : K cells slots 331 [(3, 1), (5, 3), (40, 190), (53, 233), (0, i), (2, 0), (2, 0)] [] m0 := by
  refine hst cells slots [23, 40, 208, 281, 306, 331, 356, 370, 396, 433, 470, 507, 529, 552, 556, 605, 618, 655, 680, 705, 730, 755, 792, 865, 902, 939, 964, 977, 1002, 1028, 1041, 1078, 1103, 1128, 1205, 1230, 1255, 1280, 1341, 1390, 1403, 1416, 1429, 1454] 400 331 _ _ _ ?_
  refine zw_eq (zlr_331 n _ _ i m0) ?_
  obtain ⟨hIm0, hRBNm0, hRC0m0, hRE115m0, hRE63m0, hRE89m0, hRG5m0, hRK10m0, hRK54m0, hRKNm0, hRLTm0, hRNSm0, hRRIm0, hRRUm0, hRSEm0, hRTEm0, hRUNm0, hRUWm0, hRWDm0, hRW1m0, hRW2m0, hRBYm0, hRTAm0, hRTPm0, hRLKm0, hT, hSm0⟩ := hN
  have r1 : 0 ≤ (m0 3 1) ∧ (m0 3 1) ≤ 700 := zi_rd hIm0 zq_3 zb_2_1
  have r2 : 0 ≤ (m0 190 1) ∧ (m0 190 1) ≤ 700 := zi_rd hIm0 zq_190 zb_28_1
  have w3 := zu_w32_id (z := i + 1) (by omega) (by omega)
  refine zw_if ⟨by omega, by omega⟩ ?_
  have r4 := hSm0 (zu_w32 (i + 1))
  refine zw_bd (zw_mono (zk_44 n hIm0 zq_3 ⟨by omega, by omega⟩) (fun v6 m5 hqm5 => ?_))
  obtain ⟨hIm5, hfm5, hvm5⟩ := hqm5
  have hRBNm5 := zR_BN_fr (zdis_fr hfm5 rfl) hRBNm0
  have hRBYm5 := zR_BY_fr (zdis_fr hfm5 rfl) hRBYm0
  have hRC0m5 := zR_C0_fr (zdis_fr hfm5 rfl) hRC0m0
  have hRE115m5 := zR_E115_fr (zdis_fr hfm5 rfl) hRE115m0
  have hRE63m5 := zR_E63_fr (zdis_fr hfm5 rfl) hRE63m0
  have hRE89m5 := zR_E89_fr (zdis_fr hfm5 rfl) hRE89m0
  have hRG5m5 := zR_G5_fr (zdis_fr hfm5 rfl) hRG5m0
  have hRK10m5 := zR_K10_fr (zdis_fr hfm5 rfl) hRK10m0
  have hRK54m5 := zR_K54_fr (zdis_fr hfm5 rfl) hRK54m0
  have hRKNm5 := zR_KN_fr (zdis_fr hfm5 rfl) hRKNm0
  have hRLKm5 := zR_LK_fr (zdis_fr hfm5 rfl) hRLKm0
  have hRLTm5 := zR_LT_fr (zdis_fr hfm5 rfl) hRLTm0
  have hRNSm5 := zR_NS_fr (zdis_fr hfm5 rfl) hRNSm0
  have hRRIm5 := zR_RI_fr (zdis_fr hfm5 rfl) hRRIm0
  have hRRUm5 := zR_RU_fr (zdis_fr hfm5 rfl) hRRUm0
  have hRSEm5 := zR_SE_fr (zdis_fr hfm5 rfl) hRSEm0
  have hRTAm5 := zR_TA_fr (zdis_fr hfm5 rfl) hRTAm0
  have hRTEm5 := zR_TE_fr (zdis_fr hfm5 rfl) hRTEm0
  have hRTPm5 := zR_TP_fr (zdis_fr hfm5 rfl) hRTPm0
  have hRUNm5 := zR_UN_fr (zdis_fr hfm5 rfl) hRUNm0
  have hRUWm5 := zR_UW_fr (zdis_fr hfm5 rfl) hRUWm0
  have hRW1m5 := zR_W1_fr (zdis_fr hfm5 rfl) hRW1m0
  have hRW2m5 := zR_W2_fr (zdis_fr hfm5 rfl) hRW2m0
  have hRWDm5 := zR_WD_fr (zdis_fr hfm5 rfl) hRWDm0
  have hSm5 := zt_Sf (W := []) (fun p => zfr_ap (p := p) hfm5 zq_1 rfl) hSm0
  refine zw_if ⟨by omega, by omega⟩ ?_
  have r7 := hSm5 (zu_w32 (i + 1))
  have e8 : (m5 1 (zu_w32 (i + 1))) = (m0 1 (zu_w32 (i + 1))) := (zfr_ap hfm5 zq_1 rfl)
  refine zw_bd (zw_mono (zk_108 n hIm5 zq_190 ⟨by omega, by omega⟩) (fun v10 m9 hqm9 => ?_))
  obtain ⟨hIm9, hfm9, hvm9⟩ := hqm9
  have hRBNm9 := zR_BN_fr (zdis_fr hfm9 rfl) hRBNm5
  have hRBYm9 := zR_BY_fr (zdis_fr hfm9 rfl) hRBYm5
  have hRC0m9 := zR_C0_fr (zdis_fr hfm9 rfl) hRC0m5
  have hRE115m9 := zR_E115_fr (zdis_fr hfm9 rfl) hRE115m5
  have hRE63m9 := zR_E63_fr (zdis_fr hfm9 rfl) hRE63m5
  have hRE89m9 := zR_E89_fr (zdis_fr hfm9 rfl) hRE89m5
  have hRG5m9 := zR_G5_fr (zdis_fr hfm9 rfl) hRG5m5
  have hRK10m9 := zR_K10_fr (zdis_fr hfm9 rfl) hRK10m5
  have hRK54m9 := zR_K54_fr (zdis_fr hfm9 rfl) hRK54m5
  have hRKNm9 := zR_KN_fr (zdis_fr hfm9 rfl) hRKNm5
  have hRLKm9 := zR_LK_fr (zdis_fr hfm9 rfl) hRLKm5
  have hRLTm9 := zR_LT_fr (zdis_fr hfm9 rfl) hRLTm5
  have hRNSm9 := zR_NS_fr (zdis_fr hfm9 rfl) hRNSm5
  have hRRIm9 := zR_RI_fr (zdis_fr hfm9 rfl) hRRIm5
  have hRRUm9 := zR_RU_fr (zdis_fr hfm9 rfl) hRRUm5
  have hRSEm9 := zR_SE_fr (zdis_fr hfm9 rfl) hRSEm5
  have hRTAm9 := zR_TA_fr (zdis_fr hfm9 rfl) hRTAm5
  have hRTEm9 := zR_TE_fr (zdis_fr hfm9 rfl) hRTEm5
  have hRTPm9 := zR_TP_fr (zdis_fr hfm9 rfl) hRTPm5
  have hRUNm9 := zR_UN_fr (zdis_fr hfm9 rfl) hRUNm5
  have hRUWm9 := zR_UW_fr (zdis_fr hfm9 rfl) hRUWm5
  have hRW1m9 := zR_W1_fr (zdis_fr hfm9 rfl) hRW1m5
  have hRW2m9 := zR_W2_fr (zdis_fr hfm9 rfl) hRW2m5
  have hRWDm9 := zR_WD_fr (zdis_fr hfm9 rfl) hRWDm5
  have hSm9 := zt_Sf (W := []) (fun p => zfr_ap (p := p) hfm9 zq_1 rfl) hSm5
  have r11 : 0 ≤ (m9 3 1) ∧ (m9 3 1) ≤ 700 := zi_rd hIm9 zq_3 zb_2_1
  have e12 : (m9 3 1) = (m0 3 1) := (Eq.trans (zfr_ap hfm9 zq_3 rfl) (zfr_ap hfm5 zq_3 rfl))
  have r13 : 0 ≤ (m9 190 1) ∧ (m9 190 1) ≤ 700 := zi_rd hIm9 zq_190 zb_28_1
  have e14 : (m9 190 1) = (m0 190 1) := (Eq.trans (zfr_ap hfm9 zq_190 rfl) (zfr_ap hfm5 zq_190 rfl))
  exact zw_kex (ih _ ⟨hIm9, hRBNm9, hRC0m9, hRE115m9, hRE63m9, hRE89m9, hRG5m9, hRK10m9, hRK54m9, hRKNm9, hRLTm9, hRNSm9, hRRIm9, hRRUm9, hRSEm9, hRTEm9, hRUNm9, hRUWm9, hRWDm9, hRW1m9, hRW2m9, hRBYm9, hRTAm9, hRTPm9, hRLKm9, by omega, hSm9⟩)
theorem zlw_396 {n : Nat} {K : Nat → Nat → Nat → List zu_v → List zu_v → zu_m → Prop} (hst : zt_HS n K) (hp2 : ∀ (cells slots pc : Nat) (i v : Int) (m : zu_m), pc ∈ [529, 552] → K cells slots (pc + 1) [(3, 1), (5, 3), (40, 190), (53, 233), (0, i), (2, 0), (2, 0)] [] m → K cells slots pc [(3, 1), (5, 3), (40, 190), (53, 233), (0, i), (2, 0), (2, 0)] [(1, v)] m) {cells slots : Nat} {i : Int} {m0 : zu_m} (hN : zt_INV m0) (hi0 : 0 ≤ i) (hi1 : i ≤ (n : Int) - 6) (hn : n ≤ 3072) (ih : ∀ m, zt_INV m → K cells slots 1454 [(3, 1), (5, 3), (40, 190), (53, 233), (0, i), (2, 0), (2, 0)] [] m) : K cells slots 396 [(3, 1), (5, 3), (40, 190), (53, 233), (0, i), (2, 0), (2, 0)] [] m0 := by
  refine hst cells slots [23, 40, 208, 281, 306, 331, 356, 370, 396, 433, 470, 507, 529, 552, 556, 605, 618, 655, 680, 705, 730, 755, 792, 865, 902, 939, 964, 977, 1002, 1028, 1041, 1078, 1103, 1128, 1205, 1230, 1255, 1280, 1341, 1390, 1403, 1416, 1429, 1454] 400 396 _ _ _ ?_
  refine zw_eq (zlr_396 n _ _ i m0) ?_
  obtain ⟨hIm0, hRBNm0, hRC0m0, hRE115m0, hRE63m0, hRE89m0, hRG5m0, hRK10m0, hRK54m0, hRKNm0, hRLTm0, hRNSm0, hRRIm0, hRRUm0, hRSEm0, hRTEm0, hRUNm0, hRUWm0, hRWDm0, hRW1m0, hRW2m0, hRBYm0, hRTAm0, hRTPm0, hRLKm0, hT, hSm0⟩ := hN
  have r1 : 0 ≤ (m0 3 1) ∧ (m0 3 1) ≤ 700 := zi_rd hIm0 zq_3 zb_2_1
  have r2 : 0 ≤ (m0 190 1) ∧ (m0 190 1) ≤ 700 := zi_rd hIm0 zq_190 zb_28_1
  have w3 := zu_w32_id (z := i + 1) (by omega) (by omega)
  refine zw_if ⟨by omega, by omega⟩ ?_
  have r4 := hSm0 (zu_w32 (i + 1))
  have w5 := zu_w32_id (z := i + 2) (by omega) (by omega)
  refine zw_if ⟨by omega, by omega⟩ ?_
  have r6 := hSm0 (zu_w32 (i + 2))
  refine zw_bd (zw_mono (zk_46 n hIm0 zq_3 ⟨by omega, by omega⟩ ⟨by omega, by omega⟩) (fun v8 m7 hqm7 => ?_))
  obtain ⟨hIm7, hfm7, hvm7⟩ := hqm7
  have hRBNm7 := zR_BN_fr (zdis_fr hfm7 rfl) hRBNm0
  have hRBYm7 := zR_BY_fr (zdis_fr hfm7 rfl) hRBYm0
  have hRC0m7 := zR_C0_fr (zdis_fr hfm7 rfl) hRC0m0
  have hRE115m7 := zR_E115_fr (zdis_fr hfm7 rfl) hRE115m0
  have hRE63m7 := zR_E63_fr (zdis_fr hfm7 rfl) hRE63m0
  have hRE89m7 := zR_E89_fr (zdis_fr hfm7 rfl) hRE89m0
  have hRG5m7 := zR_G5_fr (zdis_fr hfm7 rfl) hRG5m0
  have hRK10m7 := zR_K10_fr (zdis_fr hfm7 rfl) hRK10m0
  have hRK54m7 := zR_K54_fr (zdis_fr hfm7 rfl) hRK54m0
  have hRKNm7 := zR_KN_fr (zdis_fr hfm7 rfl) hRKNm0
  have hRLKm7 := zR_LK_fr (zdis_fr hfm7 rfl) hRLKm0
  have hRLTm7 := zR_LT_fr (zdis_fr hfm7 rfl) hRLTm0
  have hRNSm7 := zR_NS_fr (zdis_fr hfm7 rfl) hRNSm0
  have hRRIm7 := zR_RI_fr (zdis_fr hfm7 rfl) hRRIm0
  have hRRUm7 := zR_RU_fr (zdis_fr hfm7 rfl) hRRUm0
  have hRSEm7 := zR_SE_fr (zdis_fr hfm7 rfl) hRSEm0
  have hRTAm7 := zR_TA_fr (zdis_fr hfm7 rfl) hRTAm0
  have hRTEm7 := zR_TE_fr (zdis_fr hfm7 rfl) hRTEm0
  have hRTPm7 := zR_TP_fr (zdis_fr hfm7 rfl) hRTPm0
  have hRUNm7 := zR_UN_fr (zdis_fr hfm7 rfl) hRUNm0
  have hRUWm7 := zR_UW_fr (zdis_fr hfm7 rfl) hRUWm0
  have hRW1m7 := zR_W1_fr (zdis_fr hfm7 rfl) hRW1m0
  have hRW2m7 := zR_W2_fr (zdis_fr hfm7 rfl) hRW2m0
  have hRWDm7 := zR_WD_fr (zdis_fr hfm7 rfl) hRWDm0
  have hSm7 := zt_Sf (W := []) (fun p => zfr_ap (p := p) hfm7 zq_1 rfl) hSm0
  refine zw_if ⟨by omega, by omega⟩ ?_
  have r9 := hSm7 (zu_w32 (i + 1))
  have e10 : (m7 1 (zu_w32 (i + 1))) = (m0 1 (zu_w32 (i + 1))) := (zfr_ap hfm7 zq_1 rfl)
  refine zw_if ⟨by omega, by omega⟩ ?_
  have r11 := hSm7 (zu_w32 (i + 2))
  have e12 : (m7 1 (zu_w32 (i + 2))) = (m0 1 (zu_w32 (i + 2))) := (zfr_ap hfm7 zq_1 rfl)
  refine zw_bd (zw_mono (zk_144 n hIm7 zq_190 ⟨by omega, by omega⟩ ⟨by omega, by omega⟩) (fun v14 m13 hqm13 => ?_))
  obtain ⟨hIm13, hfm13, hvm13⟩ := hqm13
  have hRBNm13 := zR_BN_fr (zdis_fr hfm13 rfl) hRBNm7
  have hRBYm13 := zR_BY_fr (zdis_fr hfm13 rfl) hRBYm7
  have hRC0m13 := zR_C0_fr (zdis_fr hfm13 rfl) hRC0m7
  have hRE115m13 := zR_E115_fr (zdis_fr hfm13 rfl) hRE115m7
  have hRE63m13 := zR_E63_fr (zdis_fr hfm13 rfl) hRE63m7
  have hRE89m13 := zR_E89_fr (zdis_fr hfm13 rfl) hRE89m7
  have hRG5m13 := zR_G5_fr (zdis_fr hfm13 rfl) hRG5m7
  have hRK10m13 := zR_K10_fr (zdis_fr hfm13 rfl) hRK10m7
  have hRK54m13 := zR_K54_fr (zdis_fr hfm13 rfl) hRK54m7
  have hRKNm13 := zR_KN_fr (zdis_fr hfm13 rfl) hRKNm7
  have hRLKm13 := zR_LK_fr (zdis_fr hfm13 rfl) hRLKm7
  have hRLTm13 := zR_LT_fr (zdis_fr hfm13 rfl) hRLTm7
  have hRNSm13 := zR_NS_fr (zdis_fr hfm13 rfl) hRNSm7
  have hRRIm13 := zR_RI_fr (zdis_fr hfm13 rfl) hRRIm7
  have hRRUm13 := zR_RU_fr (zdis_fr hfm13 rfl) hRRUm7
  have hRSEm13 := zR_SE_fr (zdis_fr hfm13 rfl) hRSEm7
  have hRTAm13 := zR_TA_fr (zdis_fr hfm13 rfl) hRTAm7
  have hRTEm13 := zR_TE_fr (zdis_fr hfm13 rfl) hRTEm7
  have hRTPm13 := zR_TP_fr (zdis_fr hfm13 rfl) hRTPm7
  have hRUNm13 := zR_UN_fr (zdis_fr hfm13 rfl) hRUNm7
  have hRUWm13 := zR_UW_fr (zdis_fr hfm13 rfl) hRUWm7
  have hRW1m13 := zR_W1_fr (zdis_fr hfm13 rfl) hRW1m7
  have hRW2m13 := zR_W2_fr (zdis_fr hfm13 rfl) hRW2m7
  have hRWDm13 := zR_WD_fr (zdis_fr hfm13 rfl) hRWDm7
  have hSm13 := zt_Sf (W := []) (fun p => zfr_ap (p := p) hfm13 zq_1 rfl) hSm7
  have r15 : 0 ≤ (m13 3 1) ∧ (m13 3 1) ≤ 700 := zi_rd hIm13 zq_3 zb_2_1
  have e16 : (m13 3 1) = (m0 3 1) := (Eq.trans (zfr_ap hfm13 zq_3 rfl) (zfr_ap hfm7 zq_3 rfl))
  have r17 : 0 ≤ (m13 190 1) ∧ (m13 190 1) ≤ 700 := zi_rd hIm13 zq_190 zb_28_1
  have e18 : (m13 190 1) = (m0 190 1) := (Eq.trans (zfr_ap hfm13 zq_190 rfl) (zfr_ap hfm7 zq_190 rfl))
  exact zw_kex (ih _ ⟨hIm13, hRBNm13, hRC0m13, hRE115m13, hRE63m13, hRE89m13, hRG5m13, hRK10m13, hRK54m13, hRKNm13, hRLTm13, hRNSm13, hRRIm13, hRRUm13, hRSEm13, hRTEm13, hRUNm13, hRUWm13, hRWDm13, hRW1m13, hRW2m13, hRBYm13, hRTAm13, hRTPm13, hRLKm13, by omega, hSm13⟩)
theorem zlw_433 {n : Nat} {K : Nat → Nat → Nat → List zu_v → List zu_v → zu_m → Prop} (hst : zt_HS n K) (hp2 : ∀ (cells slots pc : Nat) (i v : Int) (m : zu_m), pc ∈ [529, 552] → K cells slots (pc + 1) [(3, 1), (5, 3), (40, 190), (53, 233), (0, i), (2, 0), (2, 0)] [] m → K cells slots pc [(3, 1), (5, 3), (40, 190), (53, 233), (0, i), (2, 0), (2, 0)] [(1, v)] m) {cells slots : Nat} {i : Int} {m0 : zu_m} (hN : zt_INV m0) (hi0 : 0 ≤ i) (hi1 : i ≤ (n : Int) - 6) (hn : n ≤ 3072) (ih : ∀ m, zt_INV m → K cells slots 1454 [(3, 1), (5, 3), (40, 190), (53, 233), (0, i), (2, 0), (2, 0)] [] m) : K cells slots 433 [(3, 1), (5, 3), (40, 190), (53, 233), (0, i), (2, 0), (2, 0)] [] m0 := by
  refine hst cells slots [23, 40, 208, 281, 306, 331, 356, 370, 396, 433, 470, 507, 529, 552, 556, 605, 618, 655, 680, 705, 730, 755, 792, 865, 902, 939, 964, 977, 1002, 1028, 1041, 1078, 1103, 1128, 1205, 1230, 1255, 1280, 1341, 1390, 1403, 1416, 1429, 1454] 400 433 _ _ _ ?_
  refine zw_eq (zlr_433 n _ _ i m0) ?_
  obtain ⟨hIm0, hRBNm0, hRC0m0, hRE115m0, hRE63m0, hRE89m0, hRG5m0, hRK10m0, hRK54m0, hRKNm0, hRLTm0, hRNSm0, hRRIm0, hRRUm0, hRSEm0, hRTEm0, hRUNm0, hRUWm0, hRWDm0, hRW1m0, hRW2m0, hRBYm0, hRTAm0, hRTPm0, hRLKm0, hT, hSm0⟩ := hN
  have r1 : 0 ≤ (m0 3 1) ∧ (m0 3 1) ≤ 700 := zi_rd hIm0 zq_3 zb_2_1
  have r2 : 0 ≤ (m0 190 1) ∧ (m0 190 1) ≤ 700 := zi_rd hIm0 zq_190 zb_28_1
  have w3 := zu_w32_id (z := i + 1) (by omega) (by omega)
  refine zw_if ⟨by omega, by omega⟩ ?_
  have r4 := hSm0 (zu_w32 (i + 1))
  have w5 := zu_w32_id (z := i + 2) (by omega) (by omega)
  refine zw_if ⟨by omega, by omega⟩ ?_
  have r6 := hSm0 (zu_w32 (i + 2))
  refine zw_bd (zw_mono (zk_47 n hIm0 zq_3 ⟨by omega, by omega⟩ ⟨by omega, by omega⟩ hRK54m0) (fun v8 m7 hqm7 => ?_))
  obtain ⟨hIm7, hfm7, hvm7⟩ := hqm7
  obtain ⟨hRK54m7, hvm7⟩ := hvm7
  have hRBNm7 := zR_BN_fr (zdis_fr hfm7 rfl) hRBNm0
  have hRBYm7 := zR_BY_fr (zdis_fr hfm7 rfl) hRBYm0
  have hRC0m7 := zR_C0_fr (zdis_fr hfm7 rfl) hRC0m0
  have hRE115m7 := zR_E115_fr (zdis_fr hfm7 rfl) hRE115m0
  have hRE63m7 := zR_E63_fr (zdis_fr hfm7 rfl) hRE63m0
  have hRE89m7 := zR_E89_fr (zdis_fr hfm7 rfl) hRE89m0
  have hRG5m7 := zR_G5_fr (zdis_fr hfm7 rfl) hRG5m0
  have hRK10m7 := zR_K10_fr (zdis_fr hfm7 rfl) hRK10m0
  have hRKNm7 := zR_KN_fr (zdis_fr hfm7 rfl) hRKNm0
  have hRLKm7 := zR_LK_fr (zdis_fr hfm7 rfl) hRLKm0
  have hRLTm7 := zR_LT_fr (zdis_fr hfm7 rfl) hRLTm0
  have hRNSm7 := zR_NS_fr (zdis_fr hfm7 rfl) hRNSm0
  have hRRIm7 := zR_RI_fr (zdis_fr hfm7 rfl) hRRIm0
  have hRRUm7 := zR_RU_fr (zdis_fr hfm7 rfl) hRRUm0
  have hRSEm7 := zR_SE_fr (zdis_fr hfm7 rfl) hRSEm0
  have hRTAm7 := zR_TA_fr (zdis_fr hfm7 rfl) hRTAm0
  have hRTEm7 := zR_TE_fr (zdis_fr hfm7 rfl) hRTEm0
  have hRTPm7 := zR_TP_fr (zdis_fr hfm7 rfl) hRTPm0
  have hRUNm7 := zR_UN_fr (zdis_fr hfm7 rfl) hRUNm0
  have hRUWm7 := zR_UW_fr (zdis_fr hfm7 rfl) hRUWm0
  have hRW1m7 := zR_W1_fr (zdis_fr hfm7 rfl) hRW1m0
  have hRW2m7 := zR_W2_fr (zdis_fr hfm7 rfl) hRW2m0
  have hRWDm7 := zR_WD_fr (zdis_fr hfm7 rfl) hRWDm0
  have hSm7 := zt_Sf (W := []) (fun p => zfr_ap (p := p) hfm7 zq_1 rfl) hSm0
  refine zw_if ⟨by omega, by omega⟩ ?_
  have r9 := hSm7 (zu_w32 (i + 1))
  have e10 : (m7 1 (zu_w32 (i + 1))) = (m0 1 (zu_w32 (i + 1))) := (zfr_ap hfm7 zq_1 rfl)
  refine zw_if ⟨by omega, by omega⟩ ?_
  have r11 := hSm7 (zu_w32 (i + 2))
  have e12 : (m7 1 (zu_w32 (i + 2))) = (m0 1 (zu_w32 (i + 2))) := (zfr_ap hfm7 zq_1 rfl)
  refine zw_bd (zw_mono (zk_145 n hIm7 zq_190 ⟨by omega, by omega⟩ ⟨by omega, by omega⟩ hRKNm7 hRLTm7) (fun v14 m13 hqm13 => ?_))
  obtain ⟨hIm13, hfm13, hvm13⟩ := hqm13
  obtain ⟨hRKNm13, hRLTm13, hvm13⟩ := hvm13
  have hRBNm13 := zR_BN_fr (zdis_fr hfm13 rfl) hRBNm7
  have hRBYm13 := zR_BY_fr (zdis_fr hfm13 rfl) hRBYm7
  have hRC0m13 := zR_C0_fr (zdis_fr hfm13 rfl) hRC0m7
  have hRE115m13 := zR_E115_fr (zdis_fr hfm13 rfl) hRE115m7
  have hRE63m13 := zR_E63_fr (zdis_fr hfm13 rfl) hRE63m7
  have hRE89m13 := zR_E89_fr (zdis_fr hfm13 rfl) hRE89m7
  have hRG5m13 := zR_G5_fr (zdis_fr hfm13 rfl) hRG5m7
  have hRK10m13 := zR_K10_fr (zdis_fr hfm13 rfl) hRK10m7
  have hRK54m13 := zR_K54_fr (zdis_fr hfm13 rfl) hRK54m7
  have hRLKm13 := zR_LK_fr (zdis_fr hfm13 rfl) hRLKm7
  have hRNSm13 := zR_NS_fr (zdis_fr hfm13 rfl) hRNSm7
  have hRRIm13 := zR_RI_fr (zdis_fr hfm13 rfl) hRRIm7
  have hRRUm13 := zR_RU_fr (zdis_fr hfm13 rfl) hRRUm7
  have hRSEm13 := zR_SE_fr (zdis_fr hfm13 rfl) hRSEm7
  have hRTAm13 := zR_TA_fr (zdis_fr hfm13 rfl) hRTAm7
  have hRTEm13 := zR_TE_fr (zdis_fr hfm13 rfl) hRTEm7
  have hRTPm13 := zR_TP_fr (zdis_fr hfm13 rfl) hRTPm7
  have hRUNm13 := zR_UN_fr (zdis_fr hfm13 rfl) hRUNm7
  have hRUWm13 := zR_UW_fr (zdis_fr hfm13 rfl) hRUWm7
  have hRW1m13 := zR_W1_fr (zdis_fr hfm13 rfl) hRW1m7
  have hRW2m13 := zR_W2_fr (zdis_fr hfm13 rfl) hRW2m7
  have hRWDm13 := zR_WD_fr (zdis_fr hfm13 rfl) hRWDm7
  have hSm13 := zt_Sf (W := []) (fun p => zfr_ap (p := p) hfm13 zq_1 rfl) hSm7
  have r15 : 0 ≤ (m13 3 1) ∧ (m13 3 1) ≤ 700 := zi_rd hIm13 zq_3 zb_2_1
  have e16 : (m13 3 1) = (m0 3 1) := (Eq.trans (zfr_ap hfm13 zq_3 rfl) (zfr_ap hfm7 zq_3 rfl))
  have r17 : 0 ≤ (m13 190 1) ∧ (m13 190 1) ≤ 700 := zi_rd hIm13 zq_190 zb_28_1
  have e18 : (m13 190 1) = (m0 190 1) := (Eq.trans (zfr_ap hfm13 zq_190 rfl) (zfr_ap hfm7 zq_190 rfl))
  exact zw_kex (ih _ ⟨hIm13, hRBNm13, hRC0m13, hRE115m13, hRE63m13, hRE89m13, hRG5m13, hRK10m13, hRK54m13, hRKNm13, hRLTm13, hRNSm13, hRRIm13, hRRUm13, hRSEm13, hRTEm13, hRUNm13, hRUWm13, hRWDm13, hRW1m13, hRW2m13, hRBYm13, hRTAm13, hRTPm13, hRLKm13, by omega, hSm13⟩)
theorem zlw_470 {n : Nat} {K : Nat → Nat → Nat → List zu_v → List zu_v → zu_m → Prop} (hst : zt_HS n K) (hp2 : ∀ (cells slots pc : Nat) (i v : Int) (m : zu_m), pc ∈ [529, 552] → K cells slots (pc + 1) [(3, 1), (5, 3), (40, 190), (53, 233), (0, i), (2, 0), (2, 0)] [] m → K cells slots pc [(3, 1), (5, 3), (40, 190), (53, 233), (0, i), (2, 0), (2, 0)] [(1, v)] m) {cells slots : Nat} {i : Int} {m0 : zu_m} (hN : zt_INV m0) (hi0 : 0 ≤ i) (hi1 : i ≤ (n : Int) - 6) (hn : n ≤ 3072) (ih : ∀ m, zt_INV m → K cells slots 1454 [(3, 1), (5, 3), (40, 190), (53, 233), (0, i), (2, 0), (2, 0)] [] m) : K cells slots 470 [(3, 1), (5, 3), (40, 190), (53, 233), (0, i), (2, 0), (2, 0)] [] m0 := by
  refine hst cells slots [23, 40, 208, 281, 306, 331, 356, 370, 396, 433, 470, 507, 529, 552, 556, 605, 618, 655, 680, 705, 730, 755, 792, 865, 902, 939, 964, 977, 1002, 1028, 1041, 1078, 1103, 1128, 1205, 1230, 1255, 1280, 1341, 1390, 1403, 1416, 1429, 1454] 400 470 _ _ _ ?_
  refine zw_eq (zlr_470 n _ _ i m0) ?_
  obtain ⟨hIm0, hRBNm0, hRC0m0, hRE115m0, hRE63m0, hRE89m0, hRG5m0, hRK10m0, hRK54m0, hRKNm0, hRLTm0, hRNSm0, hRRIm0, hRRUm0, hRSEm0, hRTEm0, hRUNm0, hRUWm0, hRWDm0, hRW1m0, hRW2m0, hRBYm0, hRTAm0, hRTPm0, hRLKm0, hT, hSm0⟩ := hN
  have r1 : 0 ≤ (m0 3 1) ∧ (m0 3 1) ≤ 700 := zi_rd hIm0 zq_3 zb_2_1
  have r2 : 0 ≤ (m0 190 1) ∧ (m0 190 1) ≤ 700 := zi_rd hIm0 zq_190 zb_28_1
  have w3 := zu_w32_id (z := i + 1) (by omega) (by omega)
  refine zw_if ⟨by omega, by omega⟩ ?_
  have r4 := hSm0 (zu_w32 (i + 1))
  have w5 := zu_w32_id (z := i + 2) (by omega) (by omega)
  refine zw_if ⟨by omega, by omega⟩ ?_
  have r6 := hSm0 (zu_w32 (i + 2))
  refine zw_bd (zw_mono (zk_48 n hIm0 zq_3 ⟨by omega, by omega⟩ ⟨by omega, by omega⟩ hRK54m0) (fun v8 m7 hqm7 => ?_))
  obtain ⟨hIm7, hfm7, hvm7⟩ := hqm7
  obtain ⟨hRK54m7, hvm7⟩ := hvm7
  have hRBNm7 := zR_BN_fr (zdis_fr hfm7 rfl) hRBNm0
  have hRBYm7 := zR_BY_fr (zdis_fr hfm7 rfl) hRBYm0
  have hRC0m7 := zR_C0_fr (zdis_fr hfm7 rfl) hRC0m0
  have hRE115m7 := zR_E115_fr (zdis_fr hfm7 rfl) hRE115m0
  have hRE63m7 := zR_E63_fr (zdis_fr hfm7 rfl) hRE63m0
  have hRE89m7 := zR_E89_fr (zdis_fr hfm7 rfl) hRE89m0
  have hRG5m7 := zR_G5_fr (zdis_fr hfm7 rfl) hRG5m0
  have hRK10m7 := zR_K10_fr (zdis_fr hfm7 rfl) hRK10m0
  have hRKNm7 := zR_KN_fr (zdis_fr hfm7 rfl) hRKNm0
  have hRLKm7 := zR_LK_fr (zdis_fr hfm7 rfl) hRLKm0
  have hRLTm7 := zR_LT_fr (zdis_fr hfm7 rfl) hRLTm0
  have hRNSm7 := zR_NS_fr (zdis_fr hfm7 rfl) hRNSm0
  have hRRIm7 := zR_RI_fr (zdis_fr hfm7 rfl) hRRIm0
  have hRRUm7 := zR_RU_fr (zdis_fr hfm7 rfl) hRRUm0
  have hRSEm7 := zR_SE_fr (zdis_fr hfm7 rfl) hRSEm0
  have hRTAm7 := zR_TA_fr (zdis_fr hfm7 rfl) hRTAm0
  have hRTEm7 := zR_TE_fr (zdis_fr hfm7 rfl) hRTEm0
  have hRTPm7 := zR_TP_fr (zdis_fr hfm7 rfl) hRTPm0
  have hRUNm7 := zR_UN_fr (zdis_fr hfm7 rfl) hRUNm0
  have hRUWm7 := zR_UW_fr (zdis_fr hfm7 rfl) hRUWm0
  have hRW1m7 := zR_W1_fr (zdis_fr hfm7 rfl) hRW1m0
  have hRW2m7 := zR_W2_fr (zdis_fr hfm7 rfl) hRW2m0
  have hRWDm7 := zR_WD_fr (zdis_fr hfm7 rfl) hRWDm0
  have hSm7 := zt_Sf (W := []) (fun p => zfr_ap (p := p) hfm7 zq_1 rfl) hSm0
  refine zw_if ⟨by omega, by omega⟩ ?_
  have r9 := hSm7 (zu_w32 (i + 1))
  have e10 : (m7 1 (zu_w32 (i + 1))) = (m0 1 (zu_w32 (i + 1))) := (zfr_ap hfm7 zq_1 rfl)
  refine zw_if ⟨by omega, by omega⟩ ?_
  have r11 := hSm7 (zu_w32 (i + 2))
  have e12 : (m7 1 (zu_w32 (i + 2))) = (m0 1 (zu_w32 (i + 2))) := (zfr_ap hfm7 zq_1 rfl)
  refine zw_bd (zw_mono (zk_146 n hIm7 zq_190 ⟨by omega, by omega⟩ ⟨by omega, by omega⟩ hRKNm7 hRLTm7) (fun v14 m13 hqm13 => ?_))
  obtain ⟨hIm13, hfm13, hvm13⟩ := hqm13
  obtain ⟨hRKNm13, hRLTm13, hvm13⟩ := hvm13
  have hRBNm13 := zR_BN_fr (zdis_fr hfm13 rfl) hRBNm7
  have hRBYm13 := zR_BY_fr (zdis_fr hfm13 rfl) hRBYm7
  have hRC0m13 := zR_C0_fr (zdis_fr hfm13 rfl) hRC0m7
  have hRE115m13 := zR_E115_fr (zdis_fr hfm13 rfl) hRE115m7
  have hRE63m13 := zR_E63_fr (zdis_fr hfm13 rfl) hRE63m7
  have hRE89m13 := zR_E89_fr (zdis_fr hfm13 rfl) hRE89m7
  have hRG5m13 := zR_G5_fr (zdis_fr hfm13 rfl) hRG5m7
  have hRK10m13 := zR_K10_fr (zdis_fr hfm13 rfl) hRK10m7
  have hRK54m13 := zR_K54_fr (zdis_fr hfm13 rfl) hRK54m7
  have hRLKm13 := zR_LK_fr (zdis_fr hfm13 rfl) hRLKm7
  have hRNSm13 := zR_NS_fr (zdis_fr hfm13 rfl) hRNSm7
  have hRRIm13 := zR_RI_fr (zdis_fr hfm13 rfl) hRRIm7
  have hRRUm13 := zR_RU_fr (zdis_fr hfm13 rfl) hRRUm7
  have hRSEm13 := zR_SE_fr (zdis_fr hfm13 rfl) hRSEm7
  have hRTAm13 := zR_TA_fr (zdis_fr hfm13 rfl) hRTAm7
  have hRTEm13 := zR_TE_fr (zdis_fr hfm13 rfl) hRTEm7
  have hRTPm13 := zR_TP_fr (zdis_fr hfm13 rfl) hRTPm7
  have hRUNm13 := zR_UN_fr (zdis_fr hfm13 rfl) hRUNm7
  have hRUWm13 := zR_UW_fr (zdis_fr hfm13 rfl) hRUWm7
  have hRW1m13 := zR_W1_fr (zdis_fr hfm13 rfl) hRW1m7
  have hRW2m13 := zR_W2_fr (zdis_fr hfm13 rfl) hRW2m7
  have hRWDm13 := zR_WD_fr (zdis_fr hfm13 rfl) hRWDm7
  have hSm13 := zt_Sf (W := []) (fun p => zfr_ap (p := p) hfm13 zq_1 rfl) hSm7
  have r15 : 0 ≤ (m13 3 1) ∧ (m13 3 1) ≤ 700 := zi_rd hIm13 zq_3 zb_2_1
  have e16 : (m13 3 1) = (m0 3 1) := (Eq.trans (zfr_ap hfm13 zq_3 rfl) (zfr_ap hfm7 zq_3 rfl))
  have r17 : 0 ≤ (m13 190 1) ∧ (m13 190 1) ≤ 700 := zi_rd hIm13 zq_190 zb_28_1
  have e18 : (m13 190 1) = (m0 190 1) := (Eq.trans (zfr_ap hfm13 zq_190 rfl) (zfr_ap hfm7 zq_190 rfl))
  exact zw_kex (ih _ ⟨hIm13, hRBNm13, hRC0m13, hRE115m13, hRE63m13, hRE89m13, hRG5m13, hRK10m13, hRK54m13, hRKNm13, hRLTm13, hRNSm13, hRRIm13, hRRUm13, hRSEm13, hRTEm13, hRUNm13, hRUWm13, hRWDm13, hRW1m13, hRW2m13, hRBYm13, hRTAm13, hRTPm13, hRLKm13, by omega, hSm13⟩)
theorem zlw_507 {n : Nat} {K : Nat → Nat → Nat → List zu_v → List zu_v → zu_m → Prop} (hst : zt_HS n K) (hp2 : ∀ (cells slots pc : Nat) (i v : Int) (m : zu_m), pc ∈ [529, 552] → K cells slots (pc + 1) [(3, 1), (5, 3), (40, 190), (53, 233), (0, i), (2, 0), (2, 0)] [] m → K cells slots pc [(3, 1), (5, 3), (40, 190), (53, 233), (0, i), (2, 0), (2, 0)] [(1, v)] m) {cells slots : Nat} {i : Int} {m0 : zu_m} (hN : zt_INV m0) (hi0 : 0 ≤ i) (hi1 : i ≤ (n : Int) - 6) (hn : n ≤ 3072) (ih : ∀ m, zt_INV m → K cells slots 1454 [(3, 1), (5, 3), (40, 190), (53, 233), (0, i), (2, 0), (2, 0)] [] m) : K cells slots 507 [(3, 1), (5, 3), (40, 190), (53, 233), (0, i), (2, 0), (2, 0)] [] m0 := by
  refine hst cells slots [23, 40, 208, 281, 306, 331, 356, 370, 396, 433, 470, 507, 529, 552, 556, 605, 618, 655, 680, 705, 730, 755, 792, 865, 902, 939, 964, 977, 1002, 1028, 1041, 1078, 1103, 1128, 1205, 1230, 1255, 1280, 1341, 1390, 1403, 1416, 1429, 1454] 400 507 _ _ _ ?_
  refine zw_eq (zlr_507 n _ _ i m0) ?_
  obtain ⟨hIm0, hRBNm0, hRC0m0, hRE115m0, hRE63m0, hRE89m0, hRG5m0, hRK10m0, hRK54m0, hRKNm0, hRLTm0, hRNSm0, hRRIm0, hRRUm0, hRSEm0, hRTEm0, hRUNm0, hRUWm0, hRWDm0, hRW1m0, hRW2m0, hRBYm0, hRTAm0, hRTPm0, hRLKm0, hT, hSm0⟩ := hN
  have r1 : 0 ≤ (m0 3 1) ∧ (m0 3 1) ≤ 700 := zi_rd hIm0 zq_3 zb_2_1
  have r2 : 0 ≤ (m0 190 1) ∧ (m0 190 1) ≤ 700 := zi_rd hIm0 zq_190 zb_28_1
  have w3 := zu_w32_id (z := i + 1) (by omega) (by omega)
  refine zw_if ⟨by omega, by omega⟩ ?_
  have r4 := hSm0 (zu_w32 (i + 1))
  have w5 := zu_w32_id (z := i + 2) (by omega) (by omega)
  refine zw_if ⟨by omega, by omega⟩ ?_
  have r6 := hSm0 (zu_w32 (i + 2))
  have w7 := zu_w32_id (z := i + 3) (by omega) (by omega)
  refine zw_if ⟨by omega, by omega⟩ ?_
  have r8 := hSm0 (zu_w32 (i + 3))
  refine zw_bd (zw_mono (zk_49 n hIm0 zq_3 ⟨by omega, by omega⟩ ⟨by omega, by omega⟩ ⟨by omega, by omega⟩ hRK54m0) (fun v10 m9 hqm9 => ?_))
  obtain ⟨hIm9, hfm9, hvm9⟩ := hqm9
  obtain ⟨hRK54m9, hvm9⟩ := hvm9
  have hRBNm9 := zR_BN_fr (zdis_fr hfm9 rfl) hRBNm0
  have hRBYm9 := zR_BY_fr (zdis_fr hfm9 rfl) hRBYm0
  have hRC0m9 := zR_C0_fr (zdis_fr hfm9 rfl) hRC0m0
  have hRE115m9 := zR_E115_fr (zdis_fr hfm9 rfl) hRE115m0
  have hRE63m9 := zR_E63_fr (zdis_fr hfm9 rfl) hRE63m0
  have hRE89m9 := zR_E89_fr (zdis_fr hfm9 rfl) hRE89m0
  have hRG5m9 := zR_G5_fr (zdis_fr hfm9 rfl) hRG5m0
  have hRK10m9 := zR_K10_fr (zdis_fr hfm9 rfl) hRK10m0
  have hRKNm9 := zR_KN_fr (zdis_fr hfm9 rfl) hRKNm0
  have hRLKm9 := zR_LK_fr (zdis_fr hfm9 rfl) hRLKm0
  have hRLTm9 := zR_LT_fr (zdis_fr hfm9 rfl) hRLTm0
  have hRNSm9 := zR_NS_fr (zdis_fr hfm9 rfl) hRNSm0
  have hRRIm9 := zR_RI_fr (zdis_fr hfm9 rfl) hRRIm0
  have hRRUm9 := zR_RU_fr (zdis_fr hfm9 rfl) hRRUm0
  have hRSEm9 := zR_SE_fr (zdis_fr hfm9 rfl) hRSEm0
  have hRTAm9 := zR_TA_fr (zdis_fr hfm9 rfl) hRTAm0
  have hRTEm9 := zR_TE_fr (zdis_fr hfm9 rfl) hRTEm0
  have hRTPm9 := zR_TP_fr (zdis_fr hfm9 rfl) hRTPm0
  have hRUNm9 := zR_UN_fr (zdis_fr hfm9 rfl) hRUNm0
  have hRUWm9 := zR_UW_fr (zdis_fr hfm9 rfl) hRUWm0
  have hRW1m9 := zR_W1_fr (zdis_fr hfm9 rfl) hRW1m0
  have hRW2m9 := zR_W2_fr (zdis_fr hfm9 rfl) hRW2m0
  have hRWDm9 := zR_WD_fr (zdis_fr hfm9 rfl) hRWDm0
  have hSm9 := zt_Sf (W := []) (fun p => zfr_ap (p := p) hfm9 zq_1 rfl) hSm0
  have r11 : 0 ≤ (m9 3 1) ∧ (m9 3 1) ≤ 700 := zi_rd hIm9 zq_3 zb_2_1
  have e12 : (m9 3 1) = (m0 3 1) := (zfr_ap hfm9 zq_3 rfl)
  have r13 : 0 ≤ (m9 190 1) ∧ (m9 190 1) ≤ 700 := zi_rd hIm9 zq_190 zb_28_1
  have e14 : (m9 190 1) = (m0 190 1) := (zfr_ap hfm9 zq_190 rfl)
  exact zw_kex (hp2 _ _ _ _ _ _ (by decide) (zlw_530 hst hp2 ⟨hIm9, hRBNm9, hRC0m9, hRE115m9, hRE63m9, hRE89m9, hRG5m9, hRK10m9, hRK54m9, hRKNm9, hRLTm9, hRNSm9, hRRIm9, hRRUm9, hRSEm9, hRTEm9, hRUNm9, hRUWm9, hRWDm9, hRW1m9, hRW2m9, hRBYm9, hRTAm9, hRTPm9, hRLKm9, by omega, hSm9⟩ hi0 hi1 hn ih))
theorem zlw_556 {n : Nat} {K : Nat → Nat → Nat → List zu_v → List zu_v → zu_m → Prop} (hst : zt_HS n K) (hp2 : ∀ (cells slots pc : Nat) (i v : Int) (m : zu_m), pc ∈ [529, 552] → K cells slots (pc + 1) [(3, 1), (5, 3), (40, 190), (53, 233), (0, i), (2, 0), (2, 0)] [] m → K cells slots pc [(3, 1), (5, 3), (40, 190), (53, 233), (0, i), (2, 0), (2, 0)] [(1, v)] m) {cells slots : Nat} {i : Int} {m0 : zu_m} (hN : zt_INV m0) (hi0 : 0 ≤ i) (hi1 : i ≤ (n : Int) - 6) (hn : n ≤ 3072) (ih : ∀ m, zt_INV m → K cells slots 1454 [(3, 1), (5, 3), (40, 190), (53, 233), (0, i), (2, 0), (2, 0)] [] m) : K cells slots 556 [(3, 1), (5, 3), (40, 190), (53, 233), (0, i), (2, 0), (2, 0)] [] m0 := by
  refine hst cells slots [23, 40, 208, 281, 306, 331, 356, 370, 396, 433, 470, 507, 529, 552, 556, 605, 618, 655, 680, 705, 730, 755, 792, 865, 902, 939, 964, 977, 1002, 1028, 1041, 1078, 1103, 1128, 1205, 1230, 1255, 1280, 1341, 1390, 1403, 1416, 1429, 1454] 400 556 _ _ _ ?_
  refine zw_eq (zlr_556 n _ _ i m0) ?_
  obtain ⟨hIm0, hRBNm0, hRC0m0, hRE115m0, hRE63m0, hRE89m0, hRG5m0, hRK10m0, hRK54m0, hRKNm0, hRLTm0, hRNSm0, hRRIm0, hRRUm0, hRSEm0, hRTEm0, hRUNm0, hRUWm0, hRWDm0, hRW1m0, hRW2m0, hRBYm0, hRTAm0, hRTPm0, hRLKm0, hT, hSm0⟩ := hN
  have r1 : 0 ≤ (m0 3 1) ∧ (m0 3 1) ≤ 700 := zi_rd hIm0 zq_3 zb_2_1
  have r2 : 0 ≤ (m0 190 1) ∧ (m0 190 1) ≤ 700 := zi_rd hIm0 zq_190 zb_28_1
  have w3 := zu_w32_id (z := i + 1) (by omega) (by omega)
  refine zw_if ⟨by omega, by omega⟩ ?_
  have r4 := hSm0 (zu_w32 (i + 1))
  have w5 := zu_w32_id (z := i + 2) (by omega) (by omega)
  refine zw_if ⟨by omega, by omega⟩ ?_
  have r6 := hSm0 (zu_w32 (i + 2))
  have w7 := zu_w32_id (z := i + 3) (by omega) (by omega)
  refine zw_if ⟨by omega, by omega⟩ ?_
  have r8 := hSm0 (zu_w32 (i + 3))
  refine zw_bd (zw_mono (zk_50 n hIm0 zq_3 ⟨by omega, by omega⟩ ⟨by omega, by omega⟩ ⟨by omega, by omega⟩ hRUNm0 hRUWm0) (fun v10 m9 hqm9 => ?_))
  obtain ⟨hIm9, hfm9, hvm9⟩ := hqm9
  obtain ⟨hRUNm9, hRUWm9, hvm9⟩ := hvm9
  have hRBNm9 := zR_BN_fr (zdis_fr hfm9 rfl) hRBNm0
  have hRBYm9 := zR_BY_fr (zdis_fr hfm9 rfl) hRBYm0
  have hRC0m9 := zR_C0_fr (zdis_fr hfm9 rfl) hRC0m0
  have hRE115m9 := zR_E115_fr (zdis_fr hfm9 rfl) hRE115m0
  have hRE63m9 := zR_E63_fr (zdis_fr hfm9 rfl) hRE63m0
  have hRE89m9 := zR_E89_fr (zdis_fr hfm9 rfl) hRE89m0
  have hRG5m9 := zR_G5_fr (zdis_fr hfm9 rfl) hRG5m0
  have hRK10m9 := zR_K10_fr (zdis_fr hfm9 rfl) hRK10m0
  have hRK54m9 := zR_K54_fr (zdis_fr hfm9 rfl) hRK54m0
  have hRKNm9 := zR_KN_fr (zdis_fr hfm9 rfl) hRKNm0
  have hRLKm9 := zR_LK_fr (zdis_fr hfm9 rfl) hRLKm0
  have hRLTm9 := zR_LT_fr (zdis_fr hfm9 rfl) hRLTm0
  have hRNSm9 := zR_NS_fr (zdis_fr hfm9 rfl) hRNSm0
  have hRRIm9 := zR_RI_fr (zdis_fr hfm9 rfl) hRRIm0
  have hRRUm9 := zR_RU_fr (zdis_fr hfm9 rfl) hRRUm0
  have hRSEm9 := zR_SE_fr (zdis_fr hfm9 rfl) hRSEm0
  have hRTAm9 := zR_TA_fr (zdis_fr hfm9 rfl) hRTAm0
  have hRTEm9 := zR_TE_fr (zdis_fr hfm9 rfl) hRTEm0
  have hRTPm9 := zR_TP_fr (zdis_fr hfm9 rfl) hRTPm0
  have hRW1m9 := zR_W1_fr (zdis_fr hfm9 rfl) hRW1m0
  have hRW2m9 := zR_W2_fr (zdis_fr hfm9 rfl) hRW2m0
  have hRWDm9 := zR_WD_fr (zdis_fr hfm9 rfl) hRWDm0
  have hSm9 := zt_Sf (W := []) (fun p => zfr_ap (p := p) hfm9 zq_1 rfl) hSm0
  refine zw_if ⟨by omega, by omega⟩ ?_
  have r11 := hSm9 (zu_w32 (i + 1))
  have e12 : (m9 1 (zu_w32 (i + 1))) = (m0 1 (zu_w32 (i + 1))) := (zfr_ap hfm9 zq_1 rfl)
  refine zw_if ⟨by omega, by omega⟩ ?_
  have r13 := hSm9 (zu_w32 (i + 2))
  have e14 : (m9 1 (zu_w32 (i + 2))) = (m0 1 (zu_w32 (i + 2))) := (zfr_ap hfm9 zq_1 rfl)
  refine zw_if ⟨by omega, by omega⟩ ?_
  have r15 := hSm9 (zu_w32 (i + 3))
  have e16 : (m9 1 (zu_w32 (i + 3))) = (m0 1 (zu_w32 (i + 3))) := (zfr_ap hfm9 zq_1 rfl)
  refine zw_bd (zw_mono (zk_148 n hIm9 zq_190 ⟨by omega, by omega⟩ ⟨by omega, by omega⟩ ⟨by omega, by omega⟩ hRRUm9 hRSEm9 hRTEm9) (fun v18 m17 hqm17 => ?_))
  obtain ⟨hIm17, hfm17, hvm17⟩ := hqm17
  obtain ⟨hRRUm17, hRSEm17, hRTEm17, hvm17⟩ := hvm17
  have hRBNm17 := zR_BN_fr (zdis_fr hfm17 rfl) hRBNm9
  have hRBYm17 := zR_BY_fr (zdis_fr hfm17 rfl) hRBYm9
  have hRC0m17 := zR_C0_fr (zdis_fr hfm17 rfl) hRC0m9
  have hRE115m17 := zR_E115_fr (zdis_fr hfm17 rfl) hRE115m9
  have hRE63m17 := zR_E63_fr (zdis_fr hfm17 rfl) hRE63m9
  have hRE89m17 := zR_E89_fr (zdis_fr hfm17 rfl) hRE89m9
  have hRG5m17 := zR_G5_fr (zdis_fr hfm17 rfl) hRG5m9
  have hRK10m17 := zR_K10_fr (zdis_fr hfm17 rfl) hRK10m9
  have hRK54m17 := zR_K54_fr (zdis_fr hfm17 rfl) hRK54m9
  have hRKNm17 := zR_KN_fr (zdis_fr hfm17 rfl) hRKNm9
  have hRLKm17 := zR_LK_fr (zdis_fr hfm17 rfl) hRLKm9
  have hRLTm17 := zR_LT_fr (zdis_fr hfm17 rfl) hRLTm9
  have hRNSm17 := zR_NS_fr (zdis_fr hfm17 rfl) hRNSm9
  have hRRIm17 := zR_RI_fr (zdis_fr hfm17 rfl) hRRIm9
  have hRTAm17 := zR_TA_fr (zdis_fr hfm17 rfl) hRTAm9
  have hRTPm17 := zR_TP_fr (zdis_fr hfm17 rfl) hRTPm9
  have hRUNm17 := zR_UN_fr (zdis_fr hfm17 rfl) hRUNm9
  have hRUWm17 := zR_UW_fr (zdis_fr hfm17 rfl) hRUWm9
  have hRW1m17 := zR_W1_fr (zdis_fr hfm17 rfl) hRW1m9
  have hRW2m17 := zR_W2_fr (zdis_fr hfm17 rfl) hRW2m9
  have hRWDm17 := zR_WD_fr (zdis_fr hfm17 rfl) hRWDm9
  have hSm17 := zt_Sf (W := []) (fun p => zfr_ap (p := p) hfm17 zq_1 rfl) hSm9
  have r19 : 0 ≤ (m17 3 1) ∧ (m17 3 1) ≤ 700 := zi_rd hIm17 zq_3 zb_2_1
  have e20 : (m17 3 1) = (m0 3 1) := (Eq.trans (zfr_ap hfm17 zq_3 rfl) (zfr_ap hfm9 zq_3 rfl))
  have r21 : 0 ≤ (m17 190 1) ∧ (m17 190 1) ≤ 700 := zi_rd hIm17 zq_190 zb_28_1
  have e22 : (m17 190 1) = (m0 190 1) := (Eq.trans (zfr_ap hfm17 zq_190 rfl) (zfr_ap hfm9 zq_190 rfl))
  exact zw_kex (ih _ ⟨hIm17, hRBNm17, hRC0m17, hRE115m17, hRE63m17, hRE89m17, hRG5m17, hRK10m17, hRK54m17, hRKNm17, hRLTm17, hRNSm17, hRRIm17, hRRUm17, hRSEm17, hRTEm17, hRUNm17, hRUWm17, hRWDm17, hRW1m17, hRW2m17, hRBYm17, hRTAm17, hRTPm17, hRLKm17, by omega, hSm17⟩)
theorem zlw_605 {n : Nat} {K : Nat → Nat → Nat → List zu_v → List zu_v → zu_m → Prop} (hst : zt_HS n K) (hp2 : ∀ (cells slots pc : Nat) (i v : Int) (m : zu_m), pc ∈ [529, 552] → K cells slots (pc + 1) [(3, 1), (5, 3), (40, 190), (53, 233), (0, i), (2, 0), (2, 0)] [] m → K cells slots pc [(3, 1), (5, 3), (40, 190), (53, 233), (0, i), (2, 0), (2, 0)] [(1, v)] m) {cells slots : Nat} {i : Int} {m0 : zu_m} (hN : zt_INV m0) (hi0 : 0 ≤ i) (hi1 : i ≤ (n : Int) - 6) (hn : n ≤ 3072) (ih : ∀ m, zt_INV m → K cells slots 1454 [(3, 1), (5, 3), (40, 190), (53, 233), (0, i), (2, 0), (2, 0)] [] m) : K cells slots 605 [(3, 1), (5, 3), (40, 190), (53, 233), (0, i), (2, 0), (2, 0)] [] m0 := by
  refine hst cells slots [23, 40, 208, 281, 306, 331, 356, 370, 396, 433, 470, 507, 529, 552, 556, 605, 618, 655, 680, 705, 730, 755, 792, 865, 902, 939, 964, 977, 1002, 1028, 1041, 1078, 1103, 1128, 1205, 1230, 1255, 1280, 1341, 1390, 1403, 1416, 1429, 1454] 400 605 _ _ _ ?_
  refine zw_eq (zlr_605 n _ _ i m0) ?_
  obtain ⟨hIm0, hRBNm0, hRC0m0, hRE115m0, hRE63m0, hRE89m0, hRG5m0, hRK10m0, hRK54m0, hRKNm0, hRLTm0, hRNSm0, hRRIm0, hRRUm0, hRSEm0, hRTEm0, hRUNm0, hRUWm0, hRWDm0, hRW1m0, hRW2m0, hRBYm0, hRTAm0, hRTPm0, hRLKm0, hT, hSm0⟩ := hN
  have r1 : 0 ≤ (m0 3 1) ∧ (m0 3 1) ≤ 700 := zi_rd hIm0 zq_3 zb_2_1
  have r2 : 0 ≤ (m0 190 1) ∧ (m0 190 1) ≤ 700 := zi_rd hIm0 zq_190 zb_28_1
  refine zw_bd (zw_mono (zk_54 n hIm0 zq_3 hRUNm0 hRUWm0) (fun v4 m3 hqm3 => ?_))
  obtain ⟨hIm3, hfm3, hvm3⟩ := hqm3
  obtain ⟨hRUNm3, hRUWm3, hvm3⟩ := hvm3
  have hRBNm3 := zR_BN_fr (zdis_fr hfm3 rfl) hRBNm0
  have hRBYm3 := zR_BY_fr (zdis_fr hfm3 rfl) hRBYm0
  have hRC0m3 := zR_C0_fr (zdis_fr hfm3 rfl) hRC0m0
  have hRE115m3 := zR_E115_fr (zdis_fr hfm3 rfl) hRE115m0
  have hRE63m3 := zR_E63_fr (zdis_fr hfm3 rfl) hRE63m0
  have hRE89m3 := zR_E89_fr (zdis_fr hfm3 rfl) hRE89m0
  have hRG5m3 := zR_G5_fr (zdis_fr hfm3 rfl) hRG5m0
  have hRK10m3 := zR_K10_fr (zdis_fr hfm3 rfl) hRK10m0
  have hRK54m3 := zR_K54_fr (zdis_fr hfm3 rfl) hRK54m0
  have hRKNm3 := zR_KN_fr (zdis_fr hfm3 rfl) hRKNm0
  have hRLKm3 := zR_LK_fr (zdis_fr hfm3 rfl) hRLKm0
  have hRLTm3 := zR_LT_fr (zdis_fr hfm3 rfl) hRLTm0
  have hRNSm3 := zR_NS_fr (zdis_fr hfm3 rfl) hRNSm0
  have hRRIm3 := zR_RI_fr (zdis_fr hfm3 rfl) hRRIm0
  have hRRUm3 := zR_RU_fr (zdis_fr hfm3 rfl) hRRUm0
  have hRSEm3 := zR_SE_fr (zdis_fr hfm3 rfl) hRSEm0
  have hRTAm3 := zR_TA_fr (zdis_fr hfm3 rfl) hRTAm0
  have hRTEm3 := zR_TE_fr (zdis_fr hfm3 rfl) hRTEm0
  have hRTPm3 := zR_TP_fr (zdis_fr hfm3 rfl) hRTPm0
  have hRW1m3 := zR_W1_fr (zdis_fr hfm3 rfl) hRW1m0
  have hRW2m3 := zR_W2_fr (zdis_fr hfm3 rfl) hRW2m0
  have hRWDm3 := zR_WD_fr (zdis_fr hfm3 rfl) hRWDm0
  have hSm3 := zt_Sf (W := []) (fun p => zfr_ap (p := p) hfm3 zq_1 rfl) hSm0
  refine zw_bd (zw_mono (zk_150 n hIm3 zq_190 hRRUm3 hRSEm3 hRTEm3) (fun v6 m5 hqm5 => ?_))
  obtain ⟨hIm5, hfm5, hvm5⟩ := hqm5
  obtain ⟨hRRUm5, hRSEm5, hRTEm5, hvm5⟩ := hvm5
  have hRBNm5 := zR_BN_fr (zdis_fr hfm5 rfl) hRBNm3
  have hRBYm5 := zR_BY_fr (zdis_fr hfm5 rfl) hRBYm3
  have hRC0m5 := zR_C0_fr (zdis_fr hfm5 rfl) hRC0m3
  have hRE115m5 := zR_E115_fr (zdis_fr hfm5 rfl) hRE115m3
  have hRE63m5 := zR_E63_fr (zdis_fr hfm5 rfl) hRE63m3
  have hRE89m5 := zR_E89_fr (zdis_fr hfm5 rfl) hRE89m3
  have hRG5m5 := zR_G5_fr (zdis_fr hfm5 rfl) hRG5m3
  have hRK10m5 := zR_K10_fr (zdis_fr hfm5 rfl) hRK10m3
  have hRK54m5 := zR_K54_fr (zdis_fr hfm5 rfl) hRK54m3
  have hRKNm5 := zR_KN_fr (zdis_fr hfm5 rfl) hRKNm3
  have hRLKm5 := zR_LK_fr (zdis_fr hfm5 rfl) hRLKm3
  have hRLTm5 := zR_LT_fr (zdis_fr hfm5 rfl) hRLTm3
  have hRNSm5 := zR_NS_fr (zdis_fr hfm5 rfl) hRNSm3
  have hRRIm5 := zR_RI_fr (zdis_fr hfm5 rfl) hRRIm3
  have hRTAm5 := zR_TA_fr (zdis_fr hfm5 rfl) hRTAm3
  have hRTPm5 := zR_TP_fr (zdis_fr hfm5 rfl) hRTPm3
  have hRUNm5 := zR_UN_fr (zdis_fr hfm5 rfl) hRUNm3
  have hRUWm5 := zR_UW_fr (zdis_fr hfm5 rfl) hRUWm3
  have hRW1m5 := zR_W1_fr (zdis_fr hfm5 rfl) hRW1m3
  have hRW2m5 := zR_W2_fr (zdis_fr hfm5 rfl) hRW2m3
  have hRWDm5 := zR_WD_fr (zdis_fr hfm5 rfl) hRWDm3
  have hSm5 := zt_Sf (W := []) (fun p => zfr_ap (p := p) hfm5 zq_1 rfl) hSm3
  have r7 : 0 ≤ (m5 3 1) ∧ (m5 3 1) ≤ 700 := zi_rd hIm5 zq_3 zb_2_1
  have e8 : (m5 3 1) = (m0 3 1) := (Eq.trans (zfr_ap hfm5 zq_3 rfl) (zfr_ap hfm3 zq_3 rfl))
  have r9 : 0 ≤ (m5 190 1) ∧ (m5 190 1) ≤ 700 := zi_rd hIm5 zq_190 zb_28_1
  have e10 : (m5 190 1) = (m0 190 1) := (Eq.trans (zfr_ap hfm5 zq_190 rfl) (zfr_ap hfm3 zq_190 rfl))
  exact zw_kex (ih _ ⟨hIm5, hRBNm5, hRC0m5, hRE115m5, hRE63m5, hRE89m5, hRG5m5, hRK10m5, hRK54m5, hRKNm5, hRLTm5, hRNSm5, hRRIm5, hRRUm5, hRSEm5, hRTEm5, hRUNm5, hRUWm5, hRWDm5, hRW1m5, hRW2m5, hRBYm5, hRTAm5, hRTPm5, hRLKm5, by omega, hSm5⟩)
theorem zlw_618 {n : Nat} {K : Nat → Nat → Nat → List zu_v → List zu_v → zu_m → Prop} (hst : zt_HS n K) (hp2 : ∀ (cells slots pc : Nat) (i v : Int) (m : zu_m), pc ∈ [529, 552] → K cells slots (pc + 1) [(3, 1), (5, 3), (40, 190), (53, 233), (0, i), (2, 0), (2, 0)] [] m → K cells slots pc [(3, 1), (5, 3), (40, 190), (53, 233), (0, i), (2, 0), (2, 0)] [(1, v)] m) {cells slots : Nat} {i : Int} {m0 : zu_m} (hN : zt_INV m0) (hi0 : 0 ≤ i) (hi1 : i ≤ (n : Int) - 6) (hn : n ≤ 3072) (ih : ∀ m, zt_INV m → K cells slots 1454 [(3, 1), (5, 3), (40, 190), (53, 233), (0, i), (2, 0), (2, 0)] [] m) : K cells slots 618 [(3, 1), (5, 3), (40, 190), (53, 233), (0, i), (2, 0), (2, 0)] [] m0 := by
  refine hst cells slots [23, 40, 208, 281, 306, 331, 356, 370, 396, 433, 470, 507, 529, 552, 556, 605, 618, 655, 680, 705, 730, 755, 792, 865, 902, 939, 964, 977, 1002, 1028, 1041, 1078, 1103, 1128, 1205, 1230, 1255, 1280, 1341, 1390, 1403, 1416, 1429, 1454] 400 618 _ _ _ ?_
  refine zw_eq (zlr_618 n _ _ i m0) ?_
  obtain ⟨hIm0, hRBNm0, hRC0m0, hRE115m0, hRE63m0, hRE89m0, hRG5m0, hRK10m0, hRK54m0, hRKNm0, hRLTm0, hRNSm0, hRRIm0, hRRUm0, hRSEm0, hRTEm0, hRUNm0, hRUWm0, hRWDm0, hRW1m0, hRW2m0, hRBYm0, hRTAm0, hRTPm0, hRLKm0, hT, hSm0⟩ := hN
  have r1 : 0 ≤ (m0 3 1) ∧ (m0 3 1) ≤ 700 := zi_rd hIm0 zq_3 zb_2_1
  have r2 : 0 ≤ (m0 190 1) ∧ (m0 190 1) ≤ 700 := zi_rd hIm0 zq_190 zb_28_1
  have w3 := zu_w32_id (z := i + 1) (by omega) (by omega)
  refine zw_if ⟨by omega, by omega⟩ ?_
  have r4 := hSm0 (zu_w32 (i + 1))
  have w5 := zu_w32_id (z := i + 2) (by omega) (by omega)
  refine zw_if ⟨by omega, by omega⟩ ?_
  have r6 := hSm0 (zu_w32 (i + 2))
  refine zw_bd (zw_mono (zk_55 n hIm0 zq_3 ⟨by omega, by omega⟩ ⟨by omega, by omega⟩ hRE89m0 hRUNm0 hRUWm0) (fun v8 m7 hqm7 => ?_))
  obtain ⟨hIm7, hfm7, hvm7⟩ := hqm7
  obtain ⟨hRE89m7, hRUNm7, hRUWm7, hvm7⟩ := hvm7
  have hRBNm7 := zR_BN_fr (zdis_fr hfm7 rfl) hRBNm0
  have hRBYm7 := zR_BY_fr (zdis_fr hfm7 rfl) hRBYm0
  have hRC0m7 := zR_C0_fr (zdis_fr hfm7 rfl) hRC0m0
  have hRE115m7 := zR_E115_fr (zdis_fr hfm7 rfl) hRE115m0
  have hRE63m7 := zR_E63_fr (zdis_fr hfm7 rfl) hRE63m0
  have hRG5m7 := zR_G5_fr (zdis_fr hfm7 rfl) hRG5m0
  have hRK10m7 := zR_K10_fr (zdis_fr hfm7 rfl) hRK10m0
  have hRK54m7 := zR_K54_fr (zdis_fr hfm7 rfl) hRK54m0
  have hRKNm7 := zR_KN_fr (zdis_fr hfm7 rfl) hRKNm0
  have hRLKm7 := zR_LK_fr (zdis_fr hfm7 rfl) hRLKm0
  have hRLTm7 := zR_LT_fr (zdis_fr hfm7 rfl) hRLTm0
  have hRNSm7 := zR_NS_fr (zdis_fr hfm7 rfl) hRNSm0
  have hRRIm7 := zR_RI_fr (zdis_fr hfm7 rfl) hRRIm0
  have hRRUm7 := zR_RU_fr (zdis_fr hfm7 rfl) hRRUm0
  have hRSEm7 := zR_SE_fr (zdis_fr hfm7 rfl) hRSEm0
  have hRTAm7 := zR_TA_fr (zdis_fr hfm7 rfl) hRTAm0
  have hRTEm7 := zR_TE_fr (zdis_fr hfm7 rfl) hRTEm0
  have hRTPm7 := zR_TP_fr (zdis_fr hfm7 rfl) hRTPm0
  have hRW1m7 := zR_W1_fr (zdis_fr hfm7 rfl) hRW1m0
  have hRW2m7 := zR_W2_fr (zdis_fr hfm7 rfl) hRW2m0
  have hRWDm7 := zR_WD_fr (zdis_fr hfm7 rfl) hRWDm0
  have hSm7 := zt_Sf (W := []) (fun p => zfr_ap (p := p) hfm7 zq_1 rfl) hSm0
  refine zw_if ⟨by omega, by omega⟩ ?_
  have r9 := hSm7 (zu_w32 (i + 1))
  have e10 : (m7 1 (zu_w32 (i + 1))) = (m0 1 (zu_w32 (i + 1))) := (zfr_ap hfm7 zq_1 rfl)
  refine zw_if ⟨by omega, by omega⟩ ?_
  have r11 := hSm7 (zu_w32 (i + 2))
  have e12 : (m7 1 (zu_w32 (i + 2))) = (m0 1 (zu_w32 (i + 2))) := (zfr_ap hfm7 zq_1 rfl)
  refine zw_bd (zw_mono (zk_151 n hIm7 zq_190 ⟨by omega, by omega⟩ ⟨by omega, by omega⟩ hRRUm7 hRSEm7 hRTEm7) (fun v14 m13 hqm13 => ?_))
  obtain ⟨hIm13, hfm13, hvm13⟩ := hqm13
  obtain ⟨hRRUm13, hRSEm13, hRTEm13, hvm13⟩ := hvm13
  have hRBNm13 := zR_BN_fr (zdis_fr hfm13 rfl) hRBNm7
  have hRBYm13 := zR_BY_fr (zdis_fr hfm13 rfl) hRBYm7
  have hRC0m13 := zR_C0_fr (zdis_fr hfm13 rfl) hRC0m7
  have hRE115m13 := zR_E115_fr (zdis_fr hfm13 rfl) hRE115m7
  have hRE63m13 := zR_E63_fr (zdis_fr hfm13 rfl) hRE63m7
  have hRE89m13 := zR_E89_fr (zdis_fr hfm13 rfl) hRE89m7
  have hRG5m13 := zR_G5_fr (zdis_fr hfm13 rfl) hRG5m7
  have hRK10m13 := zR_K10_fr (zdis_fr hfm13 rfl) hRK10m7
  have hRK54m13 := zR_K54_fr (zdis_fr hfm13 rfl) hRK54m7
  have hRKNm13 := zR_KN_fr (zdis_fr hfm13 rfl) hRKNm7
  have hRLKm13 := zR_LK_fr (zdis_fr hfm13 rfl) hRLKm7
  have hRLTm13 := zR_LT_fr (zdis_fr hfm13 rfl) hRLTm7
  have hRNSm13 := zR_NS_fr (zdis_fr hfm13 rfl) hRNSm7
  have hRRIm13 := zR_RI_fr (zdis_fr hfm13 rfl) hRRIm7
  have hRTAm13 := zR_TA_fr (zdis_fr hfm13 rfl) hRTAm7
  have hRTPm13 := zR_TP_fr (zdis_fr hfm13 rfl) hRTPm7
  have hRUNm13 := zR_UN_fr (zdis_fr hfm13 rfl) hRUNm7
  have hRUWm13 := zR_UW_fr (zdis_fr hfm13 rfl) hRUWm7
  have hRW1m13 := zR_W1_fr (zdis_fr hfm13 rfl) hRW1m7
  have hRW2m13 := zR_W2_fr (zdis_fr hfm13 rfl) hRW2m7
  have hRWDm13 := zR_WD_fr (zdis_fr hfm13 rfl) hRWDm7
  have hSm13 := zt_Sf (W := []) (fun p => zfr_ap (p := p) hfm13 zq_1 rfl) hSm7
  have r15 : 0 ≤ (m13 3 1) ∧ (m13 3 1) ≤ 700 := zi_rd hIm13 zq_3 zb_2_1
  have e16 : (m13 3 1) = (m0 3 1) := (Eq.trans (zfr_ap hfm13 zq_3 rfl) (zfr_ap hfm7 zq_3 rfl))
  have r17 : 0 ≤ (m13 190 1) ∧ (m13 190 1) ≤ 700 := zi_rd hIm13 zq_190 zb_28_1
  have e18 : (m13 190 1) = (m0 190 1) := (Eq.trans (zfr_ap hfm13 zq_190 rfl) (zfr_ap hfm7 zq_190 rfl))
  exact zw_kex (ih _ ⟨hIm13, hRBNm13, hRC0m13, hRE115m13, hRE63m13, hRE89m13, hRG5m13, hRK10m13, hRK54m13, hRKNm13, hRLTm13, hRNSm13, hRRIm13, hRRUm13, hRSEm13, hRTEm13, hRUNm13, hRUWm13, hRWDm13, hRW1m13, hRW2m13, hRBYm13, hRTAm13, hRTPm13, hRLKm13, by omega, hSm13⟩)
theorem zlw_655 {n : Nat} {K : Nat → Nat → Nat → List zu_v → List zu_v → zu_m → Prop} (hst : zt_HS n K) (hp2 : ∀ (cells slots pc : Nat) (i v : Int) (m : zu_m), pc ∈ [529, 552] → K cells slots (pc + 1) [(3, 1), (5, 3), (40, 190), (53, 233), (0, i), (2, 0), (2, 0)] [] m → K cells slots pc [(3, 1), (5, 3), (40, 190), (53, 233), (0, i), (2, 0), (2, 0)] [(1, v)] m) {cells slots : Nat} {i : Int} {m0 : zu_m} (hN : zt_INV m0) (hi0 : 0 ≤ i) (hi1 : i ≤ (n : Int) - 6) (hn : n ≤ 3072) (ih : ∀ m, zt_INV m → K cells slots 1454 [(3, 1), (5, 3), (40, 190), (53, 233), (0, i), (2, 0), (2, 0)] [] m) : K cells slots 655 [(3, 1), (5, 3), (40, 190), (53, 233), (0, i), (2, 0), (2, 0)] [] m0 := by
  refine hst cells slots [23, 40, 208, 281, 306, 331, 356, 370, 396, 433, 470, 507, 529, 552, 556, 605, 618, 655, 680, 705, 730, 755, 792, 865, 902, 939, 964, 977, 1002, 1028, 1041, 1078, 1103, 1128, 1205, 1230, 1255, 1280, 1341, 1390, 1403, 1416, 1429, 1454] 400 655 _ _ _ ?_
  refine zw_eq (zlr_655 n _ _ i m0) ?_
  obtain ⟨hIm0, hRBNm0, hRC0m0, hRE115m0, hRE63m0, hRE89m0, hRG5m0, hRK10m0, hRK54m0, hRKNm0, hRLTm0, hRNSm0, hRRIm0, hRRUm0, hRSEm0, hRTEm0, hRUNm0, hRUWm0, hRWDm0, hRW1m0, hRW2m0, hRBYm0, hRTAm0, hRTPm0, hRLKm0, hT, hSm0⟩ := hN
  have r1 : 0 ≤ (m0 3 1) ∧ (m0 3 1) ≤ 700 := zi_rd hIm0 zq_3 zb_2_1
  have r2 : 0 ≤ (m0 190 1) ∧ (m0 190 1) ≤ 700 := zi_rd hIm0 zq_190 zb_28_1
  have w3 := zu_w32_id (z := i + 1) (by omega) (by omega)
  refine zw_if ⟨by omega, by omega⟩ ?_
  have r4 := hSm0 (zu_w32 (i + 1))
  refine zw_bd (zw_mono (zk_56 n hIm0 zq_3 ⟨by omega, by omega⟩ hRUNm0 hRUWm0) (fun v6 m5 hqm5 => ?_))
  obtain ⟨hIm5, hfm5, hvm5⟩ := hqm5
  obtain ⟨hRUNm5, hRUWm5, hvm5⟩ := hvm5
  have hRBNm5 := zR_BN_fr (zdis_fr hfm5 rfl) hRBNm0
  have hRBYm5 := zR_BY_fr (zdis_fr hfm5 rfl) hRBYm0
  have hRC0m5 := zR_C0_fr (zdis_fr hfm5 rfl) hRC0m0
  have hRE115m5 := zR_E115_fr (zdis_fr hfm5 rfl) hRE115m0
  have hRE63m5 := zR_E63_fr (zdis_fr hfm5 rfl) hRE63m0
  have hRE89m5 := zR_E89_fr (zdis_fr hfm5 rfl) hRE89m0
  have hRG5m5 := zR_G5_fr (zdis_fr hfm5 rfl) hRG5m0
  have hRK10m5 := zR_K10_fr (zdis_fr hfm5 rfl) hRK10m0
  have hRK54m5 := zR_K54_fr (zdis_fr hfm5 rfl) hRK54m0
  have hRKNm5 := zR_KN_fr (zdis_fr hfm5 rfl) hRKNm0
  have hRLKm5 := zR_LK_fr (zdis_fr hfm5 rfl) hRLKm0
  have hRLTm5 := zR_LT_fr (zdis_fr hfm5 rfl) hRLTm0
  have hRNSm5 := zR_NS_fr (zdis_fr hfm5 rfl) hRNSm0
  have hRRIm5 := zR_RI_fr (zdis_fr hfm5 rfl) hRRIm0
  have hRRUm5 := zR_RU_fr (zdis_fr hfm5 rfl) hRRUm0
  have hRSEm5 := zR_SE_fr (zdis_fr hfm5 rfl) hRSEm0
  have hRTAm5 := zR_TA_fr (zdis_fr hfm5 rfl) hRTAm0
  have hRTEm5 := zR_TE_fr (zdis_fr hfm5 rfl) hRTEm0
  have hRTPm5 := zR_TP_fr (zdis_fr hfm5 rfl) hRTPm0
  have hRW1m5 := zR_W1_fr (zdis_fr hfm5 rfl) hRW1m0
  have hRW2m5 := zR_W2_fr (zdis_fr hfm5 rfl) hRW2m0
  have hRWDm5 := zR_WD_fr (zdis_fr hfm5 rfl) hRWDm0
  have hSm5 := zt_Sf (W := []) (fun p => zfr_ap (p := p) hfm5 zq_1 rfl) hSm0
  refine zw_if ⟨by omega, by omega⟩ ?_
  have r7 := hSm5 (zu_w32 (i + 1))
  have e8 : (m5 1 (zu_w32 (i + 1))) = (m0 1 (zu_w32 (i + 1))) := (zfr_ap hfm5 zq_1 rfl)
  refine zw_bd (zw_mono (zk_152 n hIm5 zq_190 ⟨by omega, by omega⟩ hRRUm5 hRSEm5 hRTEm5) (fun v10 m9 hqm9 => ?_))
  obtain ⟨hIm9, hfm9, hvm9⟩ := hqm9
  obtain ⟨hRRUm9, hRSEm9, hRTEm9, hvm9⟩ := hvm9
  have hRBNm9 := zR_BN_fr (zdis_fr hfm9 rfl) hRBNm5
  have hRBYm9 := zR_BY_fr (zdis_fr hfm9 rfl) hRBYm5
  have hRC0m9 := zR_C0_fr (zdis_fr hfm9 rfl) hRC0m5
  have hRE115m9 := zR_E115_fr (zdis_fr hfm9 rfl) hRE115m5
  have hRE63m9 := zR_E63_fr (zdis_fr hfm9 rfl) hRE63m5
  have hRE89m9 := zR_E89_fr (zdis_fr hfm9 rfl) hRE89m5
  have hRG5m9 := zR_G5_fr (zdis_fr hfm9 rfl) hRG5m5
  have hRK10m9 := zR_K10_fr (zdis_fr hfm9 rfl) hRK10m5
  have hRK54m9 := zR_K54_fr (zdis_fr hfm9 rfl) hRK54m5
  have hRKNm9 := zR_KN_fr (zdis_fr hfm9 rfl) hRKNm5
  have hRLKm9 := zR_LK_fr (zdis_fr hfm9 rfl) hRLKm5
  have hRLTm9 := zR_LT_fr (zdis_fr hfm9 rfl) hRLTm5
  have hRNSm9 := zR_NS_fr (zdis_fr hfm9 rfl) hRNSm5
  have hRRIm9 := zR_RI_fr (zdis_fr hfm9 rfl) hRRIm5
  have hRTAm9 := zR_TA_fr (zdis_fr hfm9 rfl) hRTAm5
  have hRTPm9 := zR_TP_fr (zdis_fr hfm9 rfl) hRTPm5
  have hRUNm9 := zR_UN_fr (zdis_fr hfm9 rfl) hRUNm5
  have hRUWm9 := zR_UW_fr (zdis_fr hfm9 rfl) hRUWm5
  have hRW1m9 := zR_W1_fr (zdis_fr hfm9 rfl) hRW1m5
  have hRW2m9 := zR_W2_fr (zdis_fr hfm9 rfl) hRW2m5
  have hRWDm9 := zR_WD_fr (zdis_fr hfm9 rfl) hRWDm5
  have hSm9 := zt_Sf (W := []) (fun p => zfr_ap (p := p) hfm9 zq_1 rfl) hSm5
  have r11 : 0 ≤ (m9 3 1) ∧ (m9 3 1) ≤ 700 := zi_rd hIm9 zq_3 zb_2_1
  have e12 : (m9 3 1) = (m0 3 1) := (Eq.trans (zfr_ap hfm9 zq_3 rfl) (zfr_ap hfm5 zq_3 rfl))
  have r13 : 0 ≤ (m9 190 1) ∧ (m9 190 1) ≤ 700 := zi_rd hIm9 zq_190 zb_28_1
  have e14 : (m9 190 1) = (m0 190 1) := (Eq.trans (zfr_ap hfm9 zq_190 rfl) (zfr_ap hfm5 zq_190 rfl))
  exact zw_kex (ih _ ⟨hIm9, hRBNm9, hRC0m9, hRE115m9, hRE63m9, hRE89m9, hRG5m9, hRK10m9, hRK54m9, hRKNm9, hRLTm9, hRNSm9, hRRIm9, hRRUm9, hRSEm9, hRTEm9, hRUNm9, hRUWm9, hRWDm9, hRW1m9, hRW2m9, hRBYm9, hRTAm9, hRTPm9, hRLKm9, by omega, hSm9⟩)
theorem zlw_680 {n : Nat} {K : Nat → Nat → Nat → List zu_v → List zu_v → zu_m → Prop} (hst : zt_HS n K) (hp2 : ∀ (cells slots pc : Nat) (i v : Int) (m : zu_m), pc ∈ [529, 552] → K cells slots (pc + 1) [(3, 1), (5, 3), (40, 190), (53, 233), (0, i), (2, 0), (2, 0)] [] m → K cells slots pc [(3, 1), (5, 3), (40, 190), (53, 233), (0, i), (2, 0), (2, 0)] [(1, v)] m) {cells slots : Nat} {i : Int} {m0 : zu_m} (hN : zt_INV m0) (hi0 : 0 ≤ i) (hi1 : i ≤ (n : Int) - 6) (hn : n ≤ 3072) (ih : ∀ m, zt_INV m → K cells slots 1454 [(3, 1), (5, 3), (40, 190), (53, 233), (0, i), (2, 0), (2, 0)] [] m) : K cells slots 680 [(3, 1), (5, 3), (40, 190), (53, 233), (0, i), (2, 0), (2, 0)] [] m0 := by
  refine hst cells slots [23, 40, 208, 281, 306, 331, 356, 370, 396, 433, 470, 507, 529, 552, 556, 605, 618, 655, 680, 705, 730, 755, 792, 865, 902, 939, 964, 977, 1002, 1028, 1041, 1078, 1103, 1128, 1205, 1230, 1255, 1280, 1341, 1390, 1403, 1416, 1429, 1454] 400 680 _ _ _ ?_
  refine zw_eq (zlr_680 n _ _ i m0) ?_
  obtain ⟨hIm0, hRBNm0, hRC0m0, hRE115m0, hRE63m0, hRE89m0, hRG5m0, hRK10m0, hRK54m0, hRKNm0, hRLTm0, hRNSm0, hRRIm0, hRRUm0, hRSEm0, hRTEm0, hRUNm0, hRUWm0, hRWDm0, hRW1m0, hRW2m0, hRBYm0, hRTAm0, hRTPm0, hRLKm0, hT, hSm0⟩ := hN
  have r1 : 0 ≤ (m0 3 1) ∧ (m0 3 1) ≤ 700 := zi_rd hIm0 zq_3 zb_2_1
  have r2 : 0 ≤ (m0 190 1) ∧ (m0 190 1) ≤ 700 := zi_rd hIm0 zq_190 zb_28_1
  have w3 := zu_w32_id (z := i + 1) (by omega) (by omega)
  refine zw_if ⟨by omega, by omega⟩ ?_
  have r4 := hSm0 (zu_w32 (i + 1))
  refine zw_bd (zw_mono (zk_57 n hIm0 zq_3 ⟨by omega, by omega⟩ hRE89m0 hRG5m0 hRK54m0 hRUNm0 hRUWm0) (fun v6 m5 hqm5 => ?_))
  obtain ⟨hIm5, hfm5, hvm5⟩ := hqm5
  obtain ⟨hRE89m5, hRG5m5, hRK54m5, hRUNm5, hRUWm5, hvm5⟩ := hvm5
  have hRBNm5 := zR_BN_fr (zdis_fr hfm5 rfl) hRBNm0
  have hRBYm5 := zR_BY_fr (zdis_fr hfm5 rfl) hRBYm0
  have hRC0m5 := zR_C0_fr (zdis_fr hfm5 rfl) hRC0m0
  have hRE115m5 := zR_E115_fr (zdis_fr hfm5 rfl) hRE115m0
  have hRE63m5 := zR_E63_fr (zdis_fr hfm5 rfl) hRE63m0
  have hRK10m5 := zR_K10_fr (zdis_fr hfm5 rfl) hRK10m0
  have hRKNm5 := zR_KN_fr (zdis_fr hfm5 rfl) hRKNm0
  have hRLKm5 := zR_LK_fr (zdis_fr hfm5 rfl) hRLKm0
  have hRLTm5 := zR_LT_fr (zdis_fr hfm5 rfl) hRLTm0
  have hRNSm5 := zR_NS_fr (zdis_fr hfm5 rfl) hRNSm0
  have hRRIm5 := zR_RI_fr (zdis_fr hfm5 rfl) hRRIm0
  have hRRUm5 := zR_RU_fr (zdis_fr hfm5 rfl) hRRUm0
  have hRSEm5 := zR_SE_fr (zdis_fr hfm5 rfl) hRSEm0
  have hRTAm5 := zR_TA_fr (zdis_fr hfm5 rfl) hRTAm0
  have hRTEm5 := zR_TE_fr (zdis_fr hfm5 rfl) hRTEm0
  have hRTPm5 := zR_TP_fr (zdis_fr hfm5 rfl) hRTPm0
  have hRW1m5 := zR_W1_fr (zdis_fr hfm5 rfl) hRW1m0
  have hRW2m5 := zR_W2_fr (zdis_fr hfm5 rfl) hRW2m0
  have hRWDm5 := zR_WD_fr (zdis_fr hfm5 rfl) hRWDm0
  have hSm5 := zt_Sf (W := []) (fun p => zfr_ap (p := p) hfm5 zq_1 rfl) hSm0
  refine zw_if ⟨by omega, by omega⟩ ?_
  have r7 := hSm5 (zu_w32 (i + 1))
  have e8 : (m5 1 (zu_w32 (i + 1))) = (m0 1 (zu_w32 (i + 1))) := (zfr_ap hfm5 zq_1 rfl)
  refine zw_bd (zw_mono (zk_153 n hIm5 zq_190 ⟨by omega, by omega⟩ hRKNm5 hRLTm5 hRRUm5 hRSEm5) (fun v10 m9 hqm9 => ?_))
  obtain ⟨hIm9, hfm9, hvm9⟩ := hqm9
  obtain ⟨hRKNm9, hRLTm9, hRRUm9, hRSEm9, hvm9⟩ := hvm9
  have hRBNm9 := zR_BN_fr (zdis_fr hfm9 rfl) hRBNm5
  have hRBYm9 := zR_BY_fr (zdis_fr hfm9 rfl) hRBYm5
  have hRC0m9 := zR_C0_fr (zdis_fr hfm9 rfl) hRC0m5
  have hRE115m9 := zR_E115_fr (zdis_fr hfm9 rfl) hRE115m5
  have hRE63m9 := zR_E63_fr (zdis_fr hfm9 rfl) hRE63m5
  have hRE89m9 := zR_E89_fr (zdis_fr hfm9 rfl) hRE89m5
  have hRG5m9 := zR_G5_fr (zdis_fr hfm9 rfl) hRG5m5
  have hRK10m9 := zR_K10_fr (zdis_fr hfm9 rfl) hRK10m5
  have hRK54m9 := zR_K54_fr (zdis_fr hfm9 rfl) hRK54m5
  have hRLKm9 := zR_LK_fr (zdis_fr hfm9 rfl) hRLKm5
  have hRNSm9 := zR_NS_fr (zdis_fr hfm9 rfl) hRNSm5
  have hRRIm9 := zR_RI_fr (zdis_fr hfm9 rfl) hRRIm5
  have hRTAm9 := zR_TA_fr (zdis_fr hfm9 rfl) hRTAm5
  have hRTEm9 := zR_TE_fr (zdis_fr hfm9 rfl) hRTEm5
  have hRTPm9 := zR_TP_fr (zdis_fr hfm9 rfl) hRTPm5
  have hRUNm9 := zR_UN_fr (zdis_fr hfm9 rfl) hRUNm5
  have hRUWm9 := zR_UW_fr (zdis_fr hfm9 rfl) hRUWm5
  have hRW1m9 := zR_W1_fr (zdis_fr hfm9 rfl) hRW1m5
  have hRW2m9 := zR_W2_fr (zdis_fr hfm9 rfl) hRW2m5
  have hRWDm9 := zR_WD_fr (zdis_fr hfm9 rfl) hRWDm5
  have hSm9 := zt_Sf (W := []) (fun p => zfr_ap (p := p) hfm9 zq_1 rfl) hSm5
  have r11 : 0 ≤ (m9 3 1) ∧ (m9 3 1) ≤ 700 := zi_rd hIm9 zq_3 zb_2_1
  have e12 : (m9 3 1) = (m0 3 1) := (Eq.trans (zfr_ap hfm9 zq_3 rfl) (zfr_ap hfm5 zq_3 rfl))
  have r13 : 0 ≤ (m9 190 1) ∧ (m9 190 1) ≤ 700 := zi_rd hIm9 zq_190 zb_28_1
  have e14 : (m9 190 1) = (m0 190 1) := (Eq.trans (zfr_ap hfm9 zq_190 rfl) (zfr_ap hfm5 zq_190 rfl))
  exact zw_kex (ih _ ⟨hIm9, hRBNm9, hRC0m9, hRE115m9, hRE63m9, hRE89m9, hRG5m9, hRK10m9, hRK54m9, hRKNm9, hRLTm9, hRNSm9, hRRIm9, hRRUm9, hRSEm9, hRTEm9, hRUNm9, hRUWm9, hRWDm9, hRW1m9, hRW2m9, hRBYm9, hRTAm9, hRTPm9, hRLKm9, by omega, hSm9⟩)
theorem zlw_705 {n : Nat} {K : Nat → Nat → Nat → List zu_v → List zu_v → zu_m → Prop} (hst : zt_HS n K) (hp2 : ∀ (cells slots pc : Nat) (i v : Int) (m : zu_m), pc ∈ [529, 552] → K cells slots (pc + 1) [(3, 1), (5, 3), (40, 190), (53, 233), (0, i), (2, 0), (2, 0)] [] m → K cells slots pc [(3, 1), (5, 3), (40, 190), (53, 233), (0, i), (2, 0), (2, 0)] [(1, v)] m) {cells slots : Nat} {i : Int} {m0 : zu_m} (hN : zt_INV m0) (hi0 : 0 ≤ i) (hi1 : i ≤ (n : Int) - 6) (hn : n ≤ 3072) (ih : ∀ m, zt_INV m → K cells slots 1454 [(3, 1), (5, 3), (40, 190), (53, 233), (0, i), (2, 0), (2, 0)] [] m) : K cells slots 705 [(3, 1), (5, 3), (40, 190), (53, 233), (0, i), (2, 0), (2, 0)] [] m0 := by
  refine hst cells slots [23, 40, 208, 281, 306, 331, 356, 370, 396, 433, 470, 507, 529, 552, 556, 605, 618, 655, 680, 705, 730, 755, 792, 865, 902, 939, 964, 977, 1002, 1028, 1041, 1078, 1103, 1128, 1205, 1230, 1255, 1280, 1341, 1390, 1403, 1416, 1429, 1454] 400 705 _ _ _ ?_
  refine zw_eq (zlr_705 n _ _ i m0) ?_
  obtain ⟨hIm0, hRBNm0, hRC0m0, hRE115m0, hRE63m0, hRE89m0, hRG5m0, hRK10m0, hRK54m0, hRKNm0, hRLTm0, hRNSm0, hRRIm0, hRRUm0, hRSEm0, hRTEm0, hRUNm0, hRUWm0, hRWDm0, hRW1m0, hRW2m0, hRBYm0, hRTAm0, hRTPm0, hRLKm0, hT, hSm0⟩ := hN
  have r1 : 0 ≤ (m0 3 1) ∧ (m0 3 1) ≤ 700 := zi_rd hIm0 zq_3 zb_2_1
  have r2 : 0 ≤ (m0 190 1) ∧ (m0 190 1) ≤ 700 := zi_rd hIm0 zq_190 zb_28_1
  have w3 := zu_w32_id (z := i + 1) (by omega) (by omega)
  refine zw_if ⟨by omega, by omega⟩ ?_
  have r4 := hSm0 (zu_w32 (i + 1))
  refine zw_bd (zw_mono (zk_58 n hIm0 zq_3 ⟨by omega, by omega⟩) (fun v6 m5 hqm5 => ?_))
  obtain ⟨hIm5, hfm5, hvm5⟩ := hqm5
  have hRBNm5 := zR_BN_fr (zdis_fr hfm5 rfl) hRBNm0
  have hRBYm5 := zR_BY_fr (zdis_fr hfm5 rfl) hRBYm0
  have hRC0m5 := zR_C0_fr (zdis_fr hfm5 rfl) hRC0m0
  have hRE115m5 := zR_E115_fr (zdis_fr hfm5 rfl) hRE115m0
  have hRE63m5 := zR_E63_fr (zdis_fr hfm5 rfl) hRE63m0
  have hRE89m5 := zR_E89_fr (zdis_fr hfm5 rfl) hRE89m0
  have hRG5m5 := zR_G5_fr (zdis_fr hfm5 rfl) hRG5m0
  have hRK10m5 := zR_K10_fr (zdis_fr hfm5 rfl) hRK10m0
  have hRK54m5 := zR_K54_fr (zdis_fr hfm5 rfl) hRK54m0
  have hRKNm5 := zR_KN_fr (zdis_fr hfm5 rfl) hRKNm0
  have hRLKm5 := zR_LK_fr (zdis_fr hfm5 rfl) hRLKm0
  have hRLTm5 := zR_LT_fr (zdis_fr hfm5 rfl) hRLTm0
  have hRNSm5 := zR_NS_fr (zdis_fr hfm5 rfl) hRNSm0
  have hRRIm5 := zR_RI_fr (zdis_fr hfm5 rfl) hRRIm0
  have hRRUm5 := zR_RU_fr (zdis_fr hfm5 rfl) hRRUm0
  have hRSEm5 := zR_SE_fr (zdis_fr hfm5 rfl) hRSEm0
  have hRTAm5 := zR_TA_fr (zdis_fr hfm5 rfl) hRTAm0
  have hRTEm5 := zR_TE_fr (zdis_fr hfm5 rfl) hRTEm0
  have hRTPm5 := zR_TP_fr (zdis_fr hfm5 rfl) hRTPm0
  have hRUNm5 := zR_UN_fr (zdis_fr hfm5 rfl) hRUNm0
  have hRUWm5 := zR_UW_fr (zdis_fr hfm5 rfl) hRUWm0
  have hRW1m5 := zR_W1_fr (zdis_fr hfm5 rfl) hRW1m0
  have hRW2m5 := zR_W2_fr (zdis_fr hfm5 rfl) hRW2m0
  have hRWDm5 := zR_WD_fr (zdis_fr hfm5 rfl) hRWDm0
  have hSm5 := zt_Sf (W := []) (fun p => zfr_ap (p := p) hfm5 zq_1 rfl) hSm0
  refine zw_if ⟨by omega, by omega⟩ ?_
  have r7 := hSm5 (zu_w32 (i + 1))
  have e8 : (m5 1 (zu_w32 (i + 1))) = (m0 1 (zu_w32 (i + 1))) := (zfr_ap hfm5 zq_1 rfl)
  refine zw_bd (zw_mono (zk_154 n hIm5 zq_190 ⟨by omega, by omega⟩) (fun v10 m9 hqm9 => ?_))
  obtain ⟨hIm9, hfm9, hvm9⟩ := hqm9
  have hRBNm9 := zR_BN_fr (zdis_fr hfm9 rfl) hRBNm5
  have hRBYm9 := zR_BY_fr (zdis_fr hfm9 rfl) hRBYm5
  have hRC0m9 := zR_C0_fr (zdis_fr hfm9 rfl) hRC0m5
  have hRE115m9 := zR_E115_fr (zdis_fr hfm9 rfl) hRE115m5
  have hRE63m9 := zR_E63_fr (zdis_fr hfm9 rfl) hRE63m5
  have hRE89m9 := zR_E89_fr (zdis_fr hfm9 rfl) hRE89m5
  have hRG5m9 := zR_G5_fr (zdis_fr hfm9 rfl) hRG5m5
  have hRK10m9 := zR_K10_fr (zdis_fr hfm9 rfl) hRK10m5
  have hRK54m9 := zR_K54_fr (zdis_fr hfm9 rfl) hRK54m5
  have hRKNm9 := zR_KN_fr (zdis_fr hfm9 rfl) hRKNm5
  have hRLKm9 := zR_LK_fr (zdis_fr hfm9 rfl) hRLKm5
  have hRLTm9 := zR_LT_fr (zdis_fr hfm9 rfl) hRLTm5
  have hRNSm9 := zR_NS_fr (zdis_fr hfm9 rfl) hRNSm5
  have hRRIm9 := zR_RI_fr (zdis_fr hfm9 rfl) hRRIm5
  have hRRUm9 := zR_RU_fr (zdis_fr hfm9 rfl) hRRUm5
  have hRSEm9 := zR_SE_fr (zdis_fr hfm9 rfl) hRSEm5
  have hRTAm9 := zR_TA_fr (zdis_fr hfm9 rfl) hRTAm5
  have hRTEm9 := zR_TE_fr (zdis_fr hfm9 rfl) hRTEm5
  have hRTPm9 := zR_TP_fr (zdis_fr hfm9 rfl) hRTPm5
  have hRUNm9 := zR_UN_fr (zdis_fr hfm9 rfl) hRUNm5
  have hRUWm9 := zR_UW_fr (zdis_fr hfm9 rfl) hRUWm5
  have hRW1m9 := zR_W1_fr (zdis_fr hfm9 rfl) hRW1m5
  have hRW2m9 := zR_W2_fr (zdis_fr hfm9 rfl) hRW2m5
  have hRWDm9 := zR_WD_fr (zdis_fr hfm9 rfl) hRWDm5
  have hSm9 := zt_Sf (W := []) (fun p => zfr_ap (p := p) hfm9 zq_1 rfl) hSm5
  have r11 : 0 ≤ (m9 3 1) ∧ (m9 3 1) ≤ 700 := zi_rd hIm9 zq_3 zb_2_1
  have e12 : (m9 3 1) = (m0 3 1) := (Eq.trans (zfr_ap hfm9 zq_3 rfl) (zfr_ap hfm5 zq_3 rfl))
  have r13 : 0 ≤ (m9 190 1) ∧ (m9 190 1) ≤ 700 := zi_rd hIm9 zq_190 zb_28_1
  have e14 : (m9 190 1) = (m0 190 1) := (Eq.trans (zfr_ap hfm9 zq_190 rfl) (zfr_ap hfm5 zq_190 rfl))
  exact zw_kex (ih _ ⟨hIm9, hRBNm9, hRC0m9, hRE115m9, hRE63m9, hRE89m9, hRG5m9, hRK10m9, hRK54m9, hRKNm9, hRLTm9, hRNSm9, hRRIm9, hRRUm9, hRSEm9, hRTEm9, hRUNm9, hRUWm9, hRWDm9, hRW1m9, hRW2m9, hRBYm9, hRTAm9, hRTPm9, hRLKm9, by omega, hSm9⟩)
theorem zlw_730 {n : Nat} {K : Nat → Nat → Nat → List zu_v → List zu_v → zu_m → Prop} (hst : zt_HS n K) (hp2 : ∀ (cells slots pc : Nat) (i v : Int) (m : zu_m), pc ∈ [529, 552] → K cells slots (pc + 1) [(3, 1), (5, 3), (40, 190), (53, 233), (0, i), (2, 0), (2, 0)] [] m → K cells slots pc [(3, 1), (5, 3), (40, 190), (53, 233), (0, i), (2, 0), (2, 0)] [(1, v)] m) {cells slots : Nat} {i : Int} {m0 : zu_m} (hN : zt_INV m0) (hi0 : 0 ≤ i) (hi1 : i ≤ (n : Int) - 6) (hn : n ≤ 3072) (ih : ∀ m, zt_INV m → K cells slots 1454 [(3, 1), (5, 3), (40, 190), (53, 233), (0, i), (2, 0), (2, 0)] [] m) : K cells slots 730 [(3, 1), (5, 3), (40, 190), (53, 233), (0, i), (2, 0), (2, 0)] [] m0 := by
  refine hst cells slots [23, 40, 208, 281, 306, 331, 356, 370, 396, 433, 470, 507, 529, 552, 556, 605, 618, 655, 680, 705, 730, 755, 792, 865, 902, 939, 964, 977, 1002, 1028, 1041, 1078, 1103, 1128, 1205, 1230, 1255, 1280, 1341, 1390, 1403, 1416, 1429, 1454] 400 730 _ _ _ ?_
  refine zw_eq (zlr_730 n _ _ i m0) ?_
  obtain ⟨hIm0, hRBNm0, hRC0m0, hRE115m0, hRE63m0, hRE89m0, hRG5m0, hRK10m0, hRK54m0, hRKNm0, hRLTm0, hRNSm0, hRRIm0, hRRUm0, hRSEm0, hRTEm0, hRUNm0, hRUWm0, hRWDm0, hRW1m0, hRW2m0, hRBYm0, hRTAm0, hRTPm0, hRLKm0, hT, hSm0⟩ := hN
  have r1 : 0 ≤ (m0 3 1) ∧ (m0 3 1) ≤ 700 := zi_rd hIm0 zq_3 zb_2_1
  have r2 : 0 ≤ (m0 190 1) ∧ (m0 190 1) ≤ 700 := zi_rd hIm0 zq_190 zb_28_1
  have w3 := zu_w32_id (z := i + 1) (by omega) (by omega)
  refine zw_if ⟨by omega, by omega⟩ ?_
  have r4 := hSm0 (zu_w32 (i + 1))
  refine zw_bd (zw_mono (zk_59 n hIm0 zq_3 ⟨by omega, by omega⟩) (fun v6 m5 hqm5 => ?_))
  obtain ⟨hIm5, hfm5, hvm5⟩ := hqm5
  have hRBNm5 := zR_BN_fr (zdis_fr hfm5 rfl) hRBNm0
  have hRBYm5 := zR_BY_fr (zdis_fr hfm5 rfl) hRBYm0
  have hRC0m5 := zR_C0_fr (zdis_fr hfm5 rfl) hRC0m0
  have hRE115m5 := zR_E115_fr (zdis_fr hfm5 rfl) hRE115m0
  have hRE63m5 := zR_E63_fr (zdis_fr hfm5 rfl) hRE63m0
  have hRE89m5 := zR_E89_fr (zdis_fr hfm5 rfl) hRE89m0
  have hRG5m5 := zR_G5_fr (zdis_fr hfm5 rfl) hRG5m0
  have hRK10m5 := zR_K10_fr (zdis_fr hfm5 rfl) hRK10m0
  have hRK54m5 := zR_K54_fr (zdis_fr hfm5 rfl) hRK54m0
  have hRKNm5 := zR_KN_fr (zdis_fr hfm5 rfl) hRKNm0
  have hRLKm5 := zR_LK_fr (zdis_fr hfm5 rfl) hRLKm0
  have hRLTm5 := zR_LT_fr (zdis_fr hfm5 rfl) hRLTm0
  have hRNSm5 := zR_NS_fr (zdis_fr hfm5 rfl) hRNSm0
  have hRRIm5 := zR_RI_fr (zdis_fr hfm5 rfl) hRRIm0
  have hRRUm5 := zR_RU_fr (zdis_fr hfm5 rfl) hRRUm0
  have hRSEm5 := zR_SE_fr (zdis_fr hfm5 rfl) hRSEm0
  have hRTAm5 := zR_TA_fr (zdis_fr hfm5 rfl) hRTAm0
  have hRTEm5 := zR_TE_fr (zdis_fr hfm5 rfl) hRTEm0
  have hRTPm5 := zR_TP_fr (zdis_fr hfm5 rfl) hRTPm0
  have hRUNm5 := zR_UN_fr (zdis_fr hfm5 rfl) hRUNm0
  have hRUWm5 := zR_UW_fr (zdis_fr hfm5 rfl) hRUWm0
  have hRW1m5 := zR_W1_fr (zdis_fr hfm5 rfl) hRW1m0
  have hRW2m5 := zR_W2_fr (zdis_fr hfm5 rfl) hRW2m0
  have hRWDm5 := zR_WD_fr (zdis_fr hfm5 rfl) hRWDm0
  have hSm5 := zt_Sf (W := []) (fun p => zfr_ap (p := p) hfm5 zq_1 rfl) hSm0
  refine zw_if ⟨by omega, by omega⟩ ?_
  have r7 := hSm5 (zu_w32 (i + 1))
  have e8 : (m5 1 (zu_w32 (i + 1))) = (m0 1 (zu_w32 (i + 1))) := (zfr_ap hfm5 zq_1 rfl)
  refine zw_bd (zw_mono (zk_157 n hIm5 zq_190 ⟨by omega, by omega⟩) (fun v10 m9 hqm9 => ?_))
  obtain ⟨hIm9, hfm9, hvm9⟩ := hqm9
  have hRBNm9 := zR_BN_fr (zdis_fr hfm9 rfl) hRBNm5
  have hRBYm9 := zR_BY_fr (zdis_fr hfm9 rfl) hRBYm5
  have hRC0m9 := zR_C0_fr (zdis_fr hfm9 rfl) hRC0m5
  have hRE115m9 := zR_E115_fr (zdis_fr hfm9 rfl) hRE115m5
  have hRE63m9 := zR_E63_fr (zdis_fr hfm9 rfl) hRE63m5
  have hRE89m9 := zR_E89_fr (zdis_fr hfm9 rfl) hRE89m5
  have hRG5m9 := zR_G5_fr (zdis_fr hfm9 rfl) hRG5m5
  have hRK10m9 := zR_K10_fr (zdis_fr hfm9 rfl) hRK10m5
  have hRK54m9 := zR_K54_fr (zdis_fr hfm9 rfl) hRK54m5
  have hRKNm9 := zR_KN_fr (zdis_fr hfm9 rfl) hRKNm5
  have hRLKm9 := zR_LK_fr (zdis_fr hfm9 rfl) hRLKm5
  have hRLTm9 := zR_LT_fr (zdis_fr hfm9 rfl) hRLTm5
  have hRNSm9 := zR_NS_fr (zdis_fr hfm9 rfl) hRNSm5
  have hRRIm9 := zR_RI_fr (zdis_fr hfm9 rfl) hRRIm5
  have hRRUm9 := zR_RU_fr (zdis_fr hfm9 rfl) hRRUm5
  have hRSEm9 := zR_SE_fr (zdis_fr hfm9 rfl) hRSEm5
  have hRTAm9 := zR_TA_fr (zdis_fr hfm9 rfl) hRTAm5
  have hRTEm9 := zR_TE_fr (zdis_fr hfm9 rfl) hRTEm5
  have hRTPm9 := zR_TP_fr (zdis_fr hfm9 rfl) hRTPm5
  have hRUNm9 := zR_UN_fr (zdis_fr hfm9 rfl) hRUNm5
  have hRUWm9 := zR_UW_fr (zdis_fr hfm9 rfl) hRUWm5
  have hRW1m9 := zR_W1_fr (zdis_fr hfm9 rfl) hRW1m5
  have hRW2m9 := zR_W2_fr (zdis_fr hfm9 rfl) hRW2m5
  have hRWDm9 := zR_WD_fr (zdis_fr hfm9 rfl) hRWDm5
  have hSm9 := zt_Sf (W := []) (fun p => zfr_ap (p := p) hfm9 zq_1 rfl) hSm5
  have r11 : 0 ≤ (m9 3 1) ∧ (m9 3 1) ≤ 700 := zi_rd hIm9 zq_3 zb_2_1
  have e12 : (m9 3 1) = (m0 3 1) := (Eq.trans (zfr_ap hfm9 zq_3 rfl) (zfr_ap hfm5 zq_3 rfl))
  have r13 : 0 ≤ (m9 190 1) ∧ (m9 190 1) ≤ 700 := zi_rd hIm9 zq_190 zb_28_1
  have e14 : (m9 190 1) = (m0 190 1) := (Eq.trans (zfr_ap hfm9 zq_190 rfl) (zfr_ap hfm5 zq_190 rfl))
  exact zw_kex (ih _ ⟨hIm9, hRBNm9, hRC0m9, hRE115m9, hRE63m9, hRE89m9, hRG5m9, hRK10m9, hRK54m9, hRKNm9, hRLTm9, hRNSm9, hRRIm9, hRRUm9, hRSEm9, hRTEm9, hRUNm9, hRUWm9, hRWDm9, hRW1m9, hRW2m9, hRBYm9, hRTAm9, hRTPm9, hRLKm9, by omega, hSm9⟩)
theorem zlw_755 {n : Nat} {K : Nat → Nat → Nat → List zu_v → List zu_v → zu_m → Prop} (hst : zt_HS n K) (hp2 : ∀ (cells slots pc : Nat) (i v : Int) (m : zu_m), pc ∈ [529, 552] → K cells slots (pc + 1) [(3, 1), (5, 3), (40, 190), (53, 233), (0, i), (2, 0), (2, 0)] [] m → K cells slots pc [(3, 1), (5, 3), (40, 190), (53, 233), (0, i), (2, 0), (2, 0)] [(1, v)] m) {cells slots : Nat} {i : Int} {m0 : zu_m} (hN : zt_INV m0) (hi0 : 0 ≤ i) (hi1 : i ≤ (n : Int) - 6) (hn : n ≤ 3072) (ih : ∀ m, zt_INV m → K cells slots 1454 [(3, 1), (5, 3), (40, 190), (53, 233), (0, i), (2, 0), (2, 0)] [] m) : K cells slots 755 [(3, 1), (5, 3), (40, 190), (53, 233), (0, i), (2, 0), (2, 0)] [] m0 := by
  refine hst cells slots [23, 40, 208, 281, 306, 331, 356, 370, 396, 433, 470, 507, 529, 552, 556, 605, 618, 655, 680, 705, 730, 755, 792, 865, 902, 939, 964, 977, 1002, 1028, 1041, 1078, 1103, 1128, 1205, 1230, 1255, 1280, 1341, 1390, 1403, 1416, 1429, 1454] 400 755 _ _ _ ?_
  refine zw_eq (zlr_755 n _ _ i m0) ?_
  obtain ⟨hIm0, hRBNm0, hRC0m0, hRE115m0, hRE63m0, hRE89m0, hRG5m0, hRK10m0, hRK54m0, hRKNm0, hRLTm0, hRNSm0, hRRIm0, hRRUm0, hRSEm0, hRTEm0, hRUNm0, hRUWm0, hRWDm0, hRW1m0, hRW2m0, hRBYm0, hRTAm0, hRTPm0, hRLKm0, hT, hSm0⟩ := hN
  have r1 : 0 ≤ (m0 3 1) ∧ (m0 3 1) ≤ 700 := zi_rd hIm0 zq_3 zb_2_1
  have r2 : 0 ≤ (m0 190 1) ∧ (m0 190 1) ≤ 700 := zi_rd hIm0 zq_190 zb_28_1
  have w3 := zu_w32_id (z := i + 1) (by omega) (by omega)
  refine zw_if ⟨by omega, by omega⟩ ?_
  have r4 := hSm0 (zu_w32 (i + 1))
  have w5 := zu_w32_id (z := i + 2) (by omega) (by omega)
  refine zw_if ⟨by omega, by omega⟩ ?_
  have r6 := hSm0 (zu_w32 (i + 2))
  refine zw_bd (zw_mono (zk_60 n hIm0 zq_3 ⟨by omega, by omega⟩ ⟨by omega, by omega⟩) (fun v8 m7 hqm7 => ?_))
  obtain ⟨hIm7, hfm7, hvm7⟩ := hqm7
  have hRBNm7 := zR_BN_fr (zdis_fr hfm7 rfl) hRBNm0
  have hRBYm7 := zR_BY_fr (zdis_fr hfm7 rfl) hRBYm0
  have hRC0m7 := zR_C0_fr (zdis_fr hfm7 rfl) hRC0m0
  have hRE115m7 := zR_E115_fr (zdis_fr hfm7 rfl) hRE115m0
  have hRE63m7 := zR_E63_fr (zdis_fr hfm7 rfl) hRE63m0
  have hRE89m7 := zR_E89_fr (zdis_fr hfm7 rfl) hRE89m0
  have hRG5m7 := zR_G5_fr (zdis_fr hfm7 rfl) hRG5m0
  have hRK10m7 := zR_K10_fr (zdis_fr hfm7 rfl) hRK10m0
  have hRK54m7 := zR_K54_fr (zdis_fr hfm7 rfl) hRK54m0
  have hRKNm7 := zR_KN_fr (zdis_fr hfm7 rfl) hRKNm0
  have hRLKm7 := zR_LK_fr (zdis_fr hfm7 rfl) hRLKm0
  have hRLTm7 := zR_LT_fr (zdis_fr hfm7 rfl) hRLTm0
  have hRNSm7 := zR_NS_fr (zdis_fr hfm7 rfl) hRNSm0
  have hRRIm7 := zR_RI_fr (zdis_fr hfm7 rfl) hRRIm0
  have hRRUm7 := zR_RU_fr (zdis_fr hfm7 rfl) hRRUm0
  have hRSEm7 := zR_SE_fr (zdis_fr hfm7 rfl) hRSEm0
  have hRTAm7 := zR_TA_fr (zdis_fr hfm7 rfl) hRTAm0
  have hRTEm7 := zR_TE_fr (zdis_fr hfm7 rfl) hRTEm0
  have hRTPm7 := zR_TP_fr (zdis_fr hfm7 rfl) hRTPm0
  have hRUNm7 := zR_UN_fr (zdis_fr hfm7 rfl) hRUNm0
  have hRUWm7 := zR_UW_fr (zdis_fr hfm7 rfl) hRUWm0
  have hRW1m7 := zR_W1_fr (zdis_fr hfm7 rfl) hRW1m0
  have hRW2m7 := zR_W2_fr (zdis_fr hfm7 rfl) hRW2m0
  have hRWDm7 := zR_WD_fr (zdis_fr hfm7 rfl) hRWDm0
  have hSm7 := zt_Sf (W := []) (fun p => zfr_ap (p := p) hfm7 zq_1 rfl) hSm0
  refine zw_if ⟨by omega, by omega⟩ ?_
  have r9 := hSm7 (zu_w32 (i + 1))
  have e10 : (m7 1 (zu_w32 (i + 1))) = (m0 1 (zu_w32 (i + 1))) := (zfr_ap hfm7 zq_1 rfl)
  refine zw_if ⟨by omega, by omega⟩ ?_
  have r11 := hSm7 (zu_w32 (i + 2))
  have e12 : (m7 1 (zu_w32 (i + 2))) = (m0 1 (zu_w32 (i + 2))) := (zfr_ap hfm7 zq_1 rfl)
  refine zw_bd (zw_mono (zk_158 n hIm7 zq_190 ⟨by omega, by omega⟩ ⟨by omega, by omega⟩ hRKNm7 hRLTm7) (fun v14 m13 hqm13 => ?_))
  obtain ⟨hIm13, hfm13, hvm13⟩ := hqm13
  obtain ⟨hRKNm13, hRLTm13, hvm13⟩ := hvm13
  have hRBNm13 := zR_BN_fr (zdis_fr hfm13 rfl) hRBNm7
  have hRBYm13 := zR_BY_fr (zdis_fr hfm13 rfl) hRBYm7
  have hRC0m13 := zR_C0_fr (zdis_fr hfm13 rfl) hRC0m7
  have hRE115m13 := zR_E115_fr (zdis_fr hfm13 rfl) hRE115m7
  have hRE63m13 := zR_E63_fr (zdis_fr hfm13 rfl) hRE63m7
  have hRE89m13 := zR_E89_fr (zdis_fr hfm13 rfl) hRE89m7
  have hRG5m13 := zR_G5_fr (zdis_fr hfm13 rfl) hRG5m7
  have hRK10m13 := zR_K10_fr (zdis_fr hfm13 rfl) hRK10m7
  have hRK54m13 := zR_K54_fr (zdis_fr hfm13 rfl) hRK54m7
  have hRLKm13 := zR_LK_fr (zdis_fr hfm13 rfl) hRLKm7
  have hRNSm13 := zR_NS_fr (zdis_fr hfm13 rfl) hRNSm7
  have hRRIm13 := zR_RI_fr (zdis_fr hfm13 rfl) hRRIm7
  have hRRUm13 := zR_RU_fr (zdis_fr hfm13 rfl) hRRUm7
  have hRSEm13 := zR_SE_fr (zdis_fr hfm13 rfl) hRSEm7
  have hRTAm13 := zR_TA_fr (zdis_fr hfm13 rfl) hRTAm7
  have hRTEm13 := zR_TE_fr (zdis_fr hfm13 rfl) hRTEm7
  have hRTPm13 := zR_TP_fr (zdis_fr hfm13 rfl) hRTPm7
  have hRUNm13 := zR_UN_fr (zdis_fr hfm13 rfl) hRUNm7
  have hRUWm13 := zR_UW_fr (zdis_fr hfm13 rfl) hRUWm7
  have hRW1m13 := zR_W1_fr (zdis_fr hfm13 rfl) hRW1m7
  have hRW2m13 := zR_W2_fr (zdis_fr hfm13 rfl) hRW2m7
  have hRWDm13 := zR_WD_fr (zdis_fr hfm13 rfl) hRWDm7
  have hSm13 := zt_Sf (W := []) (fun p => zfr_ap (p := p) hfm13 zq_1 rfl) hSm7
  have r15 : 0 ≤ (m13 3 1) ∧ (m13 3 1) ≤ 700 := zi_rd hIm13 zq_3 zb_2_1
  have e16 : (m13 3 1) = (m0 3 1) := (Eq.trans (zfr_ap hfm13 zq_3 rfl) (zfr_ap hfm7 zq_3 rfl))
  have r17 : 0 ≤ (m13 190 1) ∧ (m13 190 1) ≤ 700 := zi_rd hIm13 zq_190 zb_28_1
  have e18 : (m13 190 1) = (m0 190 1) := (Eq.trans (zfr_ap hfm13 zq_190 rfl) (zfr_ap hfm7 zq_190 rfl))
  exact zw_kex (ih _ ⟨hIm13, hRBNm13, hRC0m13, hRE115m13, hRE63m13, hRE89m13, hRG5m13, hRK10m13, hRK54m13, hRKNm13, hRLTm13, hRNSm13, hRRIm13, hRRUm13, hRSEm13, hRTEm13, hRUNm13, hRUWm13, hRWDm13, hRW1m13, hRW2m13, hRBYm13, hRTAm13, hRTPm13, hRLKm13, by omega, hSm13⟩)
theorem zlw_792 {n : Nat} {K : Nat → Nat → Nat → List zu_v → List zu_v → zu_m → Prop} (hst : zt_HS n K) (hp2 : ∀ (cells slots pc : Nat) (i v : Int) (m : zu_m), pc ∈ [529, 552] → K cells slots (pc + 1) [(3, 1), (5, 3), (40, 190), (53, 233), (0, i), (2, 0), (2, 0)] [] m → K cells slots pc [(3, 1), (5, 3), (40, 190), (53, 233), (0, i), (2, 0), (2, 0)] [(1, v)] m) {cells slots : Nat} {i : Int} {m0 : zu_m} (hN : zt_INV m0) (hi0 : 0 ≤ i) (hi1 : i ≤ (n : Int) - 6) (hn : n ≤ 3072) (ih : ∀ m, zt_INV m → K cells slots 1454 [(3, 1), (5, 3), (40, 190), (53, 233), (0, i), (2, 0), (2, 0)] [] m) : K cells slots 792 [(3, 1), (5, 3), (40, 190), (53, 233), (0, i), (2, 0), (2, 0)] [] m0 := by
  refine hst cells slots [23, 40, 208, 281, 306, 331, 356, 370, 396, 433, 470, 507, 529, 552, 556, 605, 618, 655, 680, 705, 730, 755, 792, 865, 902, 939, 964, 977, 1002, 1028, 1041, 1078, 1103, 1128, 1205, 1230, 1255, 1280, 1341, 1390, 1403, 1416, 1429, 1454] 400 792 _ _ _ ?_
  refine zw_eq (zlr_792 n _ _ i m0) ?_
  obtain ⟨hIm0, hRBNm0, hRC0m0, hRE115m0, hRE63m0, hRE89m0, hRG5m0, hRK10m0, hRK54m0, hRKNm0, hRLTm0, hRNSm0, hRRIm0, hRRUm0, hRSEm0, hRTEm0, hRUNm0, hRUWm0, hRWDm0, hRW1m0, hRW2m0, hRBYm0, hRTAm0, hRTPm0, hRLKm0, hT, hSm0⟩ := hN
  have r1 : 0 ≤ (m0 3 1) ∧ (m0 3 1) ≤ 700 := zi_rd hIm0 zq_3 zb_2_1
  have r2 : 0 ≤ (m0 190 1) ∧ (m0 190 1) ≤ 700 := zi_rd hIm0 zq_190 zb_28_1
  have w3 := zu_w32_id (z := i + 1) (by omega) (by omega)
  refine zw_if ⟨by omega, by omega⟩ ?_
  have r4 := hSm0 (zu_w32 (i + 1))
  have w5 := zu_w32_id (z := i + 2) (by omega) (by omega)
  refine zw_if ⟨by omega, by omega⟩ ?_
  have r6 := hSm0 (zu_w32 (i + 2))
  have w7 := zu_w32_id (z := i + 3) (by omega) (by omega)
  refine zw_if ⟨by omega, by omega⟩ ?_
  have r8 := hSm0 (zu_w32 (i + 3))
  have w9 := zu_w32_id (z := i + 4) (by omega) (by omega)
  refine zw_if ⟨by omega, by omega⟩ ?_
  have r10 := hSm0 (zu_w32 (i + 4))
  have w11 := zu_w32_id (z := i + 5) (by omega) (by omega)
  refine zw_if ⟨by omega, by omega⟩ ?_
  have r12 := hSm0 (zu_w32 (i + 5))
  refine zw_bd (zw_mono (zk_61 n hIm0 zq_3 ⟨by omega, by omega⟩ ⟨by omega, by omega⟩ ⟨by omega, by omega⟩ ⟨by omega, by omega⟩ ⟨by omega, by omega⟩ hRE89m0 hRG5m0 hRK54m0) (fun v14 m13 hqm13 => ?_))
  obtain ⟨hIm13, hfm13, hvm13⟩ := hqm13
  obtain ⟨hRE89m13, hRG5m13, hRK54m13, hvm13⟩ := hvm13
  have hRBNm13 := zR_BN_fr (zdis_fr hfm13 rfl) hRBNm0
  have hRBYm13 := zR_BY_fr (zdis_fr hfm13 rfl) hRBYm0
  have hRC0m13 := zR_C0_fr (zdis_fr hfm13 rfl) hRC0m0
  have hRE115m13 := zR_E115_fr (zdis_fr hfm13 rfl) hRE115m0
  have hRE63m13 := zR_E63_fr (zdis_fr hfm13 rfl) hRE63m0
  have hRK10m13 := zR_K10_fr (zdis_fr hfm13 rfl) hRK10m0
  have hRKNm13 := zR_KN_fr (zdis_fr hfm13 rfl) hRKNm0
  have hRLKm13 := zR_LK_fr (zdis_fr hfm13 rfl) hRLKm0
  have hRLTm13 := zR_LT_fr (zdis_fr hfm13 rfl) hRLTm0
  have hRNSm13 := zR_NS_fr (zdis_fr hfm13 rfl) hRNSm0
  have hRRIm13 := zR_RI_fr (zdis_fr hfm13 rfl) hRRIm0
  have hRRUm13 := zR_RU_fr (zdis_fr hfm13 rfl) hRRUm0
  have hRSEm13 := zR_SE_fr (zdis_fr hfm13 rfl) hRSEm0
  have hRTAm13 := zR_TA_fr (zdis_fr hfm13 rfl) hRTAm0
  have hRTEm13 := zR_TE_fr (zdis_fr hfm13 rfl) hRTEm0
  have hRTPm13 := zR_TP_fr (zdis_fr hfm13 rfl) hRTPm0
  have hRUNm13 := zR_UN_fr (zdis_fr hfm13 rfl) hRUNm0
  have hRUWm13 := zR_UW_fr (zdis_fr hfm13 rfl) hRUWm0
  have hRW1m13 := zR_W1_fr (zdis_fr hfm13 rfl) hRW1m0
  have hRW2m13 := zR_W2_fr (zdis_fr hfm13 rfl) hRW2m0
  have hRWDm13 := zR_WD_fr (zdis_fr hfm13 rfl) hRWDm0
  have hSm13 := zt_Sf (W := []) (fun p => zfr_ap (p := p) hfm13 zq_1 rfl) hSm0
  refine zw_if ⟨by omega, by omega⟩ ?_
  have r15 := hSm13 (zu_w32 (i + 1))
  have e16 : (m13 1 (zu_w32 (i + 1))) = (m0 1 (zu_w32 (i + 1))) := (zfr_ap hfm13 zq_1 rfl)
  refine zw_if ⟨by omega, by omega⟩ ?_
  have r17 := hSm13 (zu_w32 (i + 2))
  have e18 : (m13 1 (zu_w32 (i + 2))) = (m0 1 (zu_w32 (i + 2))) := (zfr_ap hfm13 zq_1 rfl)
  refine zw_if ⟨by omega, by omega⟩ ?_
  have r19 := hSm13 (zu_w32 (i + 3))
  have e20 : (m13 1 (zu_w32 (i + 3))) = (m0 1 (zu_w32 (i + 3))) := (zfr_ap hfm13 zq_1 rfl)
  refine zw_if ⟨by omega, by omega⟩ ?_
  have r21 := hSm13 (zu_w32 (i + 4))
  have e22 : (m13 1 (zu_w32 (i + 4))) = (m0 1 (zu_w32 (i + 4))) := (zfr_ap hfm13 zq_1 rfl)
  refine zw_if ⟨by omega, by omega⟩ ?_
  have r23 := hSm13 (zu_w32 (i + 5))
  have e24 : (m13 1 (zu_w32 (i + 5))) = (m0 1 (zu_w32 (i + 5))) := (zfr_ap hfm13 zq_1 rfl)
  refine zw_bd (zw_mono (zk_161 n hIm13 zq_190 ⟨by omega, by omega⟩ ⟨by omega, by omega⟩ ⟨by omega, by omega⟩ ⟨by omega, by omega⟩ ⟨by omega, by omega⟩ hRKNm13 hRLTm13 hRSEm13) (fun v26 m25 hqm25 => ?_))
  obtain ⟨hIm25, hfm25, hvm25⟩ := hqm25
  obtain ⟨hRKNm25, hRLTm25, hRSEm25, hvm25⟩ := hvm25
  have hRBNm25 := zR_BN_fr (zdis_fr hfm25 rfl) hRBNm13
  have hRBYm25 := zR_BY_fr (zdis_fr hfm25 rfl) hRBYm13
  have hRC0m25 := zR_C0_fr (zdis_fr hfm25 rfl) hRC0m13
  have hRE115m25 := zR_E115_fr (zdis_fr hfm25 rfl) hRE115m13
  have hRE63m25 := zR_E63_fr (zdis_fr hfm25 rfl) hRE63m13
  have hRE89m25 := zR_E89_fr (zdis_fr hfm25 rfl) hRE89m13
  have hRG5m25 := zR_G5_fr (zdis_fr hfm25 rfl) hRG5m13
  have hRK10m25 := zR_K10_fr (zdis_fr hfm25 rfl) hRK10m13
  have hRK54m25 := zR_K54_fr (zdis_fr hfm25 rfl) hRK54m13
  have hRLKm25 := zR_LK_fr (zdis_fr hfm25 rfl) hRLKm13
  have hRNSm25 := zR_NS_fr (zdis_fr hfm25 rfl) hRNSm13
  have hRRIm25 := zR_RI_fr (zdis_fr hfm25 rfl) hRRIm13
  have hRRUm25 := zR_RU_fr (zdis_fr hfm25 rfl) hRRUm13
  have hRTAm25 := zR_TA_fr (zdis_fr hfm25 rfl) hRTAm13
  have hRTEm25 := zR_TE_fr (zdis_fr hfm25 rfl) hRTEm13
  have hRTPm25 := zR_TP_fr (zdis_fr hfm25 rfl) hRTPm13
  have hRUNm25 := zR_UN_fr (zdis_fr hfm25 rfl) hRUNm13
  have hRUWm25 := zR_UW_fr (zdis_fr hfm25 rfl) hRUWm13
  have hRW1m25 := zR_W1_fr (zdis_fr hfm25 rfl) hRW1m13
  have hRW2m25 := zR_W2_fr (zdis_fr hfm25 rfl) hRW2m13
  have hRWDm25 := zR_WD_fr (zdis_fr hfm25 rfl) hRWDm13
  have hSm25 := zt_Sf (W := []) (fun p => zfr_ap (p := p) hfm25 zq_1 rfl) hSm13
  have r27 : 0 ≤ (m25 3 1) ∧ (m25 3 1) ≤ 700 := zi_rd hIm25 zq_3 zb_2_1
  have e28 : (m25 3 1) = (m0 3 1) := (Eq.trans (zfr_ap hfm25 zq_3 rfl) (zfr_ap hfm13 zq_3 rfl))
  have r29 : 0 ≤ (m25 190 1) ∧ (m25 190 1) ≤ 700 := zi_rd hIm25 zq_190 zb_28_1
  have e30 : (m25 190 1) = (m0 190 1) := (Eq.trans (zfr_ap hfm25 zq_190 rfl) (zfr_ap hfm13 zq_190 rfl))
  exact zw_kex (ih _ ⟨hIm25, hRBNm25, hRC0m25, hRE115m25, hRE63m25, hRE89m25, hRG5m25, hRK10m25, hRK54m25, hRKNm25, hRLTm25, hRNSm25, hRRIm25, hRRUm25, hRSEm25, hRTEm25, hRUNm25, hRUWm25, hRWDm25, hRW1m25, hRW2m25, hRBYm25, hRTAm25, hRTPm25, hRLKm25, by omega, hSm25⟩)
theorem zlw_865 {n : Nat} {K : Nat → Nat → Nat → List zu_v → List zu_v → zu_m → Prop} (hst : zt_HS n K) (hp2 : ∀ (cells slots pc : Nat) (i v : Int) (m : zu_m), pc ∈ [529, 552] → K cells slots (pc + 1) [(3, 1), (5, 3), (40, 190), (53, 233), (0, i), (2, 0), (2, 0)] [] m → K cells slots pc [(3, 1), (5, 3), (40, 190), (53, 233), (0, i), (2, 0), (2, 0)] [(1, v)] m) {cells slots : Nat} {i : Int} {m0 : zu_m} (hN : zt_INV m0) (hi0 : 0 ≤ i) (hi1 : i ≤ (n : Int) - 6) (hn : n ≤ 3072) (ih : ∀ m, zt_INV m → K cells slots 1454 [(3, 1), (5, 3), (40, 190), (53, 233), (0, i), (2, 0), (2, 0)] [] m) : K cells slots 865 [(3, 1), (5, 3), (40, 190), (53, 233), (0, i), (2, 0), (2, 0)] [] m0 := by
  refine hst cells slots [23, 40, 208, 281, 306, 331, 356, 370, 396, 433, 470, 507, 529, 552, 556, 605, 618, 655, 680, 705, 730, 755, 792, 865, 902, 939, 964, 977, 1002, 1028, 1041, 1078, 1103, 1128, 1205, 1230, 1255, 1280, 1341, 1390, 1403, 1416, 1429, 1454] 400 865 _ _ _ ?_
  refine zw_eq (zlr_865 n _ _ i m0) ?_
  obtain ⟨hIm0, hRBNm0, hRC0m0, hRE115m0, hRE63m0, hRE89m0, hRG5m0, hRK10m0, hRK54m0, hRKNm0, hRLTm0, hRNSm0, hRRIm0, hRRUm0, hRSEm0, hRTEm0, hRUNm0, hRUWm0, hRWDm0, hRW1m0, hRW2m0, hRBYm0, hRTAm0, hRTPm0, hRLKm0, hT, hSm0⟩ := hN
  have r1 : 0 ≤ (m0 3 1) ∧ (m0 3 1) ≤ 700 := zi_rd hIm0 zq_3 zb_2_1
  have r2 : 0 ≤ (m0 190 1) ∧ (m0 190 1) ≤ 700 := zi_rd hIm0 zq_190 zb_28_1
  have w3 := zu_w32_id (z := i + 1) (by omega) (by omega)
  refine zw_if ⟨by omega, by omega⟩ ?_
  have r4 := hSm0 (zu_w32 (i + 1))
  have w5 := zu_w32_id (z := i + 2) (by omega) (by omega)
  refine zw_if ⟨by omega, by omega⟩ ?_
  have r6 := hSm0 (zu_w32 (i + 2))
  refine zw_bd (zw_mono (zk_62 n hIm0 zq_3 ⟨by omega, by omega⟩ ⟨by omega, by omega⟩ hRE89m0 hRG5m0 hRK54m0) (fun v8 m7 hqm7 => ?_))
  obtain ⟨hIm7, hfm7, hvm7⟩ := hqm7
  obtain ⟨hRE89m7, hRG5m7, hRK54m7, hvm7⟩ := hvm7
  have hRBNm7 := zR_BN_fr (zdis_fr hfm7 rfl) hRBNm0
  have hRBYm7 := zR_BY_fr (zdis_fr hfm7 rfl) hRBYm0
  have hRC0m7 := zR_C0_fr (zdis_fr hfm7 rfl) hRC0m0
  have hRE115m7 := zR_E115_fr (zdis_fr hfm7 rfl) hRE115m0
  have hRE63m7 := zR_E63_fr (zdis_fr hfm7 rfl) hRE63m0
  have hRK10m7 := zR_K10_fr (zdis_fr hfm7 rfl) hRK10m0
  have hRKNm7 := zR_KN_fr (zdis_fr hfm7 rfl) hRKNm0
  have hRLKm7 := zR_LK_fr (zdis_fr hfm7 rfl) hRLKm0
  have hRLTm7 := zR_LT_fr (zdis_fr hfm7 rfl) hRLTm0
  have hRNSm7 := zR_NS_fr (zdis_fr hfm7 rfl) hRNSm0
  have hRRIm7 := zR_RI_fr (zdis_fr hfm7 rfl) hRRIm0
  have hRRUm7 := zR_RU_fr (zdis_fr hfm7 rfl) hRRUm0
  have hRSEm7 := zR_SE_fr (zdis_fr hfm7 rfl) hRSEm0
  have hRTAm7 := zR_TA_fr (zdis_fr hfm7 rfl) hRTAm0
  have hRTEm7 := zR_TE_fr (zdis_fr hfm7 rfl) hRTEm0
  have hRTPm7 := zR_TP_fr (zdis_fr hfm7 rfl) hRTPm0
  have hRUNm7 := zR_UN_fr (zdis_fr hfm7 rfl) hRUNm0
  have hRUWm7 := zR_UW_fr (zdis_fr hfm7 rfl) hRUWm0
  have hRW1m7 := zR_W1_fr (zdis_fr hfm7 rfl) hRW1m0
  have hRW2m7 := zR_W2_fr (zdis_fr hfm7 rfl) hRW2m0
  have hRWDm7 := zR_WD_fr (zdis_fr hfm7 rfl) hRWDm0
  have hSm7 := zt_Sf (W := []) (fun p => zfr_ap (p := p) hfm7 zq_1 rfl) hSm0
  refine zw_if ⟨by omega, by omega⟩ ?_
  have r9 := hSm7 (zu_w32 (i + 1))
  have e10 : (m7 1 (zu_w32 (i + 1))) = (m0 1 (zu_w32 (i + 1))) := (zfr_ap hfm7 zq_1 rfl)
  refine zw_if ⟨by omega, by omega⟩ ?_
  have r11 := hSm7 (zu_w32 (i + 2))
  have e12 : (m7 1 (zu_w32 (i + 2))) = (m0 1 (zu_w32 (i + 2))) := (zfr_ap hfm7 zq_1 rfl)
  refine zw_bd (zw_mono (zk_162 n hIm7 zq_190 ⟨by omega, by omega⟩ ⟨by omega, by omega⟩ hRKNm7 hRLTm7 hRSEm7) (fun v14 m13 hqm13 => ?_))
  obtain ⟨hIm13, hfm13, hvm13⟩ := hqm13
  obtain ⟨hRKNm13, hRLTm13, hRSEm13, hvm13⟩ := hvm13
  have hRBNm13 := zR_BN_fr (zdis_fr hfm13 rfl) hRBNm7
  have hRBYm13 := zR_BY_fr (zdis_fr hfm13 rfl) hRBYm7
  have hRC0m13 := zR_C0_fr (zdis_fr hfm13 rfl) hRC0m7
  have hRE115m13 := zR_E115_fr (zdis_fr hfm13 rfl) hRE115m7
  have hRE63m13 := zR_E63_fr (zdis_fr hfm13 rfl) hRE63m7
  have hRE89m13 := zR_E89_fr (zdis_fr hfm13 rfl) hRE89m7
  have hRG5m13 := zR_G5_fr (zdis_fr hfm13 rfl) hRG5m7
  have hRK10m13 := zR_K10_fr (zdis_fr hfm13 rfl) hRK10m7
  have hRK54m13 := zR_K54_fr (zdis_fr hfm13 rfl) hRK54m7
  have hRLKm13 := zR_LK_fr (zdis_fr hfm13 rfl) hRLKm7
  have hRNSm13 := zR_NS_fr (zdis_fr hfm13 rfl) hRNSm7
  have hRRIm13 := zR_RI_fr (zdis_fr hfm13 rfl) hRRIm7
  have hRRUm13 := zR_RU_fr (zdis_fr hfm13 rfl) hRRUm7
  have hRTAm13 := zR_TA_fr (zdis_fr hfm13 rfl) hRTAm7
  have hRTEm13 := zR_TE_fr (zdis_fr hfm13 rfl) hRTEm7
  have hRTPm13 := zR_TP_fr (zdis_fr hfm13 rfl) hRTPm7
  have hRUNm13 := zR_UN_fr (zdis_fr hfm13 rfl) hRUNm7
  have hRUWm13 := zR_UW_fr (zdis_fr hfm13 rfl) hRUWm7
  have hRW1m13 := zR_W1_fr (zdis_fr hfm13 rfl) hRW1m7
  have hRW2m13 := zR_W2_fr (zdis_fr hfm13 rfl) hRW2m7
  have hRWDm13 := zR_WD_fr (zdis_fr hfm13 rfl) hRWDm7
  have hSm13 := zt_Sf (W := []) (fun p => zfr_ap (p := p) hfm13 zq_1 rfl) hSm7
  have r15 : 0 ≤ (m13 3 1) ∧ (m13 3 1) ≤ 700 := zi_rd hIm13 zq_3 zb_2_1
  have e16 : (m13 3 1) = (m0 3 1) := (Eq.trans (zfr_ap hfm13 zq_3 rfl) (zfr_ap hfm7 zq_3 rfl))
  have r17 : 0 ≤ (m13 190 1) ∧ (m13 190 1) ≤ 700 := zi_rd hIm13 zq_190 zb_28_1
  have e18 : (m13 190 1) = (m0 190 1) := (Eq.trans (zfr_ap hfm13 zq_190 rfl) (zfr_ap hfm7 zq_190 rfl))
  exact zw_kex (ih _ ⟨hIm13, hRBNm13, hRC0m13, hRE115m13, hRE63m13, hRE89m13, hRG5m13, hRK10m13, hRK54m13, hRKNm13, hRLTm13, hRNSm13, hRRIm13, hRRUm13, hRSEm13, hRTEm13, hRUNm13, hRUWm13, hRWDm13, hRW1m13, hRW2m13, hRBYm13, hRTAm13, hRTPm13, hRLKm13, by omega, hSm13⟩)
theorem zlw_902 {n : Nat} {K : Nat → Nat → Nat → List zu_v → List zu_v → zu_m → Prop} (hst : zt_HS n K) (hp2 : ∀ (cells slots pc : Nat) (i v : Int) (m : zu_m), pc ∈ [529, 552] → K cells slots (pc + 1) [(3, 1), (5, 3), (40, 190), (53, 233), (0, i), (2, 0), (2, 0)] [] m → K cells slots pc [(3, 1), (5, 3), (40, 190), (53, 233), (0, i), (2, 0), (2, 0)] [(1, v)] m) {cells slots : Nat} {i : Int} {m0 : zu_m} (hN : zt_INV m0) (hi0 : 0 ≤ i) (hi1 : i ≤ (n : Int) - 6) (hn : n ≤ 3072) (ih : ∀ m, zt_INV m → K cells slots 1454 [(3, 1), (5, 3), (40, 190), (53, 233), (0, i), (2, 0), (2, 0)] [] m) : K cells slots 902 [(3, 1), (5, 3), (40, 190), (53, 233), (0, i), (2, 0), (2, 0)] [] m0 := by
  refine hst cells slots [23, 40, 208, 281, 306, 331, 356, 370, 396, 433, 470, 507, 529, 552, 556, 605, 618, 655, 680, 705, 730, 755, 792, 865, 902, 939, 964, 977, 1002, 1028, 1041, 1078, 1103, 1128, 1205, 1230, 1255, 1280, 1341, 1390, 1403, 1416, 1429, 1454] 400 902 _ _ _ ?_
  refine zw_eq (zlr_902 n _ _ i m0) ?_
  obtain ⟨hIm0, hRBNm0, hRC0m0, hRE115m0, hRE63m0, hRE89m0, hRG5m0, hRK10m0, hRK54m0, hRKNm0, hRLTm0, hRNSm0, hRRIm0, hRRUm0, hRSEm0, hRTEm0, hRUNm0, hRUWm0, hRWDm0, hRW1m0, hRW2m0, hRBYm0, hRTAm0, hRTPm0, hRLKm0, hT, hSm0⟩ := hN
  have r1 : 0 ≤ (m0 3 1) ∧ (m0 3 1) ≤ 700 := zi_rd hIm0 zq_3 zb_2_1
  have r2 : 0 ≤ (m0 190 1) ∧ (m0 190 1) ≤ 700 := zi_rd hIm0 zq_190 zb_28_1
  have w3 := zu_w32_id (z := i + 1) (by omega) (by omega)
  refine zw_if ⟨by omega, by omega⟩ ?_
  have r4 := hSm0 (zu_w32 (i + 1))
  have w5 := zu_w32_id (z := i + 2) (by omega) (by omega)
  refine zw_if ⟨by omega, by omega⟩ ?_
  have r6 := hSm0 (zu_w32 (i + 2))
  refine zw_bd (zw_mono (zk_63 n hIm0 zq_3 ⟨by omega, by omega⟩ ⟨by omega, by omega⟩ hRE89m0 hRG5m0 hRK54m0) (fun v8 m7 hqm7 => ?_))
  obtain ⟨hIm7, hfm7, hvm7⟩ := hqm7
  obtain ⟨hRE89m7, hRG5m7, hRK54m7, hvm7⟩ := hvm7
  have hRBNm7 := zR_BN_fr (zdis_fr hfm7 rfl) hRBNm0
  have hRBYm7 := zR_BY_fr (zdis_fr hfm7 rfl) hRBYm0
  have hRC0m7 := zR_C0_fr (zdis_fr hfm7 rfl) hRC0m0
  have hRE115m7 := zR_E115_fr (zdis_fr hfm7 rfl) hRE115m0
  have hRE63m7 := zR_E63_fr (zdis_fr hfm7 rfl) hRE63m0
  have hRK10m7 := zR_K10_fr (zdis_fr hfm7 rfl) hRK10m0
  have hRKNm7 := zR_KN_fr (zdis_fr hfm7 rfl) hRKNm0
  have hRLKm7 := zR_LK_fr (zdis_fr hfm7 rfl) hRLKm0
  have hRLTm7 := zR_LT_fr (zdis_fr hfm7 rfl) hRLTm0
  have hRNSm7 := zR_NS_fr (zdis_fr hfm7 rfl) hRNSm0
  have hRRIm7 := zR_RI_fr (zdis_fr hfm7 rfl) hRRIm0
  have hRRUm7 := zR_RU_fr (zdis_fr hfm7 rfl) hRRUm0
  have hRSEm7 := zR_SE_fr (zdis_fr hfm7 rfl) hRSEm0
  have hRTAm7 := zR_TA_fr (zdis_fr hfm7 rfl) hRTAm0
  have hRTEm7 := zR_TE_fr (zdis_fr hfm7 rfl) hRTEm0
  have hRTPm7 := zR_TP_fr (zdis_fr hfm7 rfl) hRTPm0
  have hRUNm7 := zR_UN_fr (zdis_fr hfm7 rfl) hRUNm0
  have hRUWm7 := zR_UW_fr (zdis_fr hfm7 rfl) hRUWm0
  have hRW1m7 := zR_W1_fr (zdis_fr hfm7 rfl) hRW1m0
  have hRW2m7 := zR_W2_fr (zdis_fr hfm7 rfl) hRW2m0
  have hRWDm7 := zR_WD_fr (zdis_fr hfm7 rfl) hRWDm0
  have hSm7 := zt_Sf (W := []) (fun p => zfr_ap (p := p) hfm7 zq_1 rfl) hSm0
  refine zw_if ⟨by omega, by omega⟩ ?_
  have r9 := hSm7 (zu_w32 (i + 1))
  have e10 : (m7 1 (zu_w32 (i + 1))) = (m0 1 (zu_w32 (i + 1))) := (zfr_ap hfm7 zq_1 rfl)
  refine zw_if ⟨by omega, by omega⟩ ?_
  have r11 := hSm7 (zu_w32 (i + 2))
  have e12 : (m7 1 (zu_w32 (i + 2))) = (m0 1 (zu_w32 (i + 2))) := (zfr_ap hfm7 zq_1 rfl)
  refine zw_bd (zw_mono (zk_164 n hIm7 zq_190 ⟨by omega, by omega⟩ ⟨by omega, by omega⟩ hRKNm7 hRLTm7 hRSEm7) (fun v14 m13 hqm13 => ?_))
  obtain ⟨hIm13, hfm13, hvm13⟩ := hqm13
  obtain ⟨hRKNm13, hRLTm13, hRSEm13, hvm13⟩ := hvm13
  have hRBNm13 := zR_BN_fr (zdis_fr hfm13 rfl) hRBNm7
  have hRBYm13 := zR_BY_fr (zdis_fr hfm13 rfl) hRBYm7
  have hRC0m13 := zR_C0_fr (zdis_fr hfm13 rfl) hRC0m7
  have hRE115m13 := zR_E115_fr (zdis_fr hfm13 rfl) hRE115m7
  have hRE63m13 := zR_E63_fr (zdis_fr hfm13 rfl) hRE63m7
  have hRE89m13 := zR_E89_fr (zdis_fr hfm13 rfl) hRE89m7
  have hRG5m13 := zR_G5_fr (zdis_fr hfm13 rfl) hRG5m7
  have hRK10m13 := zR_K10_fr (zdis_fr hfm13 rfl) hRK10m7
  have hRK54m13 := zR_K54_fr (zdis_fr hfm13 rfl) hRK54m7
  have hRLKm13 := zR_LK_fr (zdis_fr hfm13 rfl) hRLKm7
  have hRNSm13 := zR_NS_fr (zdis_fr hfm13 rfl) hRNSm7
  have hRRIm13 := zR_RI_fr (zdis_fr hfm13 rfl) hRRIm7
  have hRRUm13 := zR_RU_fr (zdis_fr hfm13 rfl) hRRUm7
  have hRTAm13 := zR_TA_fr (zdis_fr hfm13 rfl) hRTAm7
  have hRTEm13 := zR_TE_fr (zdis_fr hfm13 rfl) hRTEm7
  have hRTPm13 := zR_TP_fr (zdis_fr hfm13 rfl) hRTPm7
  have hRUNm13 := zR_UN_fr (zdis_fr hfm13 rfl) hRUNm7
  have hRUWm13 := zR_UW_fr (zdis_fr hfm13 rfl) hRUWm7
  have hRW1m13 := zR_W1_fr (zdis_fr hfm13 rfl) hRW1m7
  have hRW2m13 := zR_W2_fr (zdis_fr hfm13 rfl) hRW2m7
  have hRWDm13 := zR_WD_fr (zdis_fr hfm13 rfl) hRWDm7
  have hSm13 := zt_Sf (W := []) (fun p => zfr_ap (p := p) hfm13 zq_1 rfl) hSm7
  have r15 : 0 ≤ (m13 3 1) ∧ (m13 3 1) ≤ 700 := zi_rd hIm13 zq_3 zb_2_1
  have e16 : (m13 3 1) = (m0 3 1) := (Eq.trans (zfr_ap hfm13 zq_3 rfl) (zfr_ap hfm7 zq_3 rfl))
  have r17 : 0 ≤ (m13 190 1) ∧ (m13 190 1) ≤ 700 := zi_rd hIm13 zq_190 zb_28_1
  have e18 : (m13 190 1) = (m0 190 1) := (Eq.trans (zfr_ap hfm13 zq_190 rfl) (zfr_ap hfm7 zq_190 rfl))
  exact zw_kex (ih _ ⟨hIm13, hRBNm13, hRC0m13, hRE115m13, hRE63m13, hRE89m13, hRG5m13, hRK10m13, hRK54m13, hRKNm13, hRLTm13, hRNSm13, hRRIm13, hRRUm13, hRSEm13, hRTEm13, hRUNm13, hRUWm13, hRWDm13, hRW1m13, hRW2m13, hRBYm13, hRTAm13, hRTPm13, hRLKm13, by omega, hSm13⟩)
theorem zlw_939 {n : Nat} {K : Nat → Nat → Nat → List zu_v → List zu_v → zu_m → Prop} (hst : zt_HS n K) (hp2 : ∀ (cells slots pc : Nat) (i v : Int) (m : zu_m), pc ∈ [529, 552] → K cells slots (pc + 1) [(3, 1), (5, 3), (40, 190), (53, 233), (0, i), (2, 0), (2, 0)] [] m → K cells slots pc [(3, 1), (5, 3), (40, 190), (53, 233), (0, i), (2, 0), (2, 0)] [(1, v)] m) {cells slots : Nat} {i : Int} {m0 : zu_m} (hN : zt_INV m0) (hi0 : 0 ≤ i) (hi1 : i ≤ (n : Int) - 6) (hn : n ≤ 3072) (ih : ∀ m, zt_INV m → K cells slots 1454 [(3, 1), (5, 3), (40, 190), (53, 233), (0, i), (2, 0), (2, 0)] [] m) : K cells slots 939 [(3, 1), (5, 3), (40, 190), (53, 233), (0, i), (2, 0), (2, 0)] [] m0 := by
  refine hst cells slots [23, 40, 208, 281, 306, 331, 356, 370, 396, 433, 470, 507, 529, 552, 556, 605, 618, 655, 680, 705, 730, 755, 792, 865, 902, 939, 964, 977, 1002, 1028, 1041, 1078, 1103, 1128, 1205, 1230, 1255, 1280, 1341, 1390, 1403, 1416, 1429, 1454] 400 939 _ _ _ ?_
  refine zw_eq (zlr_939 n _ _ i m0) ?_
  obtain ⟨hIm0, hRBNm0, hRC0m0, hRE115m0, hRE63m0, hRE89m0, hRG5m0, hRK10m0, hRK54m0, hRKNm0, hRLTm0, hRNSm0, hRRIm0, hRRUm0, hRSEm0, hRTEm0, hRUNm0, hRUWm0, hRWDm0, hRW1m0, hRW2m0, hRBYm0, hRTAm0, hRTPm0, hRLKm0, hT, hSm0⟩ := hN
  have r1 : 0 ≤ (m0 3 1) ∧ (m0 3 1) ≤ 700 := zi_rd hIm0 zq_3 zb_2_1
  have r2 : 0 ≤ (m0 190 1) ∧ (m0 190 1) ≤ 700 := zi_rd hIm0 zq_190 zb_28_1
  have w3 := zu_w32_id (z := i + 1) (by omega) (by omega)
  refine zw_if ⟨by omega, by omega⟩ ?_
  have r4 := hSm0 (zu_w32 (i + 1))
  refine zw_bd (zw_mono (zk_64 n hIm0 zq_3 ⟨by omega, by omega⟩ hRE89m0 hRG5m0 hRK54m0) (fun v6 m5 hqm5 => ?_))
  obtain ⟨hIm5, hfm5, hvm5⟩ := hqm5
  obtain ⟨hRE89m5, hRG5m5, hRK54m5, hvm5⟩ := hvm5
  have hRBNm5 := zR_BN_fr (zdis_fr hfm5 rfl) hRBNm0
  have hRBYm5 := zR_BY_fr (zdis_fr hfm5 rfl) hRBYm0
  have hRC0m5 := zR_C0_fr (zdis_fr hfm5 rfl) hRC0m0
  have hRE115m5 := zR_E115_fr (zdis_fr hfm5 rfl) hRE115m0
  have hRE63m5 := zR_E63_fr (zdis_fr hfm5 rfl) hRE63m0
  have hRK10m5 := zR_K10_fr (zdis_fr hfm5 rfl) hRK10m0
  have hRKNm5 := zR_KN_fr (zdis_fr hfm5 rfl) hRKNm0
  have hRLKm5 := zR_LK_fr (zdis_fr hfm5 rfl) hRLKm0
  have hRLTm5 := zR_LT_fr (zdis_fr hfm5 rfl) hRLTm0
  have hRNSm5 := zR_NS_fr (zdis_fr hfm5 rfl) hRNSm0
  have hRRIm5 := zR_RI_fr (zdis_fr hfm5 rfl) hRRIm0
  have hRRUm5 := zR_RU_fr (zdis_fr hfm5 rfl) hRRUm0
  have hRSEm5 := zR_SE_fr (zdis_fr hfm5 rfl) hRSEm0
  have hRTAm5 := zR_TA_fr (zdis_fr hfm5 rfl) hRTAm0
  have hRTEm5 := zR_TE_fr (zdis_fr hfm5 rfl) hRTEm0
  have hRTPm5 := zR_TP_fr (zdis_fr hfm5 rfl) hRTPm0
  have hRUNm5 := zR_UN_fr (zdis_fr hfm5 rfl) hRUNm0
  have hRUWm5 := zR_UW_fr (zdis_fr hfm5 rfl) hRUWm0
  have hRW1m5 := zR_W1_fr (zdis_fr hfm5 rfl) hRW1m0
  have hRW2m5 := zR_W2_fr (zdis_fr hfm5 rfl) hRW2m0
  have hRWDm5 := zR_WD_fr (zdis_fr hfm5 rfl) hRWDm0
  have hSm5 := zt_Sf (W := []) (fun p => zfr_ap (p := p) hfm5 zq_1 rfl) hSm0
  refine zw_if ⟨by omega, by omega⟩ ?_
  have r7 := hSm5 (zu_w32 (i + 1))
  have e8 : (m5 1 (zu_w32 (i + 1))) = (m0 1 (zu_w32 (i + 1))) := (zfr_ap hfm5 zq_1 rfl)
  refine zw_bd (zw_mono (zk_165 n hIm5 zq_190 ⟨by omega, by omega⟩ hRKNm5 hRLTm5 hRSEm5) (fun v10 m9 hqm9 => ?_))
  obtain ⟨hIm9, hfm9, hvm9⟩ := hqm9
  obtain ⟨hRKNm9, hRLTm9, hRSEm9, hvm9⟩ := hvm9
  have hRBNm9 := zR_BN_fr (zdis_fr hfm9 rfl) hRBNm5
  have hRBYm9 := zR_BY_fr (zdis_fr hfm9 rfl) hRBYm5
  have hRC0m9 := zR_C0_fr (zdis_fr hfm9 rfl) hRC0m5
  have hRE115m9 := zR_E115_fr (zdis_fr hfm9 rfl) hRE115m5
  have hRE63m9 := zR_E63_fr (zdis_fr hfm9 rfl) hRE63m5
  have hRE89m9 := zR_E89_fr (zdis_fr hfm9 rfl) hRE89m5
  have hRG5m9 := zR_G5_fr (zdis_fr hfm9 rfl) hRG5m5
  have hRK10m9 := zR_K10_fr (zdis_fr hfm9 rfl) hRK10m5
  have hRK54m9 := zR_K54_fr (zdis_fr hfm9 rfl) hRK54m5
  have hRLKm9 := zR_LK_fr (zdis_fr hfm9 rfl) hRLKm5
  have hRNSm9 := zR_NS_fr (zdis_fr hfm9 rfl) hRNSm5
  have hRRIm9 := zR_RI_fr (zdis_fr hfm9 rfl) hRRIm5
  have hRRUm9 := zR_RU_fr (zdis_fr hfm9 rfl) hRRUm5
  have hRTAm9 := zR_TA_fr (zdis_fr hfm9 rfl) hRTAm5
  have hRTEm9 := zR_TE_fr (zdis_fr hfm9 rfl) hRTEm5
  have hRTPm9 := zR_TP_fr (zdis_fr hfm9 rfl) hRTPm5
  have hRUNm9 := zR_UN_fr (zdis_fr hfm9 rfl) hRUNm5
  have hRUWm9 := zR_UW_fr (zdis_fr hfm9 rfl) hRUWm5
  have hRW1m9 := zR_W1_fr (zdis_fr hfm9 rfl) hRW1m5
  have hRW2m9 := zR_W2_fr (zdis_fr hfm9 rfl) hRW2m5
  have hRWDm9 := zR_WD_fr (zdis_fr hfm9 rfl) hRWDm5
  have hSm9 := zt_Sf (W := []) (fun p => zfr_ap (p := p) hfm9 zq_1 rfl) hSm5
  have r11 : 0 ≤ (m9 3 1) ∧ (m9 3 1) ≤ 700 := zi_rd hIm9 zq_3 zb_2_1
  have e12 : (m9 3 1) = (m0 3 1) := (Eq.trans (zfr_ap hfm9 zq_3 rfl) (zfr_ap hfm5 zq_3 rfl))
  have r13 : 0 ≤ (m9 190 1) ∧ (m9 190 1) ≤ 700 := zi_rd hIm9 zq_190 zb_28_1
  have e14 : (m9 190 1) = (m0 190 1) := (Eq.trans (zfr_ap hfm9 zq_190 rfl) (zfr_ap hfm5 zq_190 rfl))
  exact zw_kex (ih _ ⟨hIm9, hRBNm9, hRC0m9, hRE115m9, hRE63m9, hRE89m9, hRG5m9, hRK10m9, hRK54m9, hRKNm9, hRLTm9, hRNSm9, hRRIm9, hRRUm9, hRSEm9, hRTEm9, hRUNm9, hRUWm9, hRWDm9, hRW1m9, hRW2m9, hRBYm9, hRTAm9, hRTPm9, hRLKm9, by omega, hSm9⟩)
theorem zlw_964 {n : Nat} {K : Nat → Nat → Nat → List zu_v → List zu_v → zu_m → Prop} (hst : zt_HS n K) (hp2 : ∀ (cells slots pc : Nat) (i v : Int) (m : zu_m), pc ∈ [529, 552] → K cells slots (pc + 1) [(3, 1), (5, 3), (40, 190), (53, 233), (0, i), (2, 0), (2, 0)] [] m → K cells slots pc [(3, 1), (5, 3), (40, 190), (53, 233), (0, i), (2, 0), (2, 0)] [(1, v)] m) {cells slots : Nat} {i : Int} {m0 : zu_m} (hN : zt_INV m0) (hi0 : 0 ≤ i) (hi1 : i ≤ (n : Int) - 6) (hn : n ≤ 3072) (ih : ∀ m, zt_INV m → K cells slots 1454 [(3, 1), (5, 3), (40, 190), (53, 233), (0, i), (2, 0), (2, 0)] [] m) : K cells slots 964 [(3, 1), (5, 3), (40, 190), (53, 233), (0, i), (2, 0), (2, 0)] [] m0 := by
  refine hst cells slots [23, 40, 208, 281, 306, 331, 356, 370, 396, 433, 470, 507, 529, 552, 556, 605, 618, 655, 680, 705, 730, 755, 792, 865, 902, 939, 964, 977, 1002, 1028, 1041, 1078, 1103, 1128, 1205, 1230, 1255, 1280, 1341, 1390, 1403, 1416, 1429, 1454] 400 964 _ _ _ ?_
  refine zw_eq (zlr_964 n _ _ i m0) ?_
  obtain ⟨hIm0, hRBNm0, hRC0m0, hRE115m0, hRE63m0, hRE89m0, hRG5m0, hRK10m0, hRK54m0, hRKNm0, hRLTm0, hRNSm0, hRRIm0, hRRUm0, hRSEm0, hRTEm0, hRUNm0, hRUWm0, hRWDm0, hRW1m0, hRW2m0, hRBYm0, hRTAm0, hRTPm0, hRLKm0, hT, hSm0⟩ := hN
  have r1 : 0 ≤ (m0 3 1) ∧ (m0 3 1) ≤ 700 := zi_rd hIm0 zq_3 zb_2_1
  have r2 : 0 ≤ (m0 190 1) ∧ (m0 190 1) ≤ 700 := zi_rd hIm0 zq_190 zb_28_1
  refine zw_bd (zw_mono (zk_65 n hIm0 zq_3) (fun v4 m3 hqm3 => ?_))
  obtain ⟨hIm3, hfm3, hvm3⟩ := hqm3
  have hRBNm3 := zR_BN_fr (zdis_fr hfm3 rfl) hRBNm0
  have hRBYm3 := zR_BY_fr (zdis_fr hfm3 rfl) hRBYm0
  have hRC0m3 := zR_C0_fr (zdis_fr hfm3 rfl) hRC0m0
  have hRE115m3 := zR_E115_fr (zdis_fr hfm3 rfl) hRE115m0
  have hRE63m3 := zR_E63_fr (zdis_fr hfm3 rfl) hRE63m0
  have hRE89m3 := zR_E89_fr (zdis_fr hfm3 rfl) hRE89m0
  have hRG5m3 := zR_G5_fr (zdis_fr hfm3 rfl) hRG5m0
  have hRK10m3 := zR_K10_fr (zdis_fr hfm3 rfl) hRK10m0
  have hRK54m3 := zR_K54_fr (zdis_fr hfm3 rfl) hRK54m0
  have hRKNm3 := zR_KN_fr (zdis_fr hfm3 rfl) hRKNm0
  have hRLKm3 := zR_LK_fr (zdis_fr hfm3 rfl) hRLKm0
  have hRLTm3 := zR_LT_fr (zdis_fr hfm3 rfl) hRLTm0
  have hRNSm3 := zR_NS_fr (zdis_fr hfm3 rfl) hRNSm0
  have hRRIm3 := zR_RI_fr (zdis_fr hfm3 rfl) hRRIm0
  have hRRUm3 := zR_RU_fr (zdis_fr hfm3 rfl) hRRUm0
  have hRSEm3 := zR_SE_fr (zdis_fr hfm3 rfl) hRSEm0
  have hRTAm3 := zR_TA_fr (zdis_fr hfm3 rfl) hRTAm0
  have hRTEm3 := zR_TE_fr (zdis_fr hfm3 rfl) hRTEm0
  have hRTPm3 := zR_TP_fr (zdis_fr hfm3 rfl) hRTPm0
  have hRUNm3 := zR_UN_fr (zdis_fr hfm3 rfl) hRUNm0
  have hRUWm3 := zR_UW_fr (zdis_fr hfm3 rfl) hRUWm0
  have hRW1m3 := zR_W1_fr (zdis_fr hfm3 rfl) hRW1m0
  have hRW2m3 := zR_W2_fr (zdis_fr hfm3 rfl) hRW2m0
  have hRWDm3 := zR_WD_fr (zdis_fr hfm3 rfl) hRWDm0
  have hSm3 := zt_Sf (W := []) (fun p => zfr_ap (p := p) hfm3 zq_1 rfl) hSm0
  refine zw_bd (zw_mono (zk_170 n hIm3 zq_190) (fun v6 m5 hqm5 => ?_))
  obtain ⟨hIm5, hfm5, hvm5⟩ := hqm5
  have hRBNm5 := zR_BN_fr (zdis_fr hfm5 rfl) hRBNm3
  have hRBYm5 := zR_BY_fr (zdis_fr hfm5 rfl) hRBYm3
  have hRC0m5 := zR_C0_fr (zdis_fr hfm5 rfl) hRC0m3
  have hRE115m5 := zR_E115_fr (zdis_fr hfm5 rfl) hRE115m3
  have hRE63m5 := zR_E63_fr (zdis_fr hfm5 rfl) hRE63m3
  have hRE89m5 := zR_E89_fr (zdis_fr hfm5 rfl) hRE89m3
  have hRG5m5 := zR_G5_fr (zdis_fr hfm5 rfl) hRG5m3
  have hRK10m5 := zR_K10_fr (zdis_fr hfm5 rfl) hRK10m3
  have hRK54m5 := zR_K54_fr (zdis_fr hfm5 rfl) hRK54m3
  have hRKNm5 := zR_KN_fr (zdis_fr hfm5 rfl) hRKNm3
  have hRLKm5 := zR_LK_fr (zdis_fr hfm5 rfl) hRLKm3
  have hRLTm5 := zR_LT_fr (zdis_fr hfm5 rfl) hRLTm3
  have hRNSm5 := zR_NS_fr (zdis_fr hfm5 rfl) hRNSm3
  have hRRIm5 := zR_RI_fr (zdis_fr hfm5 rfl) hRRIm3
  have hRRUm5 := zR_RU_fr (zdis_fr hfm5 rfl) hRRUm3
  have hRSEm5 := zR_SE_fr (zdis_fr hfm5 rfl) hRSEm3
  have hRTAm5 := zR_TA_fr (zdis_fr hfm5 rfl) hRTAm3
  have hRTEm5 := zR_TE_fr (zdis_fr hfm5 rfl) hRTEm3
  have hRTPm5 := zR_TP_fr (zdis_fr hfm5 rfl) hRTPm3
  have hRUNm5 := zR_UN_fr (zdis_fr hfm5 rfl) hRUNm3
  have hRUWm5 := zR_UW_fr (zdis_fr hfm5 rfl) hRUWm3
  have hRW1m5 := zR_W1_fr (zdis_fr hfm5 rfl) hRW1m3
  have hRW2m5 := zR_W2_fr (zdis_fr hfm5 rfl) hRW2m3
  have hRWDm5 := zR_WD_fr (zdis_fr hfm5 rfl) hRWDm3
  have hSm5 := zt_Sf (W := []) (fun p => zfr_ap (p := p) hfm5 zq_1 rfl) hSm3
  have r7 : 0 ≤ (m5 3 1) ∧ (m5 3 1) ≤ 700 := zi_rd hIm5 zq_3 zb_2_1
  have e8 : (m5 3 1) = (m0 3 1) := (Eq.trans (zfr_ap hfm5 zq_3 rfl) (zfr_ap hfm3 zq_3 rfl))
  have r9 : 0 ≤ (m5 190 1) ∧ (m5 190 1) ≤ 700 := zi_rd hIm5 zq_190 zb_28_1
  have e10 : (m5 190 1) = (m0 190 1) := (Eq.trans (zfr_ap hfm5 zq_190 rfl) (zfr_ap hfm3 zq_190 rfl))
  exact zw_kex (ih _ ⟨hIm5, hRBNm5, hRC0m5, hRE115m5, hRE63m5, hRE89m5, hRG5m5, hRK10m5, hRK54m5, hRKNm5, hRLTm5, hRNSm5, hRRIm5, hRRUm5, hRSEm5, hRTEm5, hRUNm5, hRUWm5, hRWDm5, hRW1m5, hRW2m5, hRBYm5, hRTAm5, hRTPm5, hRLKm5, by omega, hSm5⟩)
theorem zlw_977 {n : Nat} {K : Nat → Nat → Nat → List zu_v → List zu_v → zu_m → Prop} (hst : zt_HS n K) (hp2 : ∀ (cells slots pc : Nat) (i v : Int) (m : zu_m), pc ∈ [529, 552] → K cells slots (pc + 1) [(3, 1), (5, 3), (40, 190), (53, 233), (0, i), (2, 0), (2, 0)] [] m → K cells slots pc [(3, 1), (5, 3), (40, 190), (53, 233), (0, i), (2, 0), (2, 0)] [(1, v)] m) {cells slots : Nat} {i : Int} {m0 : zu_m} (hN : zt_INV m0) (hi0 : 0 ≤ i) (hi1 : i ≤ (n : Int) - 6) (hn : n ≤ 3072) (ih : ∀ m, zt_INV m → K cells slots 1454 [(3, 1), (5, 3), (40, 190), (53, 233), (0, i), (2, 0), (2, 0)] [] m) : K cells slots 977 [(3, 1), (5, 3), (40, 190), (53, 233), (0, i), (2, 0), (2, 0)] [] m0 := by
  refine hst cells slots [23, 40, 208, 281, 306, 331, 356, 370, 396, 433, 470, 507, 529, 552, 556, 605, 618, 655, 680, 705, 730, 755, 792, 865, 902, 939, 964, 977, 1002, 1028, 1041, 1078, 1103, 1128, 1205, 1230, 1255, 1280, 1341, 1390, 1403, 1416, 1429, 1454] 400 977 _ _ _ ?_
  refine zw_eq (zlr_977 n _ _ i m0) ?_
  obtain ⟨hIm0, hRBNm0, hRC0m0, hRE115m0, hRE63m0, hRE89m0, hRG5m0, hRK10m0, hRK54m0, hRKNm0, hRLTm0, hRNSm0, hRRIm0, hRRUm0, hRSEm0, hRTEm0, hRUNm0, hRUWm0, hRWDm0, hRW1m0, hRW2m0, hRBYm0, hRTAm0, hRTPm0, hRLKm0, hT, hSm0⟩ := hN
  have r1 : 0 ≤ (m0 3 1) ∧ (m0 3 1) ≤ 700 := zi_rd hIm0 zq_3 zb_2_1
  have r2 : 0 ≤ (m0 190 1) ∧ (m0 190 1) ≤ 700 := zi_rd hIm0 zq_190 zb_28_1
  have w3 := zu_w32_id (z := i + 1) (by omega) (by omega)
  refine zw_if ⟨by omega, by omega⟩ ?_
  have r4 := hSm0 (zu_w32 (i + 1))
  refine zw_bd (zw_mono (zk_66 n hIm0 zq_3 ⟨by omega, by omega⟩) (fun v6 m5 hqm5 => ?_))
  obtain ⟨hIm5, hfm5, hvm5⟩ := hqm5
  have hRBNm5 := zR_BN_fr (zdis_fr hfm5 rfl) hRBNm0
  have hRBYm5 := zR_BY_fr (zdis_fr hfm5 rfl) hRBYm0
  have hRC0m5 := zR_C0_fr (zdis_fr hfm5 rfl) hRC0m0
  have hRE115m5 := zR_E115_fr (zdis_fr hfm5 rfl) hRE115m0
  have hRE63m5 := zR_E63_fr (zdis_fr hfm5 rfl) hRE63m0
  have hRE89m5 := zR_E89_fr (zdis_fr hfm5 rfl) hRE89m0
  have hRG5m5 := zR_G5_fr (zdis_fr hfm5 rfl) hRG5m0
  have hRK10m5 := zR_K10_fr (zdis_fr hfm5 rfl) hRK10m0
  have hRK54m5 := zR_K54_fr (zdis_fr hfm5 rfl) hRK54m0
  have hRKNm5 := zR_KN_fr (zdis_fr hfm5 rfl) hRKNm0
  have hRLKm5 := zR_LK_fr (zdis_fr hfm5 rfl) hRLKm0
  have hRLTm5 := zR_LT_fr (zdis_fr hfm5 rfl) hRLTm0
  have hRNSm5 := zR_NS_fr (zdis_fr hfm5 rfl) hRNSm0
  have hRRIm5 := zR_RI_fr (zdis_fr hfm5 rfl) hRRIm0
  have hRRUm5 := zR_RU_fr (zdis_fr hfm5 rfl) hRRUm0
  have hRSEm5 := zR_SE_fr (zdis_fr hfm5 rfl) hRSEm0
  have hRTAm5 := zR_TA_fr (zdis_fr hfm5 rfl) hRTAm0
  have hRTEm5 := zR_TE_fr (zdis_fr hfm5 rfl) hRTEm0
  have hRTPm5 := zR_TP_fr (zdis_fr hfm5 rfl) hRTPm0
  have hRUNm5 := zR_UN_fr (zdis_fr hfm5 rfl) hRUNm0
  have hRUWm5 := zR_UW_fr (zdis_fr hfm5 rfl) hRUWm0
  have hRW1m5 := zR_W1_fr (zdis_fr hfm5 rfl) hRW1m0
  have hRW2m5 := zR_W2_fr (zdis_fr hfm5 rfl) hRW2m0
  have hRWDm5 := zR_WD_fr (zdis_fr hfm5 rfl) hRWDm0
  have hSm5 := zt_Sf (W := []) (fun p => zfr_ap (p := p) hfm5 zq_1 rfl) hSm0
  refine zw_if ⟨by omega, by omega⟩ ?_
  have r7 := hSm5 (zu_w32 (i + 1))
  have e8 : (m5 1 (zu_w32 (i + 1))) = (m0 1 (zu_w32 (i + 1))) := (zfr_ap hfm5 zq_1 rfl)
  refine zw_bd (zw_mono (zk_171 n hIm5 zq_190 ⟨by omega, by omega⟩) (fun v10 m9 hqm9 => ?_))
  obtain ⟨hIm9, hfm9, hvm9⟩ := hqm9
  have hRBNm9 := zR_BN_fr (zdis_fr hfm9 rfl) hRBNm5
  have hRBYm9 := zR_BY_fr (zdis_fr hfm9 rfl) hRBYm5
  have hRC0m9 := zR_C0_fr (zdis_fr hfm9 rfl) hRC0m5
  have hRE115m9 := zR_E115_fr (zdis_fr hfm9 rfl) hRE115m5
  have hRE63m9 := zR_E63_fr (zdis_fr hfm9 rfl) hRE63m5
  have hRE89m9 := zR_E89_fr (zdis_fr hfm9 rfl) hRE89m5
  have hRG5m9 := zR_G5_fr (zdis_fr hfm9 rfl) hRG5m5
  have hRK10m9 := zR_K10_fr (zdis_fr hfm9 rfl) hRK10m5
  have hRK54m9 := zR_K54_fr (zdis_fr hfm9 rfl) hRK54m5
  have hRKNm9 := zR_KN_fr (zdis_fr hfm9 rfl) hRKNm5
  have hRLKm9 := zR_LK_fr (zdis_fr hfm9 rfl) hRLKm5
  have hRLTm9 := zR_LT_fr (zdis_fr hfm9 rfl) hRLTm5
  have hRNSm9 := zR_NS_fr (zdis_fr hfm9 rfl) hRNSm5
  have hRRIm9 := zR_RI_fr (zdis_fr hfm9 rfl) hRRIm5
  have hRRUm9 := zR_RU_fr (zdis_fr hfm9 rfl) hRRUm5
  have hRSEm9 := zR_SE_fr (zdis_fr hfm9 rfl) hRSEm5
  have hRTAm9 := zR_TA_fr (zdis_fr hfm9 rfl) hRTAm5
  have hRTEm9 := zR_TE_fr (zdis_fr hfm9 rfl) hRTEm5
  have hRTPm9 := zR_TP_fr (zdis_fr hfm9 rfl) hRTPm5
  have hRUNm9 := zR_UN_fr (zdis_fr hfm9 rfl) hRUNm5
  have hRUWm9 := zR_UW_fr (zdis_fr hfm9 rfl) hRUWm5
  have hRW1m9 := zR_W1_fr (zdis_fr hfm9 rfl) hRW1m5
  have hRW2m9 := zR_W2_fr (zdis_fr hfm9 rfl) hRW2m5
  have hRWDm9 := zR_WD_fr (zdis_fr hfm9 rfl) hRWDm5
  have hSm9 := zt_Sf (W := []) (fun p => zfr_ap (p := p) hfm9 zq_1 rfl) hSm5
  have r11 : 0 ≤ (m9 3 1) ∧ (m9 3 1) ≤ 700 := zi_rd hIm9 zq_3 zb_2_1
  have e12 : (m9 3 1) = (m0 3 1) := (Eq.trans (zfr_ap hfm9 zq_3 rfl) (zfr_ap hfm5 zq_3 rfl))
  have r13 : 0 ≤ (m9 190 1) ∧ (m9 190 1) ≤ 700 := zi_rd hIm9 zq_190 zb_28_1
  have e14 : (m9 190 1) = (m0 190 1) := (Eq.trans (zfr_ap hfm9 zq_190 rfl) (zfr_ap hfm5 zq_190 rfl))
  exact zw_kex (ih _ ⟨hIm9, hRBNm9, hRC0m9, hRE115m9, hRE63m9, hRE89m9, hRG5m9, hRK10m9, hRK54m9, hRKNm9, hRLTm9, hRNSm9, hRRIm9, hRRUm9, hRSEm9, hRTEm9, hRUNm9, hRUWm9, hRWDm9, hRW1m9, hRW2m9, hRBYm9, hRTAm9, hRTPm9, hRLKm9, by omega, hSm9⟩)
theorem zlw_1002 {n : Nat} {K : Nat → Nat → Nat → List zu_v → List zu_v → zu_m → Prop} (hst : zt_HS n K) (hp2 : ∀ (cells slots pc : Nat) (i v : Int) (m : zu_m), pc ∈ [529, 552] → K cells slots (pc + 1) [(3, 1), (5, 3), (40, 190), (53, 233), (0, i), (2, 0), (2, 0)] [] m → K cells slots pc [(3, 1), (5, 3), (40, 190), (53, 233), (0, i), (2, 0), (2, 0)] [(1, v)] m) {cells slots : Nat} {i : Int} {m0 : zu_m} (hN : zt_INV m0) (hi0 : 0 ≤ i) (hi1 : i ≤ (n : Int) - 6) (hn : n ≤ 3072) (ih : ∀ m, zt_INV m → K cells slots 1454 [(3, 1), (5, 3), (40, 190), (53, 233), (0, i), (2, 0), (2, 0)] [] m) : K cells slots 1002 [(3, 1), (5, 3), (40, 190), (53, 233), (0, i), (2, 0), (2, 0)] [] m0 := by
  refine hst cells slots [23, 40, 208, 281, 306, 331, 356, 370, 396, 433, 470, 507, 529, 552, 556, 605, 618, 655, 680, 705, 730, 755, 792, 865, 902, 939, 964, 977, 1002, 1028, 1041, 1078, 1103, 1128, 1205, 1230, 1255, 1280, 1341, 1390, 1403, 1416, 1429, 1454] 400 1002 _ _ _ ?_
  refine zw_eq (zlr_1002 n _ _ i m0) ?_
  obtain ⟨hIm0, hRBNm0, hRC0m0, hRE115m0, hRE63m0, hRE89m0, hRG5m0, hRK10m0, hRK54m0, hRKNm0, hRLTm0, hRNSm0, hRRIm0, hRRUm0, hRSEm0, hRTEm0, hRUNm0, hRUWm0, hRWDm0, hRW1m0, hRW2m0, hRBYm0, hRTAm0, hRTPm0, hRLKm0, hT, hSm0⟩ := hN
  have r1 : 0 ≤ (m0 3 1) ∧ (m0 3 1) ≤ 700 := zi_rd hIm0 zq_3 zb_2_1
  have r2 : 0 ≤ (m0 190 1) ∧ (m0 190 1) ≤ 700 := zi_rd hIm0 zq_190 zb_28_1
  have w3 := zu_w32_id (z := i + 1) (by omega) (by omega)
  refine zw_if ⟨by omega, by omega⟩ ?_
  have r4 := hSm0 (zu_w32 (i + 1))
  refine zw_bd (zw_mono (zw_self (zk_67 n hIm0 zq_3 ⟨by omega, by omega⟩)) (fun v6 m5 hqm5 => ?_))
  obtain ⟨⟨hIm5, hfm5, hvm5⟩, hcm5⟩ := hqm5
  have hRBNm5 := zR_BN_fr (zdis_fr hfm5 rfl) hRBNm0
  have hRBYm5 := zR_BY_fr (zdis_fr hfm5 rfl) hRBYm0
  have hRC0m5 := zR_C0_fr (zdis_fr hfm5 rfl) hRC0m0
  have hRE115m5 := zR_E115_fr (zdis_fr hfm5 rfl) hRE115m0
  have hRE63m5 := zR_E63_fr (zdis_fr hfm5 rfl) hRE63m0
  have hRE89m5 := zR_E89_fr (zdis_fr hfm5 rfl) hRE89m0
  have hRG5m5 := zR_G5_fr (zdis_fr hfm5 rfl) hRG5m0
  have hRK10m5 := zR_K10_fr (zdis_fr hfm5 rfl) hRK10m0
  have hRK54m5 := zR_K54_fr (zdis_fr hfm5 rfl) hRK54m0
  have hRKNm5 := zR_KN_fr (zdis_fr hfm5 rfl) hRKNm0
  have hRLKm5 := zR_LK_fr (zdis_fr hfm5 rfl) hRLKm0
  have hRLTm5 := zR_LT_fr (zdis_fr hfm5 rfl) hRLTm0
  have hRNSm5 := zR_NS_fr (zdis_fr hfm5 rfl) hRNSm0
  have hRRIm5 := zR_RI_fr (zdis_fr hfm5 rfl) hRRIm0
  have hRRUm5 := zR_RU_fr (zdis_fr hfm5 rfl) hRRUm0
  have hRSEm5 := zR_SE_fr (zdis_fr hfm5 rfl) hRSEm0
  have hRTAm5 := zR_TA_fr (zdis_fr hfm5 rfl) hRTAm0
  have hRTEm5 := zR_TE_fr (zdis_fr hfm5 rfl) hRTEm0
  have hRTPm5 := zR_TP_fr (zdis_fr hfm5 rfl) hRTPm0
  have hRUNm5 := zR_UN_fr (zdis_fr hfm5 rfl) hRUNm0
  have hRUWm5 := zR_UW_fr (zdis_fr hfm5 rfl) hRUWm0
  have hRW1m5 := zR_W1_fr (zdis_fr hfm5 rfl) hRW1m0
  have hRW2m5 := zR_W2_fr (zdis_fr hfm5 rfl) hRW2m0
  have hRWDm5 := zR_WD_fr (zdis_fr hfm5 rfl) hRWDm0
  have hSm5 := zt_Sf (W := []) (fun p => zfr_ap (p := p) hfm5 zq_1 rfl) hSm0
  refine zw_if ⟨by omega, by omega⟩ ?_
  have r7 := hSm5 (zu_w32 (i + 1))
  have e8 : (m5 1 (zu_w32 (i + 1))) = (m0 1 (zu_w32 (i + 1))) := (zfr_ap hfm5 zq_1 rfl)
  refine zw_bd (zw_mono (zw_self (zk_172 n hIm5 zq_190 ⟨by omega, by omega⟩ hRKNm5 hRLTm5)) (fun v10 m9 hqm9 => ?_))
  obtain ⟨⟨hIm9, hfm9, hvm9⟩, hcm9⟩ := hqm9
  obtain ⟨hRKNm9, hRLTm9, hvm9⟩ := hvm9
  have hRBNm9 := zR_BN_fr (zdis_fr hfm9 rfl) hRBNm5
  have hRBYm9 := zR_BY_fr (zdis_fr hfm9 rfl) hRBYm5
  have hRC0m9 := zR_C0_fr (zdis_fr hfm9 rfl) hRC0m5
  have hRE115m9 := zR_E115_fr (zdis_fr hfm9 rfl) hRE115m5
  have hRE63m9 := zR_E63_fr (zdis_fr hfm9 rfl) hRE63m5
  have hRE89m9 := zR_E89_fr (zdis_fr hfm9 rfl) hRE89m5
  have hRG5m9 := zR_G5_fr (zdis_fr hfm9 rfl) hRG5m5
  have hRK10m9 := zR_K10_fr (zdis_fr hfm9 rfl) hRK10m5
  have hRK54m9 := zR_K54_fr (zdis_fr hfm9 rfl) hRK54m5
  have hRLKm9 := zR_LK_fr (zdis_fr hfm9 rfl) hRLKm5
  have hRNSm9 := zR_NS_fr (zdis_fr hfm9 rfl) hRNSm5
  have hRRIm9 := zR_RI_fr (zdis_fr hfm9 rfl) hRRIm5
  have hRRUm9 := zR_RU_fr (zdis_fr hfm9 rfl) hRRUm5
  have hRSEm9 := zR_SE_fr (zdis_fr hfm9 rfl) hRSEm5
  have hRTAm9 := zR_TA_fr (zdis_fr hfm9 rfl) hRTAm5
  have hRTEm9 := zR_TE_fr (zdis_fr hfm9 rfl) hRTEm5
  have hRTPm9 := zR_TP_fr (zdis_fr hfm9 rfl) hRTPm5
  have hRUNm9 := zR_UN_fr (zdis_fr hfm9 rfl) hRUNm5
  have hRUWm9 := zR_UW_fr (zdis_fr hfm9 rfl) hRUWm5
  have hRW1m9 := zR_W1_fr (zdis_fr hfm9 rfl) hRW1m5
  have hRW2m9 := zR_W2_fr (zdis_fr hfm9 rfl) hRW2m5
  have hRWDm9 := zR_WD_fr (zdis_fr hfm9 rfl) hRWDm5
  have heq12 := zz_alikeL n (zfr_ap hfm5 zq_1 rfl) hIm0 hIm5 hRKNm5 hRLTm5 hRLKm0 hfm5 rfl hcm5 hcm9
  have hSm9 := zt_Sf (W := []) (fun p => zfr_ap (p := p) hfm9 zq_1 rfl) hSm5
  refine zw_ite (fun h13 => ?_) (fun h13 => ?_)
  · have r14 : 0 ≤ (m9 3 1) ∧ (m9 3 1) ≤ 700 := zi_rd hIm9 zq_3 zb_2_1
    have e15 : (m9 3 1) = (m0 3 1) := (Eq.trans (zfr_ap hfm9 zq_3 rfl) (zfr_ap hfm5 zq_3 rfl))
    have r16 : 0 ≤ (m9 190 1) ∧ (m9 190 1) ≤ 700 := zi_rd hIm9 zq_190 zb_28_1
    have e17 : (m9 190 1) = (m0 190 1) := (Eq.trans (zfr_ap hfm9 zq_190 rfl) (zfr_ap hfm5 zq_190 rfl))
    exact zw_kex (ih _ ⟨hIm9, hRBNm9, hRC0m9, hRE115m9, hRE63m9, hRE89m9, hRG5m9, hRK10m9, hRK54m9, hRKNm9, hRLTm9, hRNSm9, hRRIm9, hRRUm9, hRSEm9, hRTEm9, hRUNm9, hRUWm9, hRWDm9, hRW1m9, hRW2m9, hRBYm9, hRTAm9, hRTPm9, hRLKm9, by omega, hSm9⟩)
  · exact absurd (zlc_eq.mpr (by omega)) h13
theorem zlw_1028 {n : Nat} {K : Nat → Nat → Nat → List zu_v → List zu_v → zu_m → Prop} (hst : zt_HS n K) (hp2 : ∀ (cells slots pc : Nat) (i v : Int) (m : zu_m), pc ∈ [529, 552] → K cells slots (pc + 1) [(3, 1), (5, 3), (40, 190), (53, 233), (0, i), (2, 0), (2, 0)] [] m → K cells slots pc [(3, 1), (5, 3), (40, 190), (53, 233), (0, i), (2, 0), (2, 0)] [(1, v)] m) {cells slots : Nat} {i : Int} {m0 : zu_m} (hN : zt_INV m0) (hi0 : 0 ≤ i) (hi1 : i ≤ (n : Int) - 6) (hn : n ≤ 3072) (ih : ∀ m, zt_INV m → K cells slots 1454 [(3, 1), (5, 3), (40, 190), (53, 233), (0, i), (2, 0), (2, 0)] [] m) : K cells slots 1028 [(3, 1), (5, 3), (40, 190), (53, 233), (0, i), (2, 0), (2, 0)] [] m0 := by
  refine hst cells slots [23, 40, 208, 281, 306, 331, 356, 370, 396, 433, 470, 507, 529, 552, 556, 605, 618, 655, 680, 705, 730, 755, 792, 865, 902, 939, 964, 977, 1002, 1028, 1041, 1078, 1103, 1128, 1205, 1230, 1255, 1280, 1341, 1390, 1403, 1416, 1429, 1454] 400 1028 _ _ _ ?_
  refine zw_eq (zlr_1028 n _ _ i m0) ?_
  obtain ⟨hIm0, hRBNm0, hRC0m0, hRE115m0, hRE63m0, hRE89m0, hRG5m0, hRK10m0, hRK54m0, hRKNm0, hRLTm0, hRNSm0, hRRIm0, hRRUm0, hRSEm0, hRTEm0, hRUNm0, hRUWm0, hRWDm0, hRW1m0, hRW2m0, hRBYm0, hRTAm0, hRTPm0, hRLKm0, hT, hSm0⟩ := hN
  have r1 : 0 ≤ (m0 3 1) ∧ (m0 3 1) ≤ 700 := zi_rd hIm0 zq_3 zb_2_1
  have r2 : 0 ≤ (m0 190 1) ∧ (m0 190 1) ≤ 700 := zi_rd hIm0 zq_190 zb_28_1
  refine zw_bd (zw_mono (zk_68 n hIm0 zq_3 hRK54m0) (fun v4 m3 hqm3 => ?_))
  obtain ⟨hIm3, hfm3, hvm3⟩ := hqm3
  obtain ⟨hRK54m3, hvm3⟩ := hvm3
  have hRBNm3 := zR_BN_fr (zdis_fr hfm3 rfl) hRBNm0
  have hRBYm3 := zR_BY_fr (zdis_fr hfm3 rfl) hRBYm0
  have hRC0m3 := zR_C0_fr (zdis_fr hfm3 rfl) hRC0m0
  have hRE115m3 := zR_E115_fr (zdis_fr hfm3 rfl) hRE115m0
  have hRE63m3 := zR_E63_fr (zdis_fr hfm3 rfl) hRE63m0
  have hRE89m3 := zR_E89_fr (zdis_fr hfm3 rfl) hRE89m0
  have hRG5m3 := zR_G5_fr (zdis_fr hfm3 rfl) hRG5m0
  have hRK10m3 := zR_K10_fr (zdis_fr hfm3 rfl) hRK10m0
  have hRKNm3 := zR_KN_fr (zdis_fr hfm3 rfl) hRKNm0
  have hRLKm3 := zR_LK_fr (zdis_fr hfm3 rfl) hRLKm0
  have hRLTm3 := zR_LT_fr (zdis_fr hfm3 rfl) hRLTm0
  have hRNSm3 := zR_NS_fr (zdis_fr hfm3 rfl) hRNSm0
  have hRRIm3 := zR_RI_fr (zdis_fr hfm3 rfl) hRRIm0
  have hRRUm3 := zR_RU_fr (zdis_fr hfm3 rfl) hRRUm0
  have hRSEm3 := zR_SE_fr (zdis_fr hfm3 rfl) hRSEm0
  have hRTAm3 := zR_TA_fr (zdis_fr hfm3 rfl) hRTAm0
  have hRTEm3 := zR_TE_fr (zdis_fr hfm3 rfl) hRTEm0
  have hRTPm3 := zR_TP_fr (zdis_fr hfm3 rfl) hRTPm0
  have hRUNm3 := zR_UN_fr (zdis_fr hfm3 rfl) hRUNm0
  have hRUWm3 := zR_UW_fr (zdis_fr hfm3 rfl) hRUWm0
  have hRW1m3 := zR_W1_fr (zdis_fr hfm3 rfl) hRW1m0
  have hRW2m3 := zR_W2_fr (zdis_fr hfm3 rfl) hRW2m0
  have hRWDm3 := zR_WD_fr (zdis_fr hfm3 rfl) hRWDm0
  have hSm3 := zt_Sf (W := []) (fun p => zfr_ap (p := p) hfm3 zq_1 rfl) hSm0
  refine zw_bd (zw_mono (zk_173 n hIm3 zq_190 hRKNm3 hRLTm3) (fun v6 m5 hqm5 => ?_))
  obtain ⟨hIm5, hfm5, hvm5⟩ := hqm5
  obtain ⟨hRKNm5, hRLTm5, hvm5⟩ := hvm5
  have hRBNm5 := zR_BN_fr (zdis_fr hfm5 rfl) hRBNm3
  have hRBYm5 := zR_BY_fr (zdis_fr hfm5 rfl) hRBYm3
  have hRC0m5 := zR_C0_fr (zdis_fr hfm5 rfl) hRC0m3
  have hRE115m5 := zR_E115_fr (zdis_fr hfm5 rfl) hRE115m3
  have hRE63m5 := zR_E63_fr (zdis_fr hfm5 rfl) hRE63m3
  have hRE89m5 := zR_E89_fr (zdis_fr hfm5 rfl) hRE89m3
  have hRG5m5 := zR_G5_fr (zdis_fr hfm5 rfl) hRG5m3
  have hRK10m5 := zR_K10_fr (zdis_fr hfm5 rfl) hRK10m3
  have hRK54m5 := zR_K54_fr (zdis_fr hfm5 rfl) hRK54m3
  have hRLKm5 := zR_LK_fr (zdis_fr hfm5 rfl) hRLKm3
  have hRNSm5 := zR_NS_fr (zdis_fr hfm5 rfl) hRNSm3
  have hRRIm5 := zR_RI_fr (zdis_fr hfm5 rfl) hRRIm3
  have hRRUm5 := zR_RU_fr (zdis_fr hfm5 rfl) hRRUm3
  have hRSEm5 := zR_SE_fr (zdis_fr hfm5 rfl) hRSEm3
  have hRTAm5 := zR_TA_fr (zdis_fr hfm5 rfl) hRTAm3
  have hRTEm5 := zR_TE_fr (zdis_fr hfm5 rfl) hRTEm3
  have hRTPm5 := zR_TP_fr (zdis_fr hfm5 rfl) hRTPm3
  have hRUNm5 := zR_UN_fr (zdis_fr hfm5 rfl) hRUNm3
  have hRUWm5 := zR_UW_fr (zdis_fr hfm5 rfl) hRUWm3
  have hRW1m5 := zR_W1_fr (zdis_fr hfm5 rfl) hRW1m3
  have hRW2m5 := zR_W2_fr (zdis_fr hfm5 rfl) hRW2m3
  have hRWDm5 := zR_WD_fr (zdis_fr hfm5 rfl) hRWDm3
  have hSm5 := zt_Sf (W := []) (fun p => zfr_ap (p := p) hfm5 zq_1 rfl) hSm3
  have r7 : 0 ≤ (m5 3 1) ∧ (m5 3 1) ≤ 700 := zi_rd hIm5 zq_3 zb_2_1
  have e8 : (m5 3 1) = (m0 3 1) := (Eq.trans (zfr_ap hfm5 zq_3 rfl) (zfr_ap hfm3 zq_3 rfl))
  have r9 : 0 ≤ (m5 190 1) ∧ (m5 190 1) ≤ 700 := zi_rd hIm5 zq_190 zb_28_1
  have e10 : (m5 190 1) = (m0 190 1) := (Eq.trans (zfr_ap hfm5 zq_190 rfl) (zfr_ap hfm3 zq_190 rfl))
  exact zw_kex (ih _ ⟨hIm5, hRBNm5, hRC0m5, hRE115m5, hRE63m5, hRE89m5, hRG5m5, hRK10m5, hRK54m5, hRKNm5, hRLTm5, hRNSm5, hRRIm5, hRRUm5, hRSEm5, hRTEm5, hRUNm5, hRUWm5, hRWDm5, hRW1m5, hRW2m5, hRBYm5, hRTAm5, hRTPm5, hRLKm5, by omega, hSm5⟩)
theorem zlw_1041 {n : Nat} {K : Nat → Nat → Nat → List zu_v → List zu_v → zu_m → Prop} (hst : zt_HS n K) (hp2 : ∀ (cells slots pc : Nat) (i v : Int) (m : zu_m), pc ∈ [529, 552] → K cells slots (pc + 1) [(3, 1), (5, 3), (40, 190), (53, 233), (0, i), (2, 0), (2, 0)] [] m → K cells slots pc [(3, 1), (5, 3), (40, 190), (53, 233), (0, i), (2, 0), (2, 0)] [(1, v)] m) {cells slots : Nat} {i : Int} {m0 : zu_m} (hN : zt_INV m0) (hi0 : 0 ≤ i) (hi1 : i ≤ (n : Int) - 6) (hn : n ≤ 3072) (ih : ∀ m, zt_INV m → K cells slots 1454 [(3, 1), (5, 3), (40, 190), (53, 233), (0, i), (2, 0), (2, 0)] [] m) : K cells slots 1041 [(3, 1), (5, 3), (40, 190), (53, 233), (0, i), (2, 0), (2, 0)] [] m0 := by
  refine hst cells slots [23, 40, 208, 281, 306, 331, 356, 370, 396, 433, 470, 507, 529, 552, 556, 605, 618, 655, 680, 705, 730, 755, 792, 865, 902, 939, 964, 977, 1002, 1028, 1041, 1078, 1103, 1128, 1205, 1230, 1255, 1280, 1341, 1390, 1403, 1416, 1429, 1454] 400 1041 _ _ _ ?_
  refine zw_eq (zlr_1041 n _ _ i m0) ?_
  obtain ⟨hIm0, hRBNm0, hRC0m0, hRE115m0, hRE63m0, hRE89m0, hRG5m0, hRK10m0, hRK54m0, hRKNm0, hRLTm0, hRNSm0, hRRIm0, hRRUm0, hRSEm0, hRTEm0, hRUNm0, hRUWm0, hRWDm0, hRW1m0, hRW2m0, hRBYm0, hRTAm0, hRTPm0, hRLKm0, hT, hSm0⟩ := hN
  have r1 : 0 ≤ (m0 3 1) ∧ (m0 3 1) ≤ 700 := zi_rd hIm0 zq_3 zb_2_1
  have r2 : 0 ≤ (m0 190 1) ∧ (m0 190 1) ≤ 700 := zi_rd hIm0 zq_190 zb_28_1
  have w3 := zu_w32_id (z := i + 1) (by omega) (by omega)
  refine zw_if ⟨by omega, by omega⟩ ?_
  have r4 := hSm0 (zu_w32 (i + 1))
  have w5 := zu_w32_id (z := i + 2) (by omega) (by omega)
  refine zw_if ⟨by omega, by omega⟩ ?_
  have r6 := hSm0 (zu_w32 (i + 2))
  refine zw_bd (zw_mono (zk_69 n hIm0 zq_3 ⟨by omega, by omega⟩ ⟨by omega, by omega⟩ hRK54m0) (fun v8 m7 hqm7 => ?_))
  obtain ⟨hIm7, hfm7, hvm7⟩ := hqm7
  obtain ⟨hRK54m7, hvm7⟩ := hvm7
  have hRBNm7 := zR_BN_fr (zdis_fr hfm7 rfl) hRBNm0
  have hRBYm7 := zR_BY_fr (zdis_fr hfm7 rfl) hRBYm0
  have hRC0m7 := zR_C0_fr (zdis_fr hfm7 rfl) hRC0m0
  have hRE115m7 := zR_E115_fr (zdis_fr hfm7 rfl) hRE115m0
  have hRE63m7 := zR_E63_fr (zdis_fr hfm7 rfl) hRE63m0
  have hRE89m7 := zR_E89_fr (zdis_fr hfm7 rfl) hRE89m0
  have hRG5m7 := zR_G5_fr (zdis_fr hfm7 rfl) hRG5m0
  have hRK10m7 := zR_K10_fr (zdis_fr hfm7 rfl) hRK10m0
  have hRKNm7 := zR_KN_fr (zdis_fr hfm7 rfl) hRKNm0
  have hRLKm7 := zR_LK_fr (zdis_fr hfm7 rfl) hRLKm0
  have hRLTm7 := zR_LT_fr (zdis_fr hfm7 rfl) hRLTm0
  have hRNSm7 := zR_NS_fr (zdis_fr hfm7 rfl) hRNSm0
  have hRRIm7 := zR_RI_fr (zdis_fr hfm7 rfl) hRRIm0
  have hRRUm7 := zR_RU_fr (zdis_fr hfm7 rfl) hRRUm0
  have hRSEm7 := zR_SE_fr (zdis_fr hfm7 rfl) hRSEm0
  have hRTAm7 := zR_TA_fr (zdis_fr hfm7 rfl) hRTAm0
  have hRTEm7 := zR_TE_fr (zdis_fr hfm7 rfl) hRTEm0
  have hRTPm7 := zR_TP_fr (zdis_fr hfm7 rfl) hRTPm0
  have hRUNm7 := zR_UN_fr (zdis_fr hfm7 rfl) hRUNm0
  have hRUWm7 := zR_UW_fr (zdis_fr hfm7 rfl) hRUWm0
  have hRW1m7 := zR_W1_fr (zdis_fr hfm7 rfl) hRW1m0
  have hRW2m7 := zR_W2_fr (zdis_fr hfm7 rfl) hRW2m0
  have hRWDm7 := zR_WD_fr (zdis_fr hfm7 rfl) hRWDm0
  have hSm7 := zt_Sf (W := []) (fun p => zfr_ap (p := p) hfm7 zq_1 rfl) hSm0
  refine zw_if ⟨by omega, by omega⟩ ?_
  have r9 := hSm7 (zu_w32 (i + 1))
  have e10 : (m7 1 (zu_w32 (i + 1))) = (m0 1 (zu_w32 (i + 1))) := (zfr_ap hfm7 zq_1 rfl)
  refine zw_if ⟨by omega, by omega⟩ ?_
  have r11 := hSm7 (zu_w32 (i + 2))
  have e12 : (m7 1 (zu_w32 (i + 2))) = (m0 1 (zu_w32 (i + 2))) := (zfr_ap hfm7 zq_1 rfl)
  refine zw_bd (zw_mono (zk_174 n hIm7 zq_190 ⟨by omega, by omega⟩ ⟨by omega, by omega⟩ hRKNm7 hRLTm7) (fun v14 m13 hqm13 => ?_))
  obtain ⟨hIm13, hfm13, hvm13⟩ := hqm13
  obtain ⟨hRKNm13, hRLTm13, hvm13⟩ := hvm13
  have hRBNm13 := zR_BN_fr (zdis_fr hfm13 rfl) hRBNm7
  have hRBYm13 := zR_BY_fr (zdis_fr hfm13 rfl) hRBYm7
  have hRC0m13 := zR_C0_fr (zdis_fr hfm13 rfl) hRC0m7
  have hRE115m13 := zR_E115_fr (zdis_fr hfm13 rfl) hRE115m7
  have hRE63m13 := zR_E63_fr (zdis_fr hfm13 rfl) hRE63m7
  have hRE89m13 := zR_E89_fr (zdis_fr hfm13 rfl) hRE89m7
  have hRG5m13 := zR_G5_fr (zdis_fr hfm13 rfl) hRG5m7
  have hRK10m13 := zR_K10_fr (zdis_fr hfm13 rfl) hRK10m7
  have hRK54m13 := zR_K54_fr (zdis_fr hfm13 rfl) hRK54m7
  have hRLKm13 := zR_LK_fr (zdis_fr hfm13 rfl) hRLKm7
  have hRNSm13 := zR_NS_fr (zdis_fr hfm13 rfl) hRNSm7
  have hRRIm13 := zR_RI_fr (zdis_fr hfm13 rfl) hRRIm7
  have hRRUm13 := zR_RU_fr (zdis_fr hfm13 rfl) hRRUm7
  have hRSEm13 := zR_SE_fr (zdis_fr hfm13 rfl) hRSEm7
  have hRTAm13 := zR_TA_fr (zdis_fr hfm13 rfl) hRTAm7
  have hRTEm13 := zR_TE_fr (zdis_fr hfm13 rfl) hRTEm7
  have hRTPm13 := zR_TP_fr (zdis_fr hfm13 rfl) hRTPm7
  have hRUNm13 := zR_UN_fr (zdis_fr hfm13 rfl) hRUNm7
  have hRUWm13 := zR_UW_fr (zdis_fr hfm13 rfl) hRUWm7
  have hRW1m13 := zR_W1_fr (zdis_fr hfm13 rfl) hRW1m7
  have hRW2m13 := zR_W2_fr (zdis_fr hfm13 rfl) hRW2m7
  have hRWDm13 := zR_WD_fr (zdis_fr hfm13 rfl) hRWDm7
  have hSm13 := zt_Sf (W := []) (fun p => zfr_ap (p := p) hfm13 zq_1 rfl) hSm7
  have r15 : 0 ≤ (m13 3 1) ∧ (m13 3 1) ≤ 700 := zi_rd hIm13 zq_3 zb_2_1
  have e16 : (m13 3 1) = (m0 3 1) := (Eq.trans (zfr_ap hfm13 zq_3 rfl) (zfr_ap hfm7 zq_3 rfl))
  have r17 : 0 ≤ (m13 190 1) ∧ (m13 190 1) ≤ 700 := zi_rd hIm13 zq_190 zb_28_1
  have e18 : (m13 190 1) = (m0 190 1) := (Eq.trans (zfr_ap hfm13 zq_190 rfl) (zfr_ap hfm7 zq_190 rfl))
  exact zw_kex (ih _ ⟨hIm13, hRBNm13, hRC0m13, hRE115m13, hRE63m13, hRE89m13, hRG5m13, hRK10m13, hRK54m13, hRKNm13, hRLTm13, hRNSm13, hRRIm13, hRRUm13, hRSEm13, hRTEm13, hRUNm13, hRUWm13, hRWDm13, hRW1m13, hRW2m13, hRBYm13, hRTAm13, hRTPm13, hRLKm13, by omega, hSm13⟩)
theorem zlw_1078 {n : Nat} {K : Nat → Nat → Nat → List zu_v → List zu_v → zu_m → Prop} (hst : zt_HS n K) (hp2 : ∀ (cells slots pc : Nat) (i v : Int) (m : zu_m), pc ∈ [529, 552] → K cells slots (pc + 1) [(3, 1), (5, 3), (40, 190), (53, 233), (0, i), (2, 0), (2, 0)] [] m → K cells slots pc [(3, 1), (5, 3), (40, 190), (53, 233), (0, i), (2, 0), (2, 0)] [(1, v)] m) {cells slots : Nat} {i : Int} {m0 : zu_m} (hN : zt_INV m0) (hi0 : 0 ≤ i) (hi1 : i ≤ (n : Int) - 6) (hn : n ≤ 3072) (ih : ∀ m, zt_INV m → K cells slots 1454 [(3, 1), (5, 3), (40, 190), (53, 233), (0, i), (2, 0), (2, 0)] [] m) : K cells slots 1078 [(3, 1), (5, 3), (40, 190), (53, 233), (0, i), (2, 0), (2, 0)] [] m0 := by
  refine hst cells slots [23, 40, 208, 281, 306, 331, 356, 370, 396, 433, 470, 507, 529, 552, 556, 605, 618, 655, 680, 705, 730, 755, 792, 865, 902, 939, 964, 977, 1002, 1028, 1041, 1078, 1103, 1128, 1205, 1230, 1255, 1280, 1341, 1390, 1403, 1416, 1429, 1454] 400 1078 _ _ _ ?_
  refine zw_eq (zlr_1078 n _ _ i m0) ?_
  obtain ⟨hIm0, hRBNm0, hRC0m0, hRE115m0, hRE63m0, hRE89m0, hRG5m0, hRK10m0, hRK54m0, hRKNm0, hRLTm0, hRNSm0, hRRIm0, hRRUm0, hRSEm0, hRTEm0, hRUNm0, hRUWm0, hRWDm0, hRW1m0, hRW2m0, hRBYm0, hRTAm0, hRTPm0, hRLKm0, hT, hSm0⟩ := hN
  have r1 : 0 ≤ (m0 3 1) ∧ (m0 3 1) ≤ 700 := zi_rd hIm0 zq_3 zb_2_1
  have r2 : 0 ≤ (m0 190 1) ∧ (m0 190 1) ≤ 700 := zi_rd hIm0 zq_190 zb_28_1
  have w3 := zu_w32_id (z := i + 1) (by omega) (by omega)
  refine zw_if ⟨by omega, by omega⟩ ?_
  have r4 := hSm0 (zu_w32 (i + 1))
  refine zw_bd (zw_mono (zk_70 n hIm0 zq_3 ⟨by omega, by omega⟩ hRK54m0) (fun v6 m5 hqm5 => ?_))
  obtain ⟨hIm5, hfm5, hvm5⟩ := hqm5
  obtain ⟨hRK54m5, hvm5⟩ := hvm5
  have hRBNm5 := zR_BN_fr (zdis_fr hfm5 rfl) hRBNm0
  have hRBYm5 := zR_BY_fr (zdis_fr hfm5 rfl) hRBYm0
  have hRC0m5 := zR_C0_fr (zdis_fr hfm5 rfl) hRC0m0
  have hRE115m5 := zR_E115_fr (zdis_fr hfm5 rfl) hRE115m0
  have hRE63m5 := zR_E63_fr (zdis_fr hfm5 rfl) hRE63m0
  have hRE89m5 := zR_E89_fr (zdis_fr hfm5 rfl) hRE89m0
  have hRG5m5 := zR_G5_fr (zdis_fr hfm5 rfl) hRG5m0
  have hRK10m5 := zR_K10_fr (zdis_fr hfm5 rfl) hRK10m0
  have hRKNm5 := zR_KN_fr (zdis_fr hfm5 rfl) hRKNm0
  have hRLKm5 := zR_LK_fr (zdis_fr hfm5 rfl) hRLKm0
  have hRLTm5 := zR_LT_fr (zdis_fr hfm5 rfl) hRLTm0
  have hRNSm5 := zR_NS_fr (zdis_fr hfm5 rfl) hRNSm0
  have hRRIm5 := zR_RI_fr (zdis_fr hfm5 rfl) hRRIm0
  have hRRUm5 := zR_RU_fr (zdis_fr hfm5 rfl) hRRUm0
  have hRSEm5 := zR_SE_fr (zdis_fr hfm5 rfl) hRSEm0
  have hRTAm5 := zR_TA_fr (zdis_fr hfm5 rfl) hRTAm0
  have hRTEm5 := zR_TE_fr (zdis_fr hfm5 rfl) hRTEm0
  have hRTPm5 := zR_TP_fr (zdis_fr hfm5 rfl) hRTPm0
  have hRUNm5 := zR_UN_fr (zdis_fr hfm5 rfl) hRUNm0
  have hRUWm5 := zR_UW_fr (zdis_fr hfm5 rfl) hRUWm0
  have hRW1m5 := zR_W1_fr (zdis_fr hfm5 rfl) hRW1m0
  have hRW2m5 := zR_W2_fr (zdis_fr hfm5 rfl) hRW2m0
  have hRWDm5 := zR_WD_fr (zdis_fr hfm5 rfl) hRWDm0
  have hSm5 := zt_Sf (W := []) (fun p => zfr_ap (p := p) hfm5 zq_1 rfl) hSm0
  refine zw_if ⟨by omega, by omega⟩ ?_
  have r7 := hSm5 (zu_w32 (i + 1))
  have e8 : (m5 1 (zu_w32 (i + 1))) = (m0 1 (zu_w32 (i + 1))) := (zfr_ap hfm5 zq_1 rfl)
  refine zw_bd (zw_mono (zk_176 n hIm5 zq_190 ⟨by omega, by omega⟩ hRKNm5 hRLTm5) (fun v10 m9 hqm9 => ?_))
  obtain ⟨hIm9, hfm9, hvm9⟩ := hqm9
  obtain ⟨hRKNm9, hRLTm9, hvm9⟩ := hvm9
  have hRBNm9 := zR_BN_fr (zdis_fr hfm9 rfl) hRBNm5
  have hRBYm9 := zR_BY_fr (zdis_fr hfm9 rfl) hRBYm5
  have hRC0m9 := zR_C0_fr (zdis_fr hfm9 rfl) hRC0m5
  have hRE115m9 := zR_E115_fr (zdis_fr hfm9 rfl) hRE115m5
  have hRE63m9 := zR_E63_fr (zdis_fr hfm9 rfl) hRE63m5
  have hRE89m9 := zR_E89_fr (zdis_fr hfm9 rfl) hRE89m5
  have hRG5m9 := zR_G5_fr (zdis_fr hfm9 rfl) hRG5m5
  have hRK10m9 := zR_K10_fr (zdis_fr hfm9 rfl) hRK10m5
  have hRK54m9 := zR_K54_fr (zdis_fr hfm9 rfl) hRK54m5
  have hRLKm9 := zR_LK_fr (zdis_fr hfm9 rfl) hRLKm5
  have hRNSm9 := zR_NS_fr (zdis_fr hfm9 rfl) hRNSm5
  have hRRIm9 := zR_RI_fr (zdis_fr hfm9 rfl) hRRIm5
  have hRRUm9 := zR_RU_fr (zdis_fr hfm9 rfl) hRRUm5
  have hRSEm9 := zR_SE_fr (zdis_fr hfm9 rfl) hRSEm5
  have hRTAm9 := zR_TA_fr (zdis_fr hfm9 rfl) hRTAm5
  have hRTEm9 := zR_TE_fr (zdis_fr hfm9 rfl) hRTEm5
  have hRTPm9 := zR_TP_fr (zdis_fr hfm9 rfl) hRTPm5
  have hRUNm9 := zR_UN_fr (zdis_fr hfm9 rfl) hRUNm5
  have hRUWm9 := zR_UW_fr (zdis_fr hfm9 rfl) hRUWm5
  have hRW1m9 := zR_W1_fr (zdis_fr hfm9 rfl) hRW1m5
  have hRW2m9 := zR_W2_fr (zdis_fr hfm9 rfl) hRW2m5
  have hRWDm9 := zR_WD_fr (zdis_fr hfm9 rfl) hRWDm5
  have hSm9 := zt_Sf (W := []) (fun p => zfr_ap (p := p) hfm9 zq_1 rfl) hSm5
  have r11 : 0 ≤ (m9 3 1) ∧ (m9 3 1) ≤ 700 := zi_rd hIm9 zq_3 zb_2_1
  have e12 : (m9 3 1) = (m0 3 1) := (Eq.trans (zfr_ap hfm9 zq_3 rfl) (zfr_ap hfm5 zq_3 rfl))
  have r13 : 0 ≤ (m9 190 1) ∧ (m9 190 1) ≤ 700 := zi_rd hIm9 zq_190 zb_28_1
  have e14 : (m9 190 1) = (m0 190 1) := (Eq.trans (zfr_ap hfm9 zq_190 rfl) (zfr_ap hfm5 zq_190 rfl))
  exact zw_kex (ih _ ⟨hIm9, hRBNm9, hRC0m9, hRE115m9, hRE63m9, hRE89m9, hRG5m9, hRK10m9, hRK54m9, hRKNm9, hRLTm9, hRNSm9, hRRIm9, hRRUm9, hRSEm9, hRTEm9, hRUNm9, hRUWm9, hRWDm9, hRW1m9, hRW2m9, hRBYm9, hRTAm9, hRTPm9, hRLKm9, by omega, hSm9⟩)
theorem zlw_1103 {n : Nat} {K : Nat → Nat → Nat → List zu_v → List zu_v → zu_m → Prop} (hst : zt_HS n K) (hp2 : ∀ (cells slots pc : Nat) (i v : Int) (m : zu_m), pc ∈ [529, 552] → K cells slots (pc + 1) [(3, 1), (5, 3), (40, 190), (53, 233), (0, i), (2, 0), (2, 0)] [] m → K cells slots pc [(3, 1), (5, 3), (40, 190), (53, 233), (0, i), (2, 0), (2, 0)] [(1, v)] m) {cells slots : Nat} {i : Int} {m0 : zu_m} (hN : zt_INV m0) (hi0 : 0 ≤ i) (hi1 : i ≤ (n : Int) - 6) (hn : n ≤ 3072) (ih : ∀ m, zt_INV m → K cells slots 1454 [(3, 1), (5, 3), (40, 190), (53, 233), (0, i), (2, 0), (2, 0)] [] m) : K cells slots 1103 [(3, 1), (5, 3), (40, 190), (53, 233), (0, i), (2, 0), (2, 0)] [] m0 := by
  refine hst cells slots [23, 40, 208, 281, 306, 331, 356, 370, 396, 433, 470, 507, 529, 552, 556, 605, 618, 655, 680, 705, 730, 755, 792, 865, 902, 939, 964, 977, 1002, 1028, 1041, 1078, 1103, 1128, 1205, 1230, 1255, 1280, 1341, 1390, 1403, 1416, 1429, 1454] 400 1103 _ _ _ ?_
  refine zw_eq (zlr_1103 n _ _ i m0) ?_
  obtain ⟨hIm0, hRBNm0, hRC0m0, hRE115m0, hRE63m0, hRE89m0, hRG5m0, hRK10m0, hRK54m0, hRKNm0, hRLTm0, hRNSm0, hRRIm0, hRRUm0, hRSEm0, hRTEm0, hRUNm0, hRUWm0, hRWDm0, hRW1m0, hRW2m0, hRBYm0, hRTAm0, hRTPm0, hRLKm0, hT, hSm0⟩ := hN
  have r1 : 0 ≤ (m0 3 1) ∧ (m0 3 1) ≤ 700 := zi_rd hIm0 zq_3 zb_2_1
  have r2 : 0 ≤ (m0 190 1) ∧ (m0 190 1) ≤ 700 := zi_rd hIm0 zq_190 zb_28_1
  have w3 := zu_w32_id (z := i + 1) (by omega) (by omega)
  refine zw_if ⟨by omega, by omega⟩ ?_
  have r4 := hSm0 (zu_w32 (i + 1))
  refine zw_bd (zw_mono (zk_71 n hIm0 zq_3 ⟨by omega, by omega⟩ hRK54m0) (fun v6 m5 hqm5 => ?_))
  obtain ⟨hIm5, hfm5, hvm5⟩ := hqm5
  obtain ⟨hRK54m5, hvm5⟩ := hvm5
  have hRBNm5 := zR_BN_fr (zdis_fr hfm5 rfl) hRBNm0
  have hRBYm5 := zR_BY_fr (zdis_fr hfm5 rfl) hRBYm0
  have hRC0m5 := zR_C0_fr (zdis_fr hfm5 rfl) hRC0m0
  have hRE115m5 := zR_E115_fr (zdis_fr hfm5 rfl) hRE115m0
  have hRE63m5 := zR_E63_fr (zdis_fr hfm5 rfl) hRE63m0
  have hRE89m5 := zR_E89_fr (zdis_fr hfm5 rfl) hRE89m0
  have hRG5m5 := zR_G5_fr (zdis_fr hfm5 rfl) hRG5m0
  have hRK10m5 := zR_K10_fr (zdis_fr hfm5 rfl) hRK10m0
  have hRKNm5 := zR_KN_fr (zdis_fr hfm5 rfl) hRKNm0
  have hRLKm5 := zR_LK_fr (zdis_fr hfm5 rfl) hRLKm0
  have hRLTm5 := zR_LT_fr (zdis_fr hfm5 rfl) hRLTm0
  have hRNSm5 := zR_NS_fr (zdis_fr hfm5 rfl) hRNSm0
  have hRRIm5 := zR_RI_fr (zdis_fr hfm5 rfl) hRRIm0
  have hRRUm5 := zR_RU_fr (zdis_fr hfm5 rfl) hRRUm0
  have hRSEm5 := zR_SE_fr (zdis_fr hfm5 rfl) hRSEm0
  have hRTAm5 := zR_TA_fr (zdis_fr hfm5 rfl) hRTAm0
  have hRTEm5 := zR_TE_fr (zdis_fr hfm5 rfl) hRTEm0
  have hRTPm5 := zR_TP_fr (zdis_fr hfm5 rfl) hRTPm0
  have hRUNm5 := zR_UN_fr (zdis_fr hfm5 rfl) hRUNm0
  have hRUWm5 := zR_UW_fr (zdis_fr hfm5 rfl) hRUWm0
  have hRW1m5 := zR_W1_fr (zdis_fr hfm5 rfl) hRW1m0
  have hRW2m5 := zR_W2_fr (zdis_fr hfm5 rfl) hRW2m0
  have hRWDm5 := zR_WD_fr (zdis_fr hfm5 rfl) hRWDm0
  have hSm5 := zt_Sf (W := []) (fun p => zfr_ap (p := p) hfm5 zq_1 rfl) hSm0
  refine zw_if ⟨by omega, by omega⟩ ?_
  have r7 := hSm5 (zu_w32 (i + 1))
  have e8 : (m5 1 (zu_w32 (i + 1))) = (m0 1 (zu_w32 (i + 1))) := (zfr_ap hfm5 zq_1 rfl)
  refine zw_bd (zw_mono (zk_177 n hIm5 zq_190 ⟨by omega, by omega⟩ hRKNm5 hRLTm5) (fun v10 m9 hqm9 => ?_))
  obtain ⟨hIm9, hfm9, hvm9⟩ := hqm9
  obtain ⟨hRKNm9, hRLTm9, hvm9⟩ := hvm9
  have hRBNm9 := zR_BN_fr (zdis_fr hfm9 rfl) hRBNm5
  have hRBYm9 := zR_BY_fr (zdis_fr hfm9 rfl) hRBYm5
  have hRC0m9 := zR_C0_fr (zdis_fr hfm9 rfl) hRC0m5
  have hRE115m9 := zR_E115_fr (zdis_fr hfm9 rfl) hRE115m5
  have hRE63m9 := zR_E63_fr (zdis_fr hfm9 rfl) hRE63m5
  have hRE89m9 := zR_E89_fr (zdis_fr hfm9 rfl) hRE89m5
  have hRG5m9 := zR_G5_fr (zdis_fr hfm9 rfl) hRG5m5
  have hRK10m9 := zR_K10_fr (zdis_fr hfm9 rfl) hRK10m5
  have hRK54m9 := zR_K54_fr (zdis_fr hfm9 rfl) hRK54m5
  have hRLKm9 := zR_LK_fr (zdis_fr hfm9 rfl) hRLKm5
  have hRNSm9 := zR_NS_fr (zdis_fr hfm9 rfl) hRNSm5
  have hRRIm9 := zR_RI_fr (zdis_fr hfm9 rfl) hRRIm5
  have hRRUm9 := zR_RU_fr (zdis_fr hfm9 rfl) hRRUm5
  have hRSEm9 := zR_SE_fr (zdis_fr hfm9 rfl) hRSEm5
  have hRTAm9 := zR_TA_fr (zdis_fr hfm9 rfl) hRTAm5
  have hRTEm9 := zR_TE_fr (zdis_fr hfm9 rfl) hRTEm5
  have hRTPm9 := zR_TP_fr (zdis_fr hfm9 rfl) hRTPm5
  have hRUNm9 := zR_UN_fr (zdis_fr hfm9 rfl) hRUNm5
  have hRUWm9 := zR_UW_fr (zdis_fr hfm9 rfl) hRUWm5
  have hRW1m9 := zR_W1_fr (zdis_fr hfm9 rfl) hRW1m5
  have hRW2m9 := zR_W2_fr (zdis_fr hfm9 rfl) hRW2m5
  have hRWDm9 := zR_WD_fr (zdis_fr hfm9 rfl) hRWDm5
  have hSm9 := zt_Sf (W := []) (fun p => zfr_ap (p := p) hfm9 zq_1 rfl) hSm5
  have r11 : 0 ≤ (m9 3 1) ∧ (m9 3 1) ≤ 700 := zi_rd hIm9 zq_3 zb_2_1
  have e12 : (m9 3 1) = (m0 3 1) := (Eq.trans (zfr_ap hfm9 zq_3 rfl) (zfr_ap hfm5 zq_3 rfl))
  have r13 : 0 ≤ (m9 190 1) ∧ (m9 190 1) ≤ 700 := zi_rd hIm9 zq_190 zb_28_1
  have e14 : (m9 190 1) = (m0 190 1) := (Eq.trans (zfr_ap hfm9 zq_190 rfl) (zfr_ap hfm5 zq_190 rfl))
  exact zw_kex (ih _ ⟨hIm9, hRBNm9, hRC0m9, hRE115m9, hRE63m9, hRE89m9, hRG5m9, hRK10m9, hRK54m9, hRKNm9, hRLTm9, hRNSm9, hRRIm9, hRRUm9, hRSEm9, hRTEm9, hRUNm9, hRUWm9, hRWDm9, hRW1m9, hRW2m9, hRBYm9, hRTAm9, hRTPm9, hRLKm9, by omega, hSm9⟩)
theorem zlw_1128 {n : Nat} {K : Nat → Nat → Nat → List zu_v → List zu_v → zu_m → Prop} (hst : zt_HS n K) (hp2 : ∀ (cells slots pc : Nat) (i v : Int) (m : zu_m), pc ∈ [529, 552] → K cells slots (pc + 1) [(3, 1), (5, 3), (40, 190), (53, 233), (0, i), (2, 0), (2, 0)] [] m → K cells slots pc [(3, 1), (5, 3), (40, 190), (53, 233), (0, i), (2, 0), (2, 0)] [(1, v)] m) {cells slots : Nat} {i : Int} {m0 : zu_m} (hN : zt_INV m0) (hi0 : 0 ≤ i) (hi1 : i ≤ (n : Int) - 6) (hn : n ≤ 3072) (ih : ∀ m, zt_INV m → K cells slots 1454 [(3, 1), (5, 3), (40, 190), (53, 233), (0, i), (2, 0), (2, 0)] [] m) : K cells slots 1128 [(3, 1), (5, 3), (40, 190), (53, 233), (0, i), (2, 0), (2, 0)] [] m0 := by
  refine hst cells slots [23, 40, 208, 281, 306, 331, 356, 370, 396, 433, 470, 507, 529, 552, 556, 605, 618, 655, 680, 705, 730, 755, 792, 865, 902, 939, 964, 977, 1002, 1028, 1041, 1078, 1103, 1128, 1205, 1230, 1255, 1280, 1341, 1390, 1403, 1416, 1429, 1454] 400 1128 _ _ _ ?_
  refine zw_eq (zlr_1128 n _ _ i m0) ?_
  obtain ⟨hIm0, hRBNm0, hRC0m0, hRE115m0, hRE63m0, hRE89m0, hRG5m0, hRK10m0, hRK54m0, hRKNm0, hRLTm0, hRNSm0, hRRIm0, hRRUm0, hRSEm0, hRTEm0, hRUNm0, hRUWm0, hRWDm0, hRW1m0, hRW2m0, hRBYm0, hRTAm0, hRTPm0, hRLKm0, hT, hSm0⟩ := hN
  have r1 : 0 ≤ (m0 3 1) ∧ (m0 3 1) ≤ 700 := zi_rd hIm0 zq_3 zb_2_1
  have r2 : 0 ≤ (m0 190 1) ∧ (m0 190 1) ≤ 700 := zi_rd hIm0 zq_190 zb_28_1
  have w3 := zu_w32_id (z := i + 1) (by omega) (by omega)
  refine zw_if ⟨by omega, by omega⟩ ?_
  have r4 := hSm0 (zu_w32 (i + 1))
  have w5 := zu_w32_id (z := i + 2) (by omega) (by omega)
  refine zw_if ⟨by omega, by omega⟩ ?_
  have r6 := hSm0 (zu_w32 (i + 2))
  have w7 := zu_w32_id (z := i + 3) (by omega) (by omega)
  refine zw_if ⟨by omega, by omega⟩ ?_
  have r8 := hSm0 (zu_w32 (i + 3))
  have w9 := zu_w32_id (z := i + 4) (by omega) (by omega)
  refine zw_if ⟨by omega, by omega⟩ ?_
  have r10 := hSm0 (zu_w32 (i + 4))
  refine zw_ite (fun h11 => ?_) (fun h11 => ?_)
  · refine zw_bd (zw_mono (zk_72 n hIm0 zq_3 ⟨by omega, by omega⟩ ⟨by omega, by omega⟩ ⟨by omega, by omega⟩ ⟨by decide, by decide⟩) (fun v13 m12 hqm12 => ?_))
    obtain ⟨hIm12, hfm12, hvm12⟩ := hqm12
    have hRBNm12 := zR_BN_fr (zdis_fr hfm12 rfl) hRBNm0
    have hRBYm12 := zR_BY_fr (zdis_fr hfm12 rfl) hRBYm0
    have hRC0m12 := zR_C0_fr (zdis_fr hfm12 rfl) hRC0m0
    have hRE115m12 := zR_E115_fr (zdis_fr hfm12 rfl) hRE115m0
    have hRE63m12 := zR_E63_fr (zdis_fr hfm12 rfl) hRE63m0
    have hRE89m12 := zR_E89_fr (zdis_fr hfm12 rfl) hRE89m0
    have hRG5m12 := zR_G5_fr (zdis_fr hfm12 rfl) hRG5m0
    have hRK10m12 := zR_K10_fr (zdis_fr hfm12 rfl) hRK10m0
    have hRK54m12 := zR_K54_fr (zdis_fr hfm12 rfl) hRK54m0
    have hRKNm12 := zR_KN_fr (zdis_fr hfm12 rfl) hRKNm0
    have hRLKm12 := zR_LK_fr (zdis_fr hfm12 rfl) hRLKm0
    have hRLTm12 := zR_LT_fr (zdis_fr hfm12 rfl) hRLTm0
    have hRNSm12 := zR_NS_fr (zdis_fr hfm12 rfl) hRNSm0
    have hRRIm12 := zR_RI_fr (zdis_fr hfm12 rfl) hRRIm0
    have hRRUm12 := zR_RU_fr (zdis_fr hfm12 rfl) hRRUm0
    have hRSEm12 := zR_SE_fr (zdis_fr hfm12 rfl) hRSEm0
    have hRTAm12 := zR_TA_fr (zdis_fr hfm12 rfl) hRTAm0
    have hRTEm12 := zR_TE_fr (zdis_fr hfm12 rfl) hRTEm0
    have hRTPm12 := zR_TP_fr (zdis_fr hfm12 rfl) hRTPm0
    have hRUNm12 := zR_UN_fr (zdis_fr hfm12 rfl) hRUNm0
    have hRUWm12 := zR_UW_fr (zdis_fr hfm12 rfl) hRUWm0
    have hRW1m12 := zR_W1_fr (zdis_fr hfm12 rfl) hRW1m0
    have hRW2m12 := zR_W2_fr (zdis_fr hfm12 rfl) hRW2m0
    have hRWDm12 := zR_WD_fr (zdis_fr hfm12 rfl) hRWDm0
    have hSm12 := zt_Sf (W := []) (fun p => zfr_ap (p := p) hfm12 zq_1 rfl) hSm0
    refine zw_if ⟨by omega, by omega⟩ ?_
    have r14 := hSm12 (zu_w32 (i + 1))
    have e15 : (m12 1 (zu_w32 (i + 1))) = (m0 1 (zu_w32 (i + 1))) := (zfr_ap hfm12 zq_1 rfl)
    refine zw_if ⟨by omega, by omega⟩ ?_
    have r16 := hSm12 (zu_w32 (i + 2))
    have e17 : (m12 1 (zu_w32 (i + 2))) = (m0 1 (zu_w32 (i + 2))) := (zfr_ap hfm12 zq_1 rfl)
    refine zw_if ⟨by omega, by omega⟩ ?_
    have r18 := hSm12 (zu_w32 (i + 3))
    have e19 : (m12 1 (zu_w32 (i + 3))) = (m0 1 (zu_w32 (i + 3))) := (zfr_ap hfm12 zq_1 rfl)
    refine zw_if ⟨by omega, by omega⟩ ?_
    have r20 := hSm12 (zu_w32 (i + 4))
    have e21 : (m12 1 (zu_w32 (i + 4))) = (m0 1 (zu_w32 (i + 4))) := (zfr_ap hfm12 zq_1 rfl)
    refine zw_ite (fun h22 => ?_) (fun h22 => ?_)
    · refine zw_bd (zw_mono (zk_179 n hIm12 zq_190 ⟨by omega, by omega⟩ ⟨by omega, by omega⟩ ⟨by omega, by omega⟩ ⟨by decide, by decide⟩) (fun v24 m23 hqm23 => ?_))
      obtain ⟨hIm23, hfm23, hvm23⟩ := hqm23
      have hRBNm23 := zR_BN_fr (zdis_fr hfm23 rfl) hRBNm12
      have hRBYm23 := zR_BY_fr (zdis_fr hfm23 rfl) hRBYm12
      have hRC0m23 := zR_C0_fr (zdis_fr hfm23 rfl) hRC0m12
      have hRE115m23 := zR_E115_fr (zdis_fr hfm23 rfl) hRE115m12
      have hRE63m23 := zR_E63_fr (zdis_fr hfm23 rfl) hRE63m12
      have hRE89m23 := zR_E89_fr (zdis_fr hfm23 rfl) hRE89m12
      have hRG5m23 := zR_G5_fr (zdis_fr hfm23 rfl) hRG5m12
      have hRK10m23 := zR_K10_fr (zdis_fr hfm23 rfl) hRK10m12
      have hRK54m23 := zR_K54_fr (zdis_fr hfm23 rfl) hRK54m12
      have hRKNm23 := zR_KN_fr (zdis_fr hfm23 rfl) hRKNm12
      have hRLKm23 := zR_LK_fr (zdis_fr hfm23 rfl) hRLKm12
      have hRLTm23 := zR_LT_fr (zdis_fr hfm23 rfl) hRLTm12
      have hRNSm23 := zR_NS_fr (zdis_fr hfm23 rfl) hRNSm12
      have hRRIm23 := zR_RI_fr (zdis_fr hfm23 rfl) hRRIm12
      have hRRUm23 := zR_RU_fr (zdis_fr hfm23 rfl) hRRUm12
      have hRSEm23 := zR_SE_fr (zdis_fr hfm23 rfl) hRSEm12
      have hRTAm23 := zR_TA_fr (zdis_fr hfm23 rfl) hRTAm12
      have hRTEm23 := zR_TE_fr (zdis_fr hfm23 rfl) hRTEm12
      have hRTPm23 := zR_TP_fr (zdis_fr hfm23 rfl) hRTPm12
      have hRUNm23 := zR_UN_fr (zdis_fr hfm23 rfl) hRUNm12
      have hRUWm23 := zR_UW_fr (zdis_fr hfm23 rfl) hRUWm12
      have hRW1m23 := zR_W1_fr (zdis_fr hfm23 rfl) hRW1m12
      have hRW2m23 := zR_W2_fr (zdis_fr hfm23 rfl) hRW2m12
      have hRWDm23 := zR_WD_fr (zdis_fr hfm23 rfl) hRWDm12
      have hSm23 := zt_Sf (W := []) (fun p => zfr_ap (p := p) hfm23 zq_1 rfl) hSm12
      have r25 : 0 ≤ (m23 3 1) ∧ (m23 3 1) ≤ 700 := zi_rd hIm23 zq_3 zb_2_1
      have e26 : (m23 3 1) = (m0 3 1) := (Eq.trans (zfr_ap hfm23 zq_3 rfl) (zfr_ap hfm12 zq_3 rfl))
      have r27 : 0 ≤ (m23 190 1) ∧ (m23 190 1) ≤ 700 := zi_rd hIm23 zq_190 zb_28_1
      have e28 : (m23 190 1) = (m0 190 1) := (Eq.trans (zfr_ap hfm23 zq_190 rfl) (zfr_ap hfm12 zq_190 rfl))
      exact zw_kex (ih _ ⟨hIm23, hRBNm23, hRC0m23, hRE115m23, hRE63m23, hRE89m23, hRG5m23, hRK10m23, hRK54m23, hRKNm23, hRLTm23, hRNSm23, hRRIm23, hRRUm23, hRSEm23, hRTEm23, hRUNm23, hRUWm23, hRWDm23, hRW1m23, hRW2m23, hRBYm23, hRTAm23, hRTPm23, hRLKm23, by omega, hSm23⟩)
    · refine zw_bd (zw_mono (zk_179 n hIm12 zq_190 ⟨by omega, by omega⟩ ⟨by omega, by omega⟩ ⟨by omega, by omega⟩ ⟨by decide, by decide⟩) (fun v30 m29 hqm29 => ?_))
      obtain ⟨hIm29, hfm29, hvm29⟩ := hqm29
      have hRBNm29 := zR_BN_fr (zdis_fr hfm29 rfl) hRBNm12
      have hRBYm29 := zR_BY_fr (zdis_fr hfm29 rfl) hRBYm12
      have hRC0m29 := zR_C0_fr (zdis_fr hfm29 rfl) hRC0m12
      have hRE115m29 := zR_E115_fr (zdis_fr hfm29 rfl) hRE115m12
      have hRE63m29 := zR_E63_fr (zdis_fr hfm29 rfl) hRE63m12
      have hRE89m29 := zR_E89_fr (zdis_fr hfm29 rfl) hRE89m12
      have hRG5m29 := zR_G5_fr (zdis_fr hfm29 rfl) hRG5m12
      have hRK10m29 := zR_K10_fr (zdis_fr hfm29 rfl) hRK10m12
      have hRK54m29 := zR_K54_fr (zdis_fr hfm29 rfl) hRK54m12
      have hRKNm29 := zR_KN_fr (zdis_fr hfm29 rfl) hRKNm12
      have hRLKm29 := zR_LK_fr (zdis_fr hfm29 rfl) hRLKm12
      have hRLTm29 := zR_LT_fr (zdis_fr hfm29 rfl) hRLTm12
      have hRNSm29 := zR_NS_fr (zdis_fr hfm29 rfl) hRNSm12
      have hRRIm29 := zR_RI_fr (zdis_fr hfm29 rfl) hRRIm12
      have hRRUm29 := zR_RU_fr (zdis_fr hfm29 rfl) hRRUm12
      have hRSEm29 := zR_SE_fr (zdis_fr hfm29 rfl) hRSEm12
      have hRTAm29 := zR_TA_fr (zdis_fr hfm29 rfl) hRTAm12
      have hRTEm29 := zR_TE_fr (zdis_fr hfm29 rfl) hRTEm12
      have hRTPm29 := zR_TP_fr (zdis_fr hfm29 rfl) hRTPm12
      have hRUNm29 := zR_UN_fr (zdis_fr hfm29 rfl) hRUNm12
      have hRUWm29 := zR_UW_fr (zdis_fr hfm29 rfl) hRUWm12
      have hRW1m29 := zR_W1_fr (zdis_fr hfm29 rfl) hRW1m12
      have hRW2m29 := zR_W2_fr (zdis_fr hfm29 rfl) hRW2m12
      have hRWDm29 := zR_WD_fr (zdis_fr hfm29 rfl) hRWDm12
      have hSm29 := zt_Sf (W := []) (fun p => zfr_ap (p := p) hfm29 zq_1 rfl) hSm12
      have r31 : 0 ≤ (m29 3 1) ∧ (m29 3 1) ≤ 700 := zi_rd hIm29 zq_3 zb_2_1
      have e32 : (m29 3 1) = (m0 3 1) := (Eq.trans (zfr_ap hfm29 zq_3 rfl) (zfr_ap hfm12 zq_3 rfl))
      have r33 : 0 ≤ (m29 190 1) ∧ (m29 190 1) ≤ 700 := zi_rd hIm29 zq_190 zb_28_1
      have e34 : (m29 190 1) = (m0 190 1) := (Eq.trans (zfr_ap hfm29 zq_190 rfl) (zfr_ap hfm12 zq_190 rfl))
      exact zw_kex (ih _ ⟨hIm29, hRBNm29, hRC0m29, hRE115m29, hRE63m29, hRE89m29, hRG5m29, hRK10m29, hRK54m29, hRKNm29, hRLTm29, hRNSm29, hRRIm29, hRRUm29, hRSEm29, hRTEm29, hRUNm29, hRUWm29, hRWDm29, hRW1m29, hRW2m29, hRBYm29, hRTAm29, hRTPm29, hRLKm29, by omega, hSm29⟩)
  · refine zw_bd (zw_mono (zk_72 n hIm0 zq_3 ⟨by omega, by omega⟩ ⟨by omega, by omega⟩ ⟨by omega, by omega⟩ ⟨by decide, by decide⟩) (fun v36 m35 hqm35 => ?_))
    obtain ⟨hIm35, hfm35, hvm35⟩ := hqm35
    have hRBNm35 := zR_BN_fr (zdis_fr hfm35 rfl) hRBNm0
    have hRBYm35 := zR_BY_fr (zdis_fr hfm35 rfl) hRBYm0
    have hRC0m35 := zR_C0_fr (zdis_fr hfm35 rfl) hRC0m0
    have hRE115m35 := zR_E115_fr (zdis_fr hfm35 rfl) hRE115m0
    have hRE63m35 := zR_E63_fr (zdis_fr hfm35 rfl) hRE63m0
    have hRE89m35 := zR_E89_fr (zdis_fr hfm35 rfl) hRE89m0
    have hRG5m35 := zR_G5_fr (zdis_fr hfm35 rfl) hRG5m0
    have hRK10m35 := zR_K10_fr (zdis_fr hfm35 rfl) hRK10m0
    have hRK54m35 := zR_K54_fr (zdis_fr hfm35 rfl) hRK54m0
    have hRKNm35 := zR_KN_fr (zdis_fr hfm35 rfl) hRKNm0
    have hRLKm35 := zR_LK_fr (zdis_fr hfm35 rfl) hRLKm0
    have hRLTm35 := zR_LT_fr (zdis_fr hfm35 rfl) hRLTm0
    have hRNSm35 := zR_NS_fr (zdis_fr hfm35 rfl) hRNSm0
    have hRRIm35 := zR_RI_fr (zdis_fr hfm35 rfl) hRRIm0
    have hRRUm35 := zR_RU_fr (zdis_fr hfm35 rfl) hRRUm0
    have hRSEm35 := zR_SE_fr (zdis_fr hfm35 rfl) hRSEm0
    have hRTAm35 := zR_TA_fr (zdis_fr hfm35 rfl) hRTAm0
    have hRTEm35 := zR_TE_fr (zdis_fr hfm35 rfl) hRTEm0
    have hRTPm35 := zR_TP_fr (zdis_fr hfm35 rfl) hRTPm0
    have hRUNm35 := zR_UN_fr (zdis_fr hfm35 rfl) hRUNm0
    have hRUWm35 := zR_UW_fr (zdis_fr hfm35 rfl) hRUWm0
    have hRW1m35 := zR_W1_fr (zdis_fr hfm35 rfl) hRW1m0
    have hRW2m35 := zR_W2_fr (zdis_fr hfm35 rfl) hRW2m0
    have hRWDm35 := zR_WD_fr (zdis_fr hfm35 rfl) hRWDm0
    have hSm35 := zt_Sf (W := []) (fun p => zfr_ap (p := p) hfm35 zq_1 rfl) hSm0
    refine zw_if ⟨by omega, by omega⟩ ?_
    have r37 := hSm35 (zu_w32 (i + 1))
    have e38 : (m35 1 (zu_w32 (i + 1))) = (m0 1 (zu_w32 (i + 1))) := (zfr_ap hfm35 zq_1 rfl)
    refine zw_if ⟨by omega, by omega⟩ ?_
    have r39 := hSm35 (zu_w32 (i + 2))
    have e40 : (m35 1 (zu_w32 (i + 2))) = (m0 1 (zu_w32 (i + 2))) := (zfr_ap hfm35 zq_1 rfl)
    refine zw_if ⟨by omega, by omega⟩ ?_
    have r41 := hSm35 (zu_w32 (i + 3))
    have e42 : (m35 1 (zu_w32 (i + 3))) = (m0 1 (zu_w32 (i + 3))) := (zfr_ap hfm35 zq_1 rfl)
    refine zw_if ⟨by omega, by omega⟩ ?_
    have r43 := hSm35 (zu_w32 (i + 4))
    have e44 : (m35 1 (zu_w32 (i + 4))) = (m0 1 (zu_w32 (i + 4))) := (zfr_ap hfm35 zq_1 rfl)
    refine zw_ite (fun h45 => ?_) (fun h45 => ?_)
    · refine zw_bd (zw_mono (zk_179 n hIm35 zq_190 ⟨by omega, by omega⟩ ⟨by omega, by omega⟩ ⟨by omega, by omega⟩ ⟨by decide, by decide⟩) (fun v47 m46 hqm46 => ?_))
      obtain ⟨hIm46, hfm46, hvm46⟩ := hqm46
      have hRBNm46 := zR_BN_fr (zdis_fr hfm46 rfl) hRBNm35
      have hRBYm46 := zR_BY_fr (zdis_fr hfm46 rfl) hRBYm35
      have hRC0m46 := zR_C0_fr (zdis_fr hfm46 rfl) hRC0m35
      have hRE115m46 := zR_E115_fr (zdis_fr hfm46 rfl) hRE115m35
      have hRE63m46 := zR_E63_fr (zdis_fr hfm46 rfl) hRE63m35
      have hRE89m46 := zR_E89_fr (zdis_fr hfm46 rfl) hRE89m35
      have hRG5m46 := zR_G5_fr (zdis_fr hfm46 rfl) hRG5m35
      have hRK10m46 := zR_K10_fr (zdis_fr hfm46 rfl) hRK10m35
      have hRK54m46 := zR_K54_fr (zdis_fr hfm46 rfl) hRK54m35
      have hRKNm46 := zR_KN_fr (zdis_fr hfm46 rfl) hRKNm35
      have hRLKm46 := zR_LK_fr (zdis_fr hfm46 rfl) hRLKm35
      have hRLTm46 := zR_LT_fr (zdis_fr hfm46 rfl) hRLTm35
      have hRNSm46 := zR_NS_fr (zdis_fr hfm46 rfl) hRNSm35
      have hRRIm46 := zR_RI_fr (zdis_fr hfm46 rfl) hRRIm35
      have hRRUm46 := zR_RU_fr (zdis_fr hfm46 rfl) hRRUm35
      have hRSEm46 := zR_SE_fr (zdis_fr hfm46 rfl) hRSEm35
      have hRTAm46 := zR_TA_fr (zdis_fr hfm46 rfl) hRTAm35
      have hRTEm46 := zR_TE_fr (zdis_fr hfm46 rfl) hRTEm35
      have hRTPm46 := zR_TP_fr (zdis_fr hfm46 rfl) hRTPm35
      have hRUNm46 := zR_UN_fr (zdis_fr hfm46 rfl) hRUNm35
      have hRUWm46 := zR_UW_fr (zdis_fr hfm46 rfl) hRUWm35
      have hRW1m46 := zR_W1_fr (zdis_fr hfm46 rfl) hRW1m35
      have hRW2m46 := zR_W2_fr (zdis_fr hfm46 rfl) hRW2m35
      have hRWDm46 := zR_WD_fr (zdis_fr hfm46 rfl) hRWDm35
      have hSm46 := zt_Sf (W := []) (fun p => zfr_ap (p := p) hfm46 zq_1 rfl) hSm35
      have r48 : 0 ≤ (m46 3 1) ∧ (m46 3 1) ≤ 700 := zi_rd hIm46 zq_3 zb_2_1
      have e49 : (m46 3 1) = (m0 3 1) := (Eq.trans (zfr_ap hfm46 zq_3 rfl) (zfr_ap hfm35 zq_3 rfl))
      have r50 : 0 ≤ (m46 190 1) ∧ (m46 190 1) ≤ 700 := zi_rd hIm46 zq_190 zb_28_1
      have e51 : (m46 190 1) = (m0 190 1) := (Eq.trans (zfr_ap hfm46 zq_190 rfl) (zfr_ap hfm35 zq_190 rfl))
      exact zw_kex (ih _ ⟨hIm46, hRBNm46, hRC0m46, hRE115m46, hRE63m46, hRE89m46, hRG5m46, hRK10m46, hRK54m46, hRKNm46, hRLTm46, hRNSm46, hRRIm46, hRRUm46, hRSEm46, hRTEm46, hRUNm46, hRUWm46, hRWDm46, hRW1m46, hRW2m46, hRBYm46, hRTAm46, hRTPm46, hRLKm46, by omega, hSm46⟩)
    · refine zw_bd (zw_mono (zk_179 n hIm35 zq_190 ⟨by omega, by omega⟩ ⟨by omega, by omega⟩ ⟨by omega, by omega⟩ ⟨by decide, by decide⟩) (fun v53 m52 hqm52 => ?_))
      obtain ⟨hIm52, hfm52, hvm52⟩ := hqm52
      have hRBNm52 := zR_BN_fr (zdis_fr hfm52 rfl) hRBNm35
      have hRBYm52 := zR_BY_fr (zdis_fr hfm52 rfl) hRBYm35
      have hRC0m52 := zR_C0_fr (zdis_fr hfm52 rfl) hRC0m35
      have hRE115m52 := zR_E115_fr (zdis_fr hfm52 rfl) hRE115m35
      have hRE63m52 := zR_E63_fr (zdis_fr hfm52 rfl) hRE63m35
      have hRE89m52 := zR_E89_fr (zdis_fr hfm52 rfl) hRE89m35
      have hRG5m52 := zR_G5_fr (zdis_fr hfm52 rfl) hRG5m35
      have hRK10m52 := zR_K10_fr (zdis_fr hfm52 rfl) hRK10m35
      have hRK54m52 := zR_K54_fr (zdis_fr hfm52 rfl) hRK54m35
      have hRKNm52 := zR_KN_fr (zdis_fr hfm52 rfl) hRKNm35
      have hRLKm52 := zR_LK_fr (zdis_fr hfm52 rfl) hRLKm35
      have hRLTm52 := zR_LT_fr (zdis_fr hfm52 rfl) hRLTm35
      have hRNSm52 := zR_NS_fr (zdis_fr hfm52 rfl) hRNSm35
      have hRRIm52 := zR_RI_fr (zdis_fr hfm52 rfl) hRRIm35
      have hRRUm52 := zR_RU_fr (zdis_fr hfm52 rfl) hRRUm35
      have hRSEm52 := zR_SE_fr (zdis_fr hfm52 rfl) hRSEm35
      have hRTAm52 := zR_TA_fr (zdis_fr hfm52 rfl) hRTAm35
      have hRTEm52 := zR_TE_fr (zdis_fr hfm52 rfl) hRTEm35
      have hRTPm52 := zR_TP_fr (zdis_fr hfm52 rfl) hRTPm35
      have hRUNm52 := zR_UN_fr (zdis_fr hfm52 rfl) hRUNm35
      have hRUWm52 := zR_UW_fr (zdis_fr hfm52 rfl) hRUWm35
      have hRW1m52 := zR_W1_fr (zdis_fr hfm52 rfl) hRW1m35
      have hRW2m52 := zR_W2_fr (zdis_fr hfm52 rfl) hRW2m35
      have hRWDm52 := zR_WD_fr (zdis_fr hfm52 rfl) hRWDm35
      have hSm52 := zt_Sf (W := []) (fun p => zfr_ap (p := p) hfm52 zq_1 rfl) hSm35
      have r54 : 0 ≤ (m52 3 1) ∧ (m52 3 1) ≤ 700 := zi_rd hIm52 zq_3 zb_2_1
      have e55 : (m52 3 1) = (m0 3 1) := (Eq.trans (zfr_ap hfm52 zq_3 rfl) (zfr_ap hfm35 zq_3 rfl))
      have r56 : 0 ≤ (m52 190 1) ∧ (m52 190 1) ≤ 700 := zi_rd hIm52 zq_190 zb_28_1
      have e57 : (m52 190 1) = (m0 190 1) := (Eq.trans (zfr_ap hfm52 zq_190 rfl) (zfr_ap hfm35 zq_190 rfl))
      exact zw_kex (ih _ ⟨hIm52, hRBNm52, hRC0m52, hRE115m52, hRE63m52, hRE89m52, hRG5m52, hRK10m52, hRK54m52, hRKNm52, hRLTm52, hRNSm52, hRRIm52, hRRUm52, hRSEm52, hRTEm52, hRUNm52, hRUWm52, hRWDm52, hRW1m52, hRW2m52, hRBYm52, hRTAm52, hRTPm52, hRLKm52, by omega, hSm52⟩)
theorem zlw_1205 {n : Nat} {K : Nat → Nat → Nat → List zu_v → List zu_v → zu_m → Prop} (hst : zt_HS n K) (hp2 : ∀ (cells slots pc : Nat) (i v : Int) (m : zu_m), pc ∈ [529, 552] → K cells slots (pc + 1) [(3, 1), (5, 3), (40, 190), (53, 233), (0, i), (2, 0), (2, 0)] [] m → K cells slots pc [(3, 1), (5, 3), (40, 190), (53, 233), (0, i), (2, 0), (2, 0)] [(1, v)] m) {cells slots : Nat} {i : Int} {m0 : zu_m} (hN : zt_INV m0) (hi0 : 0 ≤ i) (hi1 : i ≤ (n : Int) - 6) (hn : n ≤ 3072) (ih : ∀ m, zt_INV m → K cells slots 1454 [(3, 1), (5, 3), (40, 190), (53, 233), (0, i), (2, 0), (2, 0)] [] m) : K cells slots 1205 [(3, 1), (5, 3), (40, 190), (53, 233), (0, i), (2, 0), (2, 0)] [] m0 := by
  refine hst cells slots [23, 40, 208, 281, 306, 331, 356, 370, 396, 433, 470, 507, 529, 552, 556, 605, 618, 655, 680, 705, 730, 755, 792, 865, 902, 939, 964, 977, 1002, 1028, 1041, 1078, 1103, 1128, 1205, 1230, 1255, 1280, 1341, 1390, 1403, 1416, 1429, 1454] 400 1205 _ _ _ ?_
  refine zw_eq (zlr_1205 n _ _ i m0) ?_
  obtain ⟨hIm0, hRBNm0, hRC0m0, hRE115m0, hRE63m0, hRE89m0, hRG5m0, hRK10m0, hRK54m0, hRKNm0, hRLTm0, hRNSm0, hRRIm0, hRRUm0, hRSEm0, hRTEm0, hRUNm0, hRUWm0, hRWDm0, hRW1m0, hRW2m0, hRBYm0, hRTAm0, hRTPm0, hRLKm0, hT, hSm0⟩ := hN
  have r1 : 0 ≤ (m0 3 1) ∧ (m0 3 1) ≤ 700 := zi_rd hIm0 zq_3 zb_2_1
  have r2 : 0 ≤ (m0 190 1) ∧ (m0 190 1) ≤ 700 := zi_rd hIm0 zq_190 zb_28_1
  have w3 := zu_w32_id (z := i + 1) (by omega) (by omega)
  refine zw_if ⟨by omega, by omega⟩ ?_
  have r4 := hSm0 (zu_w32 (i + 1))
  refine zw_bd (zw_mono (zk_73 n hIm0 zq_3 ⟨by omega, by omega⟩) (fun v6 m5 hqm5 => ?_))
  obtain ⟨hIm5, hfm5, hvm5⟩ := hqm5
  have hRBNm5 := zR_BN_fr (zdis_fr hfm5 rfl) hRBNm0
  have hRBYm5 := zR_BY_fr (zdis_fr hfm5 rfl) hRBYm0
  have hRC0m5 := zR_C0_fr (zdis_fr hfm5 rfl) hRC0m0
  have hRE115m5 := zR_E115_fr (zdis_fr hfm5 rfl) hRE115m0
  have hRE63m5 := zR_E63_fr (zdis_fr hfm5 rfl) hRE63m0
  have hRE89m5 := zR_E89_fr (zdis_fr hfm5 rfl) hRE89m0
  have hRG5m5 := zR_G5_fr (zdis_fr hfm5 rfl) hRG5m0
  have hRK10m5 := zR_K10_fr (zdis_fr hfm5 rfl) hRK10m0
  have hRK54m5 := zR_K54_fr (zdis_fr hfm5 rfl) hRK54m0
  have hRKNm5 := zR_KN_fr (zdis_fr hfm5 rfl) hRKNm0
  have hRLKm5 := zR_LK_fr (zdis_fr hfm5 rfl) hRLKm0
  have hRLTm5 := zR_LT_fr (zdis_fr hfm5 rfl) hRLTm0
  have hRNSm5 := zR_NS_fr (zdis_fr hfm5 rfl) hRNSm0
  have hRRIm5 := zR_RI_fr (zdis_fr hfm5 rfl) hRRIm0
  have hRRUm5 := zR_RU_fr (zdis_fr hfm5 rfl) hRRUm0
  have hRSEm5 := zR_SE_fr (zdis_fr hfm5 rfl) hRSEm0
  have hRTAm5 := zR_TA_fr (zdis_fr hfm5 rfl) hRTAm0
  have hRTEm5 := zR_TE_fr (zdis_fr hfm5 rfl) hRTEm0
  have hRTPm5 := zR_TP_fr (zdis_fr hfm5 rfl) hRTPm0
  have hRUNm5 := zR_UN_fr (zdis_fr hfm5 rfl) hRUNm0
  have hRUWm5 := zR_UW_fr (zdis_fr hfm5 rfl) hRUWm0
  have hRW1m5 := zR_W1_fr (zdis_fr hfm5 rfl) hRW1m0
  have hRW2m5 := zR_W2_fr (zdis_fr hfm5 rfl) hRW2m0
  have hRWDm5 := zR_WD_fr (zdis_fr hfm5 rfl) hRWDm0
  have hSm5 := zt_Sf (W := []) (fun p => zfr_ap (p := p) hfm5 zq_1 rfl) hSm0
  refine zw_if ⟨by omega, by omega⟩ ?_
  have r7 := hSm5 (zu_w32 (i + 1))
  have e8 : (m5 1 (zu_w32 (i + 1))) = (m0 1 (zu_w32 (i + 1))) := (zfr_ap hfm5 zq_1 rfl)
  refine zw_bd (zw_mono (zk_180 n hIm5 zq_190 ⟨by omega, by omega⟩) (fun v10 m9 hqm9 => ?_))
  obtain ⟨hIm9, hfm9, hvm9⟩ := hqm9
  have hRBNm9 := zR_BN_fr (zdis_fr hfm9 rfl) hRBNm5
  have hRBYm9 := zR_BY_fr (zdis_fr hfm9 rfl) hRBYm5
  have hRC0m9 := zR_C0_fr (zdis_fr hfm9 rfl) hRC0m5
  have hRE115m9 := zR_E115_fr (zdis_fr hfm9 rfl) hRE115m5
  have hRE63m9 := zR_E63_fr (zdis_fr hfm9 rfl) hRE63m5
  have hRE89m9 := zR_E89_fr (zdis_fr hfm9 rfl) hRE89m5
  have hRG5m9 := zR_G5_fr (zdis_fr hfm9 rfl) hRG5m5
  have hRK10m9 := zR_K10_fr (zdis_fr hfm9 rfl) hRK10m5
  have hRK54m9 := zR_K54_fr (zdis_fr hfm9 rfl) hRK54m5
  have hRKNm9 := zR_KN_fr (zdis_fr hfm9 rfl) hRKNm5
  have hRLKm9 := zR_LK_fr (zdis_fr hfm9 rfl) hRLKm5
  have hRLTm9 := zR_LT_fr (zdis_fr hfm9 rfl) hRLTm5
  have hRNSm9 := zR_NS_fr (zdis_fr hfm9 rfl) hRNSm5
  have hRRIm9 := zR_RI_fr (zdis_fr hfm9 rfl) hRRIm5
  have hRRUm9 := zR_RU_fr (zdis_fr hfm9 rfl) hRRUm5
  have hRSEm9 := zR_SE_fr (zdis_fr hfm9 rfl) hRSEm5
  have hRTAm9 := zR_TA_fr (zdis_fr hfm9 rfl) hRTAm5
  have hRTEm9 := zR_TE_fr (zdis_fr hfm9 rfl) hRTEm5
  have hRTPm9 := zR_TP_fr (zdis_fr hfm9 rfl) hRTPm5
  have hRUNm9 := zR_UN_fr (zdis_fr hfm9 rfl) hRUNm5
  have hRUWm9 := zR_UW_fr (zdis_fr hfm9 rfl) hRUWm5
  have hRW1m9 := zR_W1_fr (zdis_fr hfm9 rfl) hRW1m5
  have hRW2m9 := zR_W2_fr (zdis_fr hfm9 rfl) hRW2m5
  have hRWDm9 := zR_WD_fr (zdis_fr hfm9 rfl) hRWDm5
  have hSm9 := zt_Sf (W := []) (fun p => zfr_ap (p := p) hfm9 zq_1 rfl) hSm5
  have r11 : 0 ≤ (m9 3 1) ∧ (m9 3 1) ≤ 700 := zi_rd hIm9 zq_3 zb_2_1
  have e12 : (m9 3 1) = (m0 3 1) := (Eq.trans (zfr_ap hfm9 zq_3 rfl) (zfr_ap hfm5 zq_3 rfl))
  have r13 : 0 ≤ (m9 190 1) ∧ (m9 190 1) ≤ 700 := zi_rd hIm9 zq_190 zb_28_1
  have e14 : (m9 190 1) = (m0 190 1) := (Eq.trans (zfr_ap hfm9 zq_190 rfl) (zfr_ap hfm5 zq_190 rfl))
  exact zw_kex (ih _ ⟨hIm9, hRBNm9, hRC0m9, hRE115m9, hRE63m9, hRE89m9, hRG5m9, hRK10m9, hRK54m9, hRKNm9, hRLTm9, hRNSm9, hRRIm9, hRRUm9, hRSEm9, hRTEm9, hRUNm9, hRUWm9, hRWDm9, hRW1m9, hRW2m9, hRBYm9, hRTAm9, hRTPm9, hRLKm9, by omega, hSm9⟩)
theorem zlw_1230 {n : Nat} {K : Nat → Nat → Nat → List zu_v → List zu_v → zu_m → Prop} (hst : zt_HS n K) (hp2 : ∀ (cells slots pc : Nat) (i v : Int) (m : zu_m), pc ∈ [529, 552] → K cells slots (pc + 1) [(3, 1), (5, 3), (40, 190), (53, 233), (0, i), (2, 0), (2, 0)] [] m → K cells slots pc [(3, 1), (5, 3), (40, 190), (53, 233), (0, i), (2, 0), (2, 0)] [(1, v)] m) {cells slots : Nat} {i : Int} {m0 : zu_m} (hN : zt_INV m0) (hi0 : 0 ≤ i) (hi1 : i ≤ (n : Int) - 6) (hn : n ≤ 3072) (ih : ∀ m, zt_INV m → K cells slots 1454 [(3, 1), (5, 3), (40, 190), (53, 233), (0, i), (2, 0), (2, 0)] [] m) : K cells slots 1230 [(3, 1), (5, 3), (40, 190), (53, 233), (0, i), (2, 0), (2, 0)] [] m0 := by
  refine hst cells slots [23, 40, 208, 281, 306, 331, 356, 370, 396, 433, 470, 507, 529, 552, 556, 605, 618, 655, 680, 705, 730, 755, 792, 865, 902, 939, 964, 977, 1002, 1028, 1041, 1078, 1103, 1128, 1205, 1230, 1255, 1280, 1341, 1390, 1403, 1416, 1429, 1454] 400 1230 _ _ _ ?_
  refine zw_eq (zlr_1230 n _ _ i m0) ?_
  obtain ⟨hIm0, hRBNm0, hRC0m0, hRE115m0, hRE63m0, hRE89m0, hRG5m0, hRK10m0, hRK54m0, hRKNm0, hRLTm0, hRNSm0, hRRIm0, hRRUm0, hRSEm0, hRTEm0, hRUNm0, hRUWm0, hRWDm0, hRW1m0, hRW2m0, hRBYm0, hRTAm0, hRTPm0, hRLKm0, hT, hSm0⟩ := hN
  have r1 : 0 ≤ (m0 3 1) ∧ (m0 3 1) ≤ 700 := zi_rd hIm0 zq_3 zb_2_1
  have r2 : 0 ≤ (m0 190 1) ∧ (m0 190 1) ≤ 700 := zi_rd hIm0 zq_190 zb_28_1
  have w3 := zu_w32_id (z := i + 1) (by omega) (by omega)
  refine zw_if ⟨by omega, by omega⟩ ?_
  have r4 := hSm0 (zu_w32 (i + 1))
  refine zw_bd (zw_mono (zk_74 n hIm0 zq_3 ⟨by omega, by omega⟩) (fun v6 m5 hqm5 => ?_))
  obtain ⟨hIm5, hfm5, hvm5⟩ := hqm5
  have hRBNm5 := zR_BN_fr (zdis_fr hfm5 rfl) hRBNm0
  have hRBYm5 := zR_BY_fr (zdis_fr hfm5 rfl) hRBYm0
  have hRC0m5 := zR_C0_fr (zdis_fr hfm5 rfl) hRC0m0
  have hRE115m5 := zR_E115_fr (zdis_fr hfm5 rfl) hRE115m0
  have hRE63m5 := zR_E63_fr (zdis_fr hfm5 rfl) hRE63m0
  have hRE89m5 := zR_E89_fr (zdis_fr hfm5 rfl) hRE89m0
  have hRG5m5 := zR_G5_fr (zdis_fr hfm5 rfl) hRG5m0
  have hRK10m5 := zR_K10_fr (zdis_fr hfm5 rfl) hRK10m0
  have hRK54m5 := zR_K54_fr (zdis_fr hfm5 rfl) hRK54m0
  have hRKNm5 := zR_KN_fr (zdis_fr hfm5 rfl) hRKNm0
  have hRLKm5 := zR_LK_fr (zdis_fr hfm5 rfl) hRLKm0
  have hRLTm5 := zR_LT_fr (zdis_fr hfm5 rfl) hRLTm0
  have hRNSm5 := zR_NS_fr (zdis_fr hfm5 rfl) hRNSm0
  have hRRIm5 := zR_RI_fr (zdis_fr hfm5 rfl) hRRIm0
  have hRRUm5 := zR_RU_fr (zdis_fr hfm5 rfl) hRRUm0
  have hRSEm5 := zR_SE_fr (zdis_fr hfm5 rfl) hRSEm0
  have hRTAm5 := zR_TA_fr (zdis_fr hfm5 rfl) hRTAm0
  have hRTEm5 := zR_TE_fr (zdis_fr hfm5 rfl) hRTEm0
  have hRTPm5 := zR_TP_fr (zdis_fr hfm5 rfl) hRTPm0
  have hRUNm5 := zR_UN_fr (zdis_fr hfm5 rfl) hRUNm0
  have hRUWm5 := zR_UW_fr (zdis_fr hfm5 rfl) hRUWm0
  have hRW1m5 := zR_W1_fr (zdis_fr hfm5 rfl) hRW1m0
  have hRW2m5 := zR_W2_fr (zdis_fr hfm5 rfl) hRW2m0
  have hRWDm5 := zR_WD_fr (zdis_fr hfm5 rfl) hRWDm0
  have hSm5 := zt_Sf (W := []) (fun p => zfr_ap (p := p) hfm5 zq_1 rfl) hSm0
  refine zw_if ⟨by omega, by omega⟩ ?_
  have r7 := hSm5 (zu_w32 (i + 1))
  have e8 : (m5 1 (zu_w32 (i + 1))) = (m0 1 (zu_w32 (i + 1))) := (zfr_ap hfm5 zq_1 rfl)
  refine zw_bd (zw_mono (zk_181 n hIm5 zq_190 ⟨by omega, by omega⟩) (fun v10 m9 hqm9 => ?_))
  obtain ⟨hIm9, hfm9, hvm9⟩ := hqm9
  have hRBNm9 := zR_BN_fr (zdis_fr hfm9 rfl) hRBNm5
  have hRBYm9 := zR_BY_fr (zdis_fr hfm9 rfl) hRBYm5
  have hRC0m9 := zR_C0_fr (zdis_fr hfm9 rfl) hRC0m5
  have hRE115m9 := zR_E115_fr (zdis_fr hfm9 rfl) hRE115m5
  have hRE63m9 := zR_E63_fr (zdis_fr hfm9 rfl) hRE63m5
  have hRE89m9 := zR_E89_fr (zdis_fr hfm9 rfl) hRE89m5
  have hRG5m9 := zR_G5_fr (zdis_fr hfm9 rfl) hRG5m5
  have hRK10m9 := zR_K10_fr (zdis_fr hfm9 rfl) hRK10m5
  have hRK54m9 := zR_K54_fr (zdis_fr hfm9 rfl) hRK54m5
  have hRKNm9 := zR_KN_fr (zdis_fr hfm9 rfl) hRKNm5
  have hRLKm9 := zR_LK_fr (zdis_fr hfm9 rfl) hRLKm5
  have hRLTm9 := zR_LT_fr (zdis_fr hfm9 rfl) hRLTm5
  have hRNSm9 := zR_NS_fr (zdis_fr hfm9 rfl) hRNSm5
  have hRRIm9 := zR_RI_fr (zdis_fr hfm9 rfl) hRRIm5
  have hRRUm9 := zR_RU_fr (zdis_fr hfm9 rfl) hRRUm5
  have hRSEm9 := zR_SE_fr (zdis_fr hfm9 rfl) hRSEm5
  have hRTAm9 := zR_TA_fr (zdis_fr hfm9 rfl) hRTAm5
  have hRTEm9 := zR_TE_fr (zdis_fr hfm9 rfl) hRTEm5
  have hRTPm9 := zR_TP_fr (zdis_fr hfm9 rfl) hRTPm5
  have hRUNm9 := zR_UN_fr (zdis_fr hfm9 rfl) hRUNm5
  have hRUWm9 := zR_UW_fr (zdis_fr hfm9 rfl) hRUWm5
  have hRW1m9 := zR_W1_fr (zdis_fr hfm9 rfl) hRW1m5
  have hRW2m9 := zR_W2_fr (zdis_fr hfm9 rfl) hRW2m5
  have hRWDm9 := zR_WD_fr (zdis_fr hfm9 rfl) hRWDm5
  have hSm9 := zt_Sf (W := []) (fun p => zfr_ap (p := p) hfm9 zq_1 rfl) hSm5
  have r11 : 0 ≤ (m9 3 1) ∧ (m9 3 1) ≤ 700 := zi_rd hIm9 zq_3 zb_2_1
  have e12 : (m9 3 1) = (m0 3 1) := (Eq.trans (zfr_ap hfm9 zq_3 rfl) (zfr_ap hfm5 zq_3 rfl))
  have r13 : 0 ≤ (m9 190 1) ∧ (m9 190 1) ≤ 700 := zi_rd hIm9 zq_190 zb_28_1
  have e14 : (m9 190 1) = (m0 190 1) := (Eq.trans (zfr_ap hfm9 zq_190 rfl) (zfr_ap hfm5 zq_190 rfl))
  exact zw_kex (ih _ ⟨hIm9, hRBNm9, hRC0m9, hRE115m9, hRE63m9, hRE89m9, hRG5m9, hRK10m9, hRK54m9, hRKNm9, hRLTm9, hRNSm9, hRRIm9, hRRUm9, hRSEm9, hRTEm9, hRUNm9, hRUWm9, hRWDm9, hRW1m9, hRW2m9, hRBYm9, hRTAm9, hRTPm9, hRLKm9, by omega, hSm9⟩)
theorem zlw_1255 {n : Nat} {K : Nat → Nat → Nat → List zu_v → List zu_v → zu_m → Prop} (hst : zt_HS n K) (hp2 : ∀ (cells slots pc : Nat) (i v : Int) (m : zu_m), pc ∈ [529, 552] → K cells slots (pc + 1) [(3, 1), (5, 3), (40, 190), (53, 233), (0, i), (2, 0), (2, 0)] [] m → K cells slots pc [(3, 1), (5, 3), (40, 190), (53, 233), (0, i), (2, 0), (2, 0)] [(1, v)] m) {cells slots : Nat} {i : Int} {m0 : zu_m} (hN : zt_INV m0) (hi0 : 0 ≤ i) (hi1 : i ≤ (n : Int) - 6) (hn : n ≤ 3072) (ih : ∀ m, zt_INV m → K cells slots 1454 [(3, 1), (5, 3), (40, 190), (53, 233), (0, i), (2, 0), (2, 0)] [] m) : K cells slots 1255 [(3, 1), (5, 3), (40, 190), (53, 233), (0, i), (2, 0), (2, 0)] [] m0 := by
  refine hst cells slots [23, 40, 208, 281, 306, 331, 356, 370, 396, 433, 470, 507, 529, 552, 556, 605, 618, 655, 680, 705, 730, 755, 792, 865, 902, 939, 964, 977, 1002, 1028, 1041, 1078, 1103, 1128, 1205, 1230, 1255, 1280, 1341, 1390, 1403, 1416, 1429, 1454] 400 1255 _ _ _ ?_
  refine zw_eq (zlr_1255 n _ _ i m0) ?_
  obtain ⟨hIm0, hRBNm0, hRC0m0, hRE115m0, hRE63m0, hRE89m0, hRG5m0, hRK10m0, hRK54m0, hRKNm0, hRLTm0, hRNSm0, hRRIm0, hRRUm0, hRSEm0, hRTEm0, hRUNm0, hRUWm0, hRWDm0, hRW1m0, hRW2m0, hRBYm0, hRTAm0, hRTPm0, hRLKm0, hT, hSm0⟩ := hN
  have r1 : 0 ≤ (m0 3 1) ∧ (m0 3 1) ≤ 700 := zi_rd hIm0 zq_3 zb_2_1
  have r2 : 0 ≤ (m0 190 1) ∧ (m0 190 1) ≤ 700 := zi_rd hIm0 zq_190 zb_28_1
  have w3 := zu_w32_id (z := i + 1) (by omega) (by omega)
  refine zw_if ⟨by omega, by omega⟩ ?_
  have r4 := hSm0 (zu_w32 (i + 1))
  refine zw_bd (zw_mono (zk_75 n hIm0 zq_3 ⟨by omega, by omega⟩ hRE63m0 hRG5m0 hRK54m0) (fun v6 m5 hqm5 => ?_))
  obtain ⟨hIm5, hfm5, hvm5⟩ := hqm5
  obtain ⟨hRE63m5, hRG5m5, hRK54m5, hvm5⟩ := hvm5
  have hRBNm5 := zR_BN_fr (zdis_fr hfm5 rfl) hRBNm0
  have hRBYm5 := zR_BY_fr (zdis_fr hfm5 rfl) hRBYm0
  have hRC0m5 := zR_C0_fr (zdis_fr hfm5 rfl) hRC0m0
  have hRE115m5 := zR_E115_fr (zdis_fr hfm5 rfl) hRE115m0
  have hRE89m5 := zR_E89_fr (zdis_fr hfm5 rfl) hRE89m0
  have hRK10m5 := zR_K10_fr (zdis_fr hfm5 rfl) hRK10m0
  have hRKNm5 := zR_KN_fr (zdis_fr hfm5 rfl) hRKNm0
  have hRLKm5 := zR_LK_fr (zdis_fr hfm5 rfl) hRLKm0
  have hRLTm5 := zR_LT_fr (zdis_fr hfm5 rfl) hRLTm0
  have hRNSm5 := zR_NS_fr (zdis_fr hfm5 rfl) hRNSm0
  have hRRIm5 := zR_RI_fr (zdis_fr hfm5 rfl) hRRIm0
  have hRRUm5 := zR_RU_fr (zdis_fr hfm5 rfl) hRRUm0
  have hRSEm5 := zR_SE_fr (zdis_fr hfm5 rfl) hRSEm0
  have hRTAm5 := zR_TA_fr (zdis_fr hfm5 rfl) hRTAm0
  have hRTEm5 := zR_TE_fr (zdis_fr hfm5 rfl) hRTEm0
  have hRTPm5 := zR_TP_fr (zdis_fr hfm5 rfl) hRTPm0
  have hRUNm5 := zR_UN_fr (zdis_fr hfm5 rfl) hRUNm0
  have hRUWm5 := zR_UW_fr (zdis_fr hfm5 rfl) hRUWm0
  have hRW1m5 := zR_W1_fr (zdis_fr hfm5 rfl) hRW1m0
  have hRW2m5 := zR_W2_fr (zdis_fr hfm5 rfl) hRW2m0
  have hRWDm5 := zR_WD_fr (zdis_fr hfm5 rfl) hRWDm0
  have hSm5 := zt_Sf (W := []) (fun p => zfr_ap (p := p) hfm5 zq_1 rfl) hSm0
  refine zw_if ⟨by omega, by omega⟩ ?_
  have r7 := hSm5 (zu_w32 (i + 1))
  have e8 : (m5 1 (zu_w32 (i + 1))) = (m0 1 (zu_w32 (i + 1))) := (zfr_ap hfm5 zq_1 rfl)
  refine zw_bd (zw_mono (zk_184 n hIm5 zq_190 ⟨by omega, by omega⟩ hRC0m5 hRKNm5 hRLTm5 hRSEm5 hRTEm5) (fun v10 m9 hqm9 => ?_))
  obtain ⟨hIm9, hfm9, hvm9⟩ := hqm9
  obtain ⟨hRC0m9, hRKNm9, hRLTm9, hRSEm9, hRTEm9, hvm9⟩ := hvm9
  have hRBNm9 := zR_BN_fr (zdis_fr hfm9 rfl) hRBNm5
  have hRBYm9 := zR_BY_fr (zdis_fr hfm9 rfl) hRBYm5
  have hRE115m9 := zR_E115_fr (zdis_fr hfm9 rfl) hRE115m5
  have hRE63m9 := zR_E63_fr (zdis_fr hfm9 rfl) hRE63m5
  have hRE89m9 := zR_E89_fr (zdis_fr hfm9 rfl) hRE89m5
  have hRG5m9 := zR_G5_fr (zdis_fr hfm9 rfl) hRG5m5
  have hRK10m9 := zR_K10_fr (zdis_fr hfm9 rfl) hRK10m5
  have hRK54m9 := zR_K54_fr (zdis_fr hfm9 rfl) hRK54m5
  have hRLKm9 := zR_LK_fr (zdis_fr hfm9 rfl) hRLKm5
  have hRNSm9 := zR_NS_fr (zdis_fr hfm9 rfl) hRNSm5
  have hRRIm9 := zR_RI_fr (zdis_fr hfm9 rfl) hRRIm5
  have hRRUm9 := zR_RU_fr (zdis_fr hfm9 rfl) hRRUm5
  have hRTAm9 := zR_TA_fr (zdis_fr hfm9 rfl) hRTAm5
  have hRTPm9 := zR_TP_fr (zdis_fr hfm9 rfl) hRTPm5
  have hRUNm9 := zR_UN_fr (zdis_fr hfm9 rfl) hRUNm5
  have hRUWm9 := zR_UW_fr (zdis_fr hfm9 rfl) hRUWm5
  have hRW1m9 := zR_W1_fr (zdis_fr hfm9 rfl) hRW1m5
  have hRW2m9 := zR_W2_fr (zdis_fr hfm9 rfl) hRW2m5
  have hRWDm9 := zR_WD_fr (zdis_fr hfm9 rfl) hRWDm5
  have hSm9 := zt_Sf (W := []) (fun p => zfr_ap (p := p) hfm9 zq_1 rfl) hSm5
  have r11 : 0 ≤ (m9 3 1) ∧ (m9 3 1) ≤ 700 := zi_rd hIm9 zq_3 zb_2_1
  have e12 : (m9 3 1) = (m0 3 1) := (Eq.trans (zfr_ap hfm9 zq_3 rfl) (zfr_ap hfm5 zq_3 rfl))
  have r13 : 0 ≤ (m9 190 1) ∧ (m9 190 1) ≤ 700 := zi_rd hIm9 zq_190 zb_28_1
  have e14 : (m9 190 1) = (m0 190 1) := (Eq.trans (zfr_ap hfm9 zq_190 rfl) (zfr_ap hfm5 zq_190 rfl))
  exact zw_kex (ih _ ⟨hIm9, hRBNm9, hRC0m9, hRE115m9, hRE63m9, hRE89m9, hRG5m9, hRK10m9, hRK54m9, hRKNm9, hRLTm9, hRNSm9, hRRIm9, hRRUm9, hRSEm9, hRTEm9, hRUNm9, hRUWm9, hRWDm9, hRW1m9, hRW2m9, hRBYm9, hRTAm9, hRTPm9, hRLKm9, by omega, hSm9⟩)
theorem zlw_1280 {n : Nat} {K : Nat → Nat → Nat → List zu_v → List zu_v → zu_m → Prop} (hst : zt_HS n K) (hp2 : ∀ (cells slots pc : Nat) (i v : Int) (m : zu_m), pc ∈ [529, 552] → K cells slots (pc + 1) [(3, 1), (5, 3), (40, 190), (53, 233), (0, i), (2, 0), (2, 0)] [] m → K cells slots pc [(3, 1), (5, 3), (40, 190), (53, 233), (0, i), (2, 0), (2, 0)] [(1, v)] m) {cells slots : Nat} {i : Int} {m0 : zu_m} (hN : zt_INV m0) (hi0 : 0 ≤ i) (hi1 : i ≤ (n : Int) - 6) (hn : n ≤ 3072) (ih : ∀ m, zt_INV m → K cells slots 1454 [(3, 1), (5, 3), (40, 190), (53, 233), (0, i), (2, 0), (2, 0)] [] m) : K cells slots 1280 [(3, 1), (5, 3), (40, 190), (53, 233), (0, i), (2, 0), (2, 0)] [] m0 := by
  refine hst cells slots [23, 40, 208, 281, 306, 331, 356, 370, 396, 433, 470, 507, 529, 552, 556, 605, 618, 655, 680, 705, 730, 755, 792, 865, 902, 939, 964, 977, 1002, 1028, 1041, 1078, 1103, 1128, 1205, 1230, 1255, 1280, 1341, 1390, 1403, 1416, 1429, 1454] 400 1280 _ _ _ ?_
  refine zw_eq (zlr_1280 n _ _ i m0) ?_
  obtain ⟨hIm0, hRBNm0, hRC0m0, hRE115m0, hRE63m0, hRE89m0, hRG5m0, hRK10m0, hRK54m0, hRKNm0, hRLTm0, hRNSm0, hRRIm0, hRRUm0, hRSEm0, hRTEm0, hRUNm0, hRUWm0, hRWDm0, hRW1m0, hRW2m0, hRBYm0, hRTAm0, hRTPm0, hRLKm0, hT, hSm0⟩ := hN
  have r1 : 0 ≤ (m0 3 1) ∧ (m0 3 1) ≤ 700 := zi_rd hIm0 zq_3 zb_2_1
  have r2 : 0 ≤ (m0 190 1) ∧ (m0 190 1) ≤ 700 := zi_rd hIm0 zq_190 zb_28_1
  have w3 := zu_w32_id (z := i + 1) (by omega) (by omega)
  refine zw_if ⟨by omega, by omega⟩ ?_
  have r4 := hSm0 (zu_w32 (i + 1))
  have w5 := zu_w32_id (z := i + 2) (by omega) (by omega)
  refine zw_if ⟨by omega, by omega⟩ ?_
  have r6 := hSm0 (zu_w32 (i + 2))
  have w7 := zu_w32_id (z := i + 3) (by omega) (by omega)
  refine zw_if ⟨by omega, by omega⟩ ?_
  have r8 := hSm0 (zu_w32 (i + 3))
  have w9 := zu_w32_id (z := i + 4) (by omega) (by omega)
  refine zw_if ⟨by omega, by omega⟩ ?_
  have r10 := hSm0 (zu_w32 (i + 4))
  refine zw_bd (zw_mono (zk_76 n hIm0 zq_3 ⟨by omega, by omega⟩ ⟨by omega, by omega⟩ ⟨by omega, by omega⟩ ⟨by omega, by omega⟩ hRE89m0 hRG5m0 hRK54m0) (fun v12 m11 hqm11 => ?_))
  obtain ⟨hIm11, hfm11, hvm11⟩ := hqm11
  obtain ⟨hRE89m11, hRG5m11, hRK54m11, hvm11⟩ := hvm11
  have hRBNm11 := zR_BN_fr (zdis_fr hfm11 rfl) hRBNm0
  have hRBYm11 := zR_BY_fr (zdis_fr hfm11 rfl) hRBYm0
  have hRC0m11 := zR_C0_fr (zdis_fr hfm11 rfl) hRC0m0
  have hRE115m11 := zR_E115_fr (zdis_fr hfm11 rfl) hRE115m0
  have hRE63m11 := zR_E63_fr (zdis_fr hfm11 rfl) hRE63m0
  have hRK10m11 := zR_K10_fr (zdis_fr hfm11 rfl) hRK10m0
  have hRKNm11 := zR_KN_fr (zdis_fr hfm11 rfl) hRKNm0
  have hRLKm11 := zR_LK_fr (zdis_fr hfm11 rfl) hRLKm0
  have hRLTm11 := zR_LT_fr (zdis_fr hfm11 rfl) hRLTm0
  have hRNSm11 := zR_NS_fr (zdis_fr hfm11 rfl) hRNSm0
  have hRRIm11 := zR_RI_fr (zdis_fr hfm11 rfl) hRRIm0
  have hRRUm11 := zR_RU_fr (zdis_fr hfm11 rfl) hRRUm0
  have hRSEm11 := zR_SE_fr (zdis_fr hfm11 rfl) hRSEm0
  have hRTAm11 := zR_TA_fr (zdis_fr hfm11 rfl) hRTAm0
  have hRTEm11 := zR_TE_fr (zdis_fr hfm11 rfl) hRTEm0
  have hRTPm11 := zR_TP_fr (zdis_fr hfm11 rfl) hRTPm0
  have hRUNm11 := zR_UN_fr (zdis_fr hfm11 rfl) hRUNm0
  have hRUWm11 := zR_UW_fr (zdis_fr hfm11 rfl) hRUWm0
  have hRW1m11 := zR_W1_fr (zdis_fr hfm11 rfl) hRW1m0
  have hRW2m11 := zR_W2_fr (zdis_fr hfm11 rfl) hRW2m0
  have hRWDm11 := zR_WD_fr (zdis_fr hfm11 rfl) hRWDm0
  have hSm11 := zt_Sf (W := []) (fun p => zfr_ap (p := p) hfm11 zq_1 rfl) hSm0
  refine zw_if ⟨by omega, by omega⟩ ?_
  have r13 := hSm11 (zu_w32 (i + 1))
  have e14 : (m11 1 (zu_w32 (i + 1))) = (m0 1 (zu_w32 (i + 1))) := (zfr_ap hfm11 zq_1 rfl)
  refine zw_if ⟨by omega, by omega⟩ ?_
  have r15 := hSm11 (zu_w32 (i + 2))
  have e16 : (m11 1 (zu_w32 (i + 2))) = (m0 1 (zu_w32 (i + 2))) := (zfr_ap hfm11 zq_1 rfl)
  refine zw_if ⟨by omega, by omega⟩ ?_
  have r17 := hSm11 (zu_w32 (i + 3))
  have e18 : (m11 1 (zu_w32 (i + 3))) = (m0 1 (zu_w32 (i + 3))) := (zfr_ap hfm11 zq_1 rfl)
  refine zw_if ⟨by omega, by omega⟩ ?_
  have r19 := hSm11 (zu_w32 (i + 4))
  have e20 : (m11 1 (zu_w32 (i + 4))) = (m0 1 (zu_w32 (i + 4))) := (zfr_ap hfm11 zq_1 rfl)
  refine zw_bd (zw_mono (zk_185 n hIm11 zq_190 ⟨by omega, by omega⟩ ⟨by omega, by omega⟩ ⟨by omega, by omega⟩ ⟨by omega, by omega⟩ hRKNm11 hRLTm11 hRSEm11) (fun v22 m21 hqm21 => ?_))
  obtain ⟨hIm21, hfm21, hvm21⟩ := hqm21
  obtain ⟨hRKNm21, hRLTm21, hRSEm21, hvm21⟩ := hvm21
  have hRBNm21 := zR_BN_fr (zdis_fr hfm21 rfl) hRBNm11
  have hRBYm21 := zR_BY_fr (zdis_fr hfm21 rfl) hRBYm11
  have hRC0m21 := zR_C0_fr (zdis_fr hfm21 rfl) hRC0m11
  have hRE115m21 := zR_E115_fr (zdis_fr hfm21 rfl) hRE115m11
  have hRE63m21 := zR_E63_fr (zdis_fr hfm21 rfl) hRE63m11
  have hRE89m21 := zR_E89_fr (zdis_fr hfm21 rfl) hRE89m11
  have hRG5m21 := zR_G5_fr (zdis_fr hfm21 rfl) hRG5m11
  have hRK10m21 := zR_K10_fr (zdis_fr hfm21 rfl) hRK10m11
  have hRK54m21 := zR_K54_fr (zdis_fr hfm21 rfl) hRK54m11
  have hRLKm21 := zR_LK_fr (zdis_fr hfm21 rfl) hRLKm11
  have hRNSm21 := zR_NS_fr (zdis_fr hfm21 rfl) hRNSm11
  have hRRIm21 := zR_RI_fr (zdis_fr hfm21 rfl) hRRIm11
  have hRRUm21 := zR_RU_fr (zdis_fr hfm21 rfl) hRRUm11
  have hRTAm21 := zR_TA_fr (zdis_fr hfm21 rfl) hRTAm11
  have hRTEm21 := zR_TE_fr (zdis_fr hfm21 rfl) hRTEm11
  have hRTPm21 := zR_TP_fr (zdis_fr hfm21 rfl) hRTPm11
  have hRUNm21 := zR_UN_fr (zdis_fr hfm21 rfl) hRUNm11
  have hRUWm21 := zR_UW_fr (zdis_fr hfm21 rfl) hRUWm11
  have hRW1m21 := zR_W1_fr (zdis_fr hfm21 rfl) hRW1m11
  have hRW2m21 := zR_W2_fr (zdis_fr hfm21 rfl) hRW2m11
  have hRWDm21 := zR_WD_fr (zdis_fr hfm21 rfl) hRWDm11
  have hSm21 := zt_Sf (W := []) (fun p => zfr_ap (p := p) hfm21 zq_1 rfl) hSm11
  have r23 : 0 ≤ (m21 3 1) ∧ (m21 3 1) ≤ 700 := zi_rd hIm21 zq_3 zb_2_1
  have e24 : (m21 3 1) = (m0 3 1) := (Eq.trans (zfr_ap hfm21 zq_3 rfl) (zfr_ap hfm11 zq_3 rfl))
  have r25 : 0 ≤ (m21 190 1) ∧ (m21 190 1) ≤ 700 := zi_rd hIm21 zq_190 zb_28_1
  have e26 : (m21 190 1) = (m0 190 1) := (Eq.trans (zfr_ap hfm21 zq_190 rfl) (zfr_ap hfm11 zq_190 rfl))
  exact zw_kex (ih _ ⟨hIm21, hRBNm21, hRC0m21, hRE115m21, hRE63m21, hRE89m21, hRG5m21, hRK10m21, hRK54m21, hRKNm21, hRLTm21, hRNSm21, hRRIm21, hRRUm21, hRSEm21, hRTEm21, hRUNm21, hRUWm21, hRWDm21, hRW1m21, hRW2m21, hRBYm21, hRTAm21, hRTPm21, hRLKm21, by omega, hSm21⟩)
theorem zlw_1341 {n : Nat} {K : Nat → Nat → Nat → List zu_v → List zu_v → zu_m → Prop} (hst : zt_HS n K) (hp2 : ∀ (cells slots pc : Nat) (i v : Int) (m : zu_m), pc ∈ [529, 552] → K cells slots (pc + 1) [(3, 1), (5, 3), (40, 190), (53, 233), (0, i), (2, 0), (2, 0)] [] m → K cells slots pc [(3, 1), (5, 3), (40, 190), (53, 233), (0, i), (2, 0), (2, 0)] [(1, v)] m) {cells slots : Nat} {i : Int} {m0 : zu_m} (hN : zt_INV m0) (hi0 : 0 ≤ i) (hi1 : i ≤ (n : Int) - 6) (hn : n ≤ 3072) (ih : ∀ m, zt_INV m → K cells slots 1454 [(3, 1), (5, 3), (40, 190), (53, 233), (0, i), (2, 0), (2, 0)] [] m) : K cells slots 1341 [(3, 1), (5, 3), (40, 190), (53, 233), (0, i), (2, 0), (2, 0)] [] m0 := by
  refine hst cells slots [23, 40, 208, 281, 306, 331, 356, 370, 396, 433, 470, 507, 529, 552, 556, 605, 618, 655, 680, 705, 730, 755, 792, 865, 902, 939, 964, 977, 1002, 1028, 1041, 1078, 1103, 1128, 1205, 1230, 1255, 1280, 1341, 1390, 1403, 1416, 1429, 1454] 400 1341 _ _ _ ?_
  refine zw_eq (zlr_1341 n _ _ i m0) ?_
  obtain ⟨hIm0, hRBNm0, hRC0m0, hRE115m0, hRE63m0, hRE89m0, hRG5m0, hRK10m0, hRK54m0, hRKNm0, hRLTm0, hRNSm0, hRRIm0, hRRUm0, hRSEm0, hRTEm0, hRUNm0, hRUWm0, hRWDm0, hRW1m0, hRW2m0, hRBYm0, hRTAm0, hRTPm0, hRLKm0, hT, hSm0⟩ := hN
  have r1 : 0 ≤ (m0 3 1) ∧ (m0 3 1) ≤ 700 := zi_rd hIm0 zq_3 zb_2_1
  have r2 : 0 ≤ (m0 190 1) ∧ (m0 190 1) ≤ 700 := zi_rd hIm0 zq_190 zb_28_1
  have w3 := zu_w32_id (z := i + 1) (by omega) (by omega)
  refine zw_if ⟨by omega, by omega⟩ ?_
  have r4 := hSm0 (zu_w32 (i + 1))
  have w5 := zu_w32_id (z := i + 2) (by omega) (by omega)
  refine zw_if ⟨by omega, by omega⟩ ?_
  have r6 := hSm0 (zu_w32 (i + 2))
  have w7 := zu_w32_id (z := i + 3) (by omega) (by omega)
  refine zw_if ⟨by omega, by omega⟩ ?_
  have r8 := hSm0 (zu_w32 (i + 3))
  refine zw_bd (zw_mono (zk_77 n hIm0 zq_3 ⟨by omega, by omega⟩ ⟨by omega, by omega⟩ ⟨by omega, by omega⟩ hRE89m0 hRG5m0 hRK54m0) (fun v10 m9 hqm9 => ?_))
  obtain ⟨hIm9, hfm9, hvm9⟩ := hqm9
  obtain ⟨hRE89m9, hRG5m9, hRK54m9, hvm9⟩ := hvm9
  have hRBNm9 := zR_BN_fr (zdis_fr hfm9 rfl) hRBNm0
  have hRBYm9 := zR_BY_fr (zdis_fr hfm9 rfl) hRBYm0
  have hRC0m9 := zR_C0_fr (zdis_fr hfm9 rfl) hRC0m0
  have hRE115m9 := zR_E115_fr (zdis_fr hfm9 rfl) hRE115m0
  have hRE63m9 := zR_E63_fr (zdis_fr hfm9 rfl) hRE63m0
  have hRK10m9 := zR_K10_fr (zdis_fr hfm9 rfl) hRK10m0
  have hRKNm9 := zR_KN_fr (zdis_fr hfm9 rfl) hRKNm0
  have hRLKm9 := zR_LK_fr (zdis_fr hfm9 rfl) hRLKm0
  have hRLTm9 := zR_LT_fr (zdis_fr hfm9 rfl) hRLTm0
  have hRNSm9 := zR_NS_fr (zdis_fr hfm9 rfl) hRNSm0
  have hRRIm9 := zR_RI_fr (zdis_fr hfm9 rfl) hRRIm0
  have hRRUm9 := zR_RU_fr (zdis_fr hfm9 rfl) hRRUm0
  have hRSEm9 := zR_SE_fr (zdis_fr hfm9 rfl) hRSEm0
  have hRTAm9 := zR_TA_fr (zdis_fr hfm9 rfl) hRTAm0
  have hRTEm9 := zR_TE_fr (zdis_fr hfm9 rfl) hRTEm0
  have hRTPm9 := zR_TP_fr (zdis_fr hfm9 rfl) hRTPm0
  have hRUNm9 := zR_UN_fr (zdis_fr hfm9 rfl) hRUNm0
  have hRUWm9 := zR_UW_fr (zdis_fr hfm9 rfl) hRUWm0
  have hRW1m9 := zR_W1_fr (zdis_fr hfm9 rfl) hRW1m0
  have hRW2m9 := zR_W2_fr (zdis_fr hfm9 rfl) hRW2m0
  have hRWDm9 := zR_WD_fr (zdis_fr hfm9 rfl) hRWDm0
  have hSm9 := zt_Sf (W := []) (fun p => zfr_ap (p := p) hfm9 zq_1 rfl) hSm0
  refine zw_if ⟨by omega, by omega⟩ ?_
  have r11 := hSm9 (zu_w32 (i + 1))
  have e12 : (m9 1 (zu_w32 (i + 1))) = (m0 1 (zu_w32 (i + 1))) := (zfr_ap hfm9 zq_1 rfl)
  refine zw_if ⟨by omega, by omega⟩ ?_
  have r13 := hSm9 (zu_w32 (i + 2))
  have e14 : (m9 1 (zu_w32 (i + 2))) = (m0 1 (zu_w32 (i + 2))) := (zfr_ap hfm9 zq_1 rfl)
  refine zw_if ⟨by omega, by omega⟩ ?_
  have r15 := hSm9 (zu_w32 (i + 3))
  have e16 : (m9 1 (zu_w32 (i + 3))) = (m0 1 (zu_w32 (i + 3))) := (zfr_ap hfm9 zq_1 rfl)
  refine zw_bd (zw_mono (zk_187 n hIm9 zq_190 ⟨by omega, by omega⟩ ⟨by omega, by omega⟩ ⟨by omega, by omega⟩ hRKNm9 hRLTm9 hRSEm9) (fun v18 m17 hqm17 => ?_))
  obtain ⟨hIm17, hfm17, hvm17⟩ := hqm17
  obtain ⟨hRKNm17, hRLTm17, hRSEm17, hvm17⟩ := hvm17
  have hRBNm17 := zR_BN_fr (zdis_fr hfm17 rfl) hRBNm9
  have hRBYm17 := zR_BY_fr (zdis_fr hfm17 rfl) hRBYm9
  have hRC0m17 := zR_C0_fr (zdis_fr hfm17 rfl) hRC0m9
  have hRE115m17 := zR_E115_fr (zdis_fr hfm17 rfl) hRE115m9
  have hRE63m17 := zR_E63_fr (zdis_fr hfm17 rfl) hRE63m9
  have hRE89m17 := zR_E89_fr (zdis_fr hfm17 rfl) hRE89m9
  have hRG5m17 := zR_G5_fr (zdis_fr hfm17 rfl) hRG5m9
  have hRK10m17 := zR_K10_fr (zdis_fr hfm17 rfl) hRK10m9
  have hRK54m17 := zR_K54_fr (zdis_fr hfm17 rfl) hRK54m9
  have hRLKm17 := zR_LK_fr (zdis_fr hfm17 rfl) hRLKm9
  have hRNSm17 := zR_NS_fr (zdis_fr hfm17 rfl) hRNSm9
  have hRRIm17 := zR_RI_fr (zdis_fr hfm17 rfl) hRRIm9
  have hRRUm17 := zR_RU_fr (zdis_fr hfm17 rfl) hRRUm9
  have hRTAm17 := zR_TA_fr (zdis_fr hfm17 rfl) hRTAm9
  have hRTEm17 := zR_TE_fr (zdis_fr hfm17 rfl) hRTEm9
  have hRTPm17 := zR_TP_fr (zdis_fr hfm17 rfl) hRTPm9
  have hRUNm17 := zR_UN_fr (zdis_fr hfm17 rfl) hRUNm9
  have hRUWm17 := zR_UW_fr (zdis_fr hfm17 rfl) hRUWm9
  have hRW1m17 := zR_W1_fr (zdis_fr hfm17 rfl) hRW1m9
  have hRW2m17 := zR_W2_fr (zdis_fr hfm17 rfl) hRW2m9
  have hRWDm17 := zR_WD_fr (zdis_fr hfm17 rfl) hRWDm9
  have hSm17 := zt_Sf (W := []) (fun p => zfr_ap (p := p) hfm17 zq_1 rfl) hSm9
  have r19 : 0 ≤ (m17 3 1) ∧ (m17 3 1) ≤ 700 := zi_rd hIm17 zq_3 zb_2_1
  have e20 : (m17 3 1) = (m0 3 1) := (Eq.trans (zfr_ap hfm17 zq_3 rfl) (zfr_ap hfm9 zq_3 rfl))
  have r21 : 0 ≤ (m17 190 1) ∧ (m17 190 1) ≤ 700 := zi_rd hIm17 zq_190 zb_28_1
  have e22 : (m17 190 1) = (m0 190 1) := (Eq.trans (zfr_ap hfm17 zq_190 rfl) (zfr_ap hfm9 zq_190 rfl))
  exact zw_kex (ih _ ⟨hIm17, hRBNm17, hRC0m17, hRE115m17, hRE63m17, hRE89m17, hRG5m17, hRK10m17, hRK54m17, hRKNm17, hRLTm17, hRNSm17, hRRIm17, hRRUm17, hRSEm17, hRTEm17, hRUNm17, hRUWm17, hRWDm17, hRW1m17, hRW2m17, hRBYm17, hRTAm17, hRTPm17, hRLKm17, by omega, hSm17⟩)
theorem zlw_1390 {n : Nat} {K : Nat → Nat → Nat → List zu_v → List zu_v → zu_m → Prop} (hst : zt_HS n K) (hp2 : ∀ (cells slots pc : Nat) (i v : Int) (m : zu_m), pc ∈ [529, 552] → K cells slots (pc + 1) [(3, 1), (5, 3), (40, 190), (53, 233), (0, i), (2, 0), (2, 0)] [] m → K cells slots pc [(3, 1), (5, 3), (40, 190), (53, 233), (0, i), (2, 0), (2, 0)] [(1, v)] m) {cells slots : Nat} {i : Int} {m0 : zu_m} (hN : zt_INV m0) (hi0 : 0 ≤ i) (hi1 : i ≤ (n : Int) - 6) (hn : n ≤ 3072) (ih : ∀ m, zt_INV m → K cells slots 1454 [(3, 1), (5, 3), (40, 190), (53, 233), (0, i), (2, 0), (2, 0)] [] m) : K cells slots 1390 [(3, 1), (5, 3), (40, 190), (53, 233), (0, i), (2, 0), (2, 0)] [] m0 := by
  refine hst cells slots [23, 40, 208, 281, 306, 331, 356, 370, 396, 433, 470, 507, 529, 552, 556, 605, 618, 655, 680, 705, 730, 755, 792, 865, 902, 939, 964, 977, 1002, 1028, 1041, 1078, 1103, 1128, 1205, 1230, 1255, 1280, 1341, 1390, 1403, 1416, 1429, 1454] 400 1390 _ _ _ ?_
  refine zw_eq (zlr_1390 n _ _ i m0) ?_
  obtain ⟨hIm0, hRBNm0, hRC0m0, hRE115m0, hRE63m0, hRE89m0, hRG5m0, hRK10m0, hRK54m0, hRKNm0, hRLTm0, hRNSm0, hRRIm0, hRRUm0, hRSEm0, hRTEm0, hRUNm0, hRUWm0, hRWDm0, hRW1m0, hRW2m0, hRBYm0, hRTAm0, hRTPm0, hRLKm0, hT, hSm0⟩ := hN
  have r1 : 0 ≤ (m0 3 1) ∧ (m0 3 1) ≤ 700 := zi_rd hIm0 zq_3 zb_2_1
  have r2 : 0 ≤ (m0 190 1) ∧ (m0 190 1) ≤ 700 := zi_rd hIm0 zq_190 zb_28_1
  refine zw_bd (zw_mono (zk_78 n hIm0 zq_3 hRE89m0 hRUNm0 hRUWm0) (fun v4 m3 hqm3 => ?_))
  obtain ⟨hIm3, hfm3, hvm3⟩ := hqm3
  obtain ⟨hRE89m3, hRUNm3, hRUWm3, hvm3⟩ := hvm3
  have hRBNm3 := zR_BN_fr (zdis_fr hfm3 rfl) hRBNm0
  have hRBYm3 := zR_BY_fr (zdis_fr hfm3 rfl) hRBYm0
  have hRC0m3 := zR_C0_fr (zdis_fr hfm3 rfl) hRC0m0
  have hRE115m3 := zR_E115_fr (zdis_fr hfm3 rfl) hRE115m0
  have hRE63m3 := zR_E63_fr (zdis_fr hfm3 rfl) hRE63m0
  have hRG5m3 := zR_G5_fr (zdis_fr hfm3 rfl) hRG5m0
  have hRK10m3 := zR_K10_fr (zdis_fr hfm3 rfl) hRK10m0
  have hRK54m3 := zR_K54_fr (zdis_fr hfm3 rfl) hRK54m0
  have hRKNm3 := zR_KN_fr (zdis_fr hfm3 rfl) hRKNm0
  have hRLKm3 := zR_LK_fr (zdis_fr hfm3 rfl) hRLKm0
  have hRLTm3 := zR_LT_fr (zdis_fr hfm3 rfl) hRLTm0
  have hRNSm3 := zR_NS_fr (zdis_fr hfm3 rfl) hRNSm0
  have hRRIm3 := zR_RI_fr (zdis_fr hfm3 rfl) hRRIm0
  have hRRUm3 := zR_RU_fr (zdis_fr hfm3 rfl) hRRUm0
  have hRSEm3 := zR_SE_fr (zdis_fr hfm3 rfl) hRSEm0
  have hRTAm3 := zR_TA_fr (zdis_fr hfm3 rfl) hRTAm0
  have hRTEm3 := zR_TE_fr (zdis_fr hfm3 rfl) hRTEm0
  have hRTPm3 := zR_TP_fr (zdis_fr hfm3 rfl) hRTPm0
  have hRW1m3 := zR_W1_fr (zdis_fr hfm3 rfl) hRW1m0
  have hRW2m3 := zR_W2_fr (zdis_fr hfm3 rfl) hRW2m0
  have hRWDm3 := zR_WD_fr (zdis_fr hfm3 rfl) hRWDm0
  have hSm3 := zt_Sf (W := []) (fun p => zfr_ap (p := p) hfm3 zq_1 rfl) hSm0
  refine zw_bd (zw_mono (zk_191 n hIm3 zq_190 hRRUm3 hRSEm3 hRTEm3) (fun v6 m5 hqm5 => ?_))
  obtain ⟨hIm5, hfm5, hvm5⟩ := hqm5
  obtain ⟨hRRUm5, hRSEm5, hRTEm5, hvm5⟩ := hvm5
  have hRBNm5 := zR_BN_fr (zdis_fr hfm5 rfl) hRBNm3
  have hRBYm5 := zR_BY_fr (zdis_fr hfm5 rfl) hRBYm3
  have hRC0m5 := zR_C0_fr (zdis_fr hfm5 rfl) hRC0m3
  have hRE115m5 := zR_E115_fr (zdis_fr hfm5 rfl) hRE115m3
  have hRE63m5 := zR_E63_fr (zdis_fr hfm5 rfl) hRE63m3
  have hRE89m5 := zR_E89_fr (zdis_fr hfm5 rfl) hRE89m3
  have hRG5m5 := zR_G5_fr (zdis_fr hfm5 rfl) hRG5m3
  have hRK10m5 := zR_K10_fr (zdis_fr hfm5 rfl) hRK10m3
  have hRK54m5 := zR_K54_fr (zdis_fr hfm5 rfl) hRK54m3
  have hRKNm5 := zR_KN_fr (zdis_fr hfm5 rfl) hRKNm3
  have hRLKm5 := zR_LK_fr (zdis_fr hfm5 rfl) hRLKm3
  have hRLTm5 := zR_LT_fr (zdis_fr hfm5 rfl) hRLTm3
  have hRNSm5 := zR_NS_fr (zdis_fr hfm5 rfl) hRNSm3
  have hRRIm5 := zR_RI_fr (zdis_fr hfm5 rfl) hRRIm3
  have hRTAm5 := zR_TA_fr (zdis_fr hfm5 rfl) hRTAm3
  have hRTPm5 := zR_TP_fr (zdis_fr hfm5 rfl) hRTPm3
  have hRUNm5 := zR_UN_fr (zdis_fr hfm5 rfl) hRUNm3
  have hRUWm5 := zR_UW_fr (zdis_fr hfm5 rfl) hRUWm3
  have hRW1m5 := zR_W1_fr (zdis_fr hfm5 rfl) hRW1m3
  have hRW2m5 := zR_W2_fr (zdis_fr hfm5 rfl) hRW2m3
  have hRWDm5 := zR_WD_fr (zdis_fr hfm5 rfl) hRWDm3
  have hSm5 := zt_Sf (W := []) (fun p => zfr_ap (p := p) hfm5 zq_1 rfl) hSm3
  have r7 : 0 ≤ (m5 3 1) ∧ (m5 3 1) ≤ 700 := zi_rd hIm5 zq_3 zb_2_1
  have e8 : (m5 3 1) = (m0 3 1) := (Eq.trans (zfr_ap hfm5 zq_3 rfl) (zfr_ap hfm3 zq_3 rfl))
  have r9 : 0 ≤ (m5 190 1) ∧ (m5 190 1) ≤ 700 := zi_rd hIm5 zq_190 zb_28_1
  have e10 : (m5 190 1) = (m0 190 1) := (Eq.trans (zfr_ap hfm5 zq_190 rfl) (zfr_ap hfm3 zq_190 rfl))
  exact zw_kex (ih _ ⟨hIm5, hRBNm5, hRC0m5, hRE115m5, hRE63m5, hRE89m5, hRG5m5, hRK10m5, hRK54m5, hRKNm5, hRLTm5, hRNSm5, hRRIm5, hRRUm5, hRSEm5, hRTEm5, hRUNm5, hRUWm5, hRWDm5, hRW1m5, hRW2m5, hRBYm5, hRTAm5, hRTPm5, hRLKm5, by omega, hSm5⟩)
theorem zlw_1403 {n : Nat} {K : Nat → Nat → Nat → List zu_v → List zu_v → zu_m → Prop} (hst : zt_HS n K) (hp2 : ∀ (cells slots pc : Nat) (i v : Int) (m : zu_m), pc ∈ [529, 552] → K cells slots (pc + 1) [(3, 1), (5, 3), (40, 190), (53, 233), (0, i), (2, 0), (2, 0)] [] m → K cells slots pc [(3, 1), (5, 3), (40, 190), (53, 233), (0, i), (2, 0), (2, 0)] [(1, v)] m) {cells slots : Nat} {i : Int} {m0 : zu_m} (hN : zt_INV m0) (hi0 : 0 ≤ i) (hi1 : i ≤ (n : Int) - 6) (hn : n ≤ 3072) (ih : ∀ m, zt_INV m → K cells slots 1454 [(3, 1), (5, 3), (40, 190), (53, 233), (0, i), (2, 0), (2, 0)] [] m) : K cells slots 1403 [(3, 1), (5, 3), (40, 190), (53, 233), (0, i), (2, 0), (2, 0)] [] m0 := by
  refine hst cells slots [23, 40, 208, 281, 306, 331, 356, 370, 396, 433, 470, 507, 529, 552, 556, 605, 618, 655, 680, 705, 730, 755, 792, 865, 902, 939, 964, 977, 1002, 1028, 1041, 1078, 1103, 1128, 1205, 1230, 1255, 1280, 1341, 1390, 1403, 1416, 1429, 1454] 400 1403 _ _ _ ?_
  refine zw_eq (zlr_1403 n _ _ i m0) ?_
  obtain ⟨hIm0, hRBNm0, hRC0m0, hRE115m0, hRE63m0, hRE89m0, hRG5m0, hRK10m0, hRK54m0, hRKNm0, hRLTm0, hRNSm0, hRRIm0, hRRUm0, hRSEm0, hRTEm0, hRUNm0, hRUWm0, hRWDm0, hRW1m0, hRW2m0, hRBYm0, hRTAm0, hRTPm0, hRLKm0, hT, hSm0⟩ := hN
  have r1 : 0 ≤ (m0 3 1) ∧ (m0 3 1) ≤ 700 := zi_rd hIm0 zq_3 zb_2_1
  have r2 : 0 ≤ (m0 190 1) ∧ (m0 190 1) ≤ 700 := zi_rd hIm0 zq_190 zb_28_1
  refine zw_bd (zw_mono (zk_79 n hIm0 zq_3 hRE89m0) (fun v4 m3 hqm3 => ?_))
  obtain ⟨hIm3, hfm3, hvm3⟩ := hqm3
  obtain ⟨hRE115m3, hRE89m3, hRESm3, hvm3⟩ := hvm3
  have hRBNm3 := zR_BN_fr (zdis_fr hfm3 rfl) hRBNm0
  have hRBYm3 := zR_BY_fr (zdis_fr hfm3 rfl) hRBYm0
  have hRC0m3 := zR_C0_fr (zdis_fr hfm3 rfl) hRC0m0
  have hRE63m3 := zR_E63_fr (zdis_fr hfm3 rfl) hRE63m0
  have hRG5m3 := zR_G5_fr (zdis_fr hfm3 rfl) hRG5m0
  have hRK10m3 := zR_K10_fr (zdis_fr hfm3 rfl) hRK10m0
  have hRK54m3 := zR_K54_fr (zdis_fr hfm3 rfl) hRK54m0
  have hRKNm3 := zR_KN_fr (zdis_fr hfm3 rfl) hRKNm0
  have hRLKm3 := zR_LK_fr (zdis_fr hfm3 rfl) hRLKm0
  have hRLTm3 := zR_LT_fr (zdis_fr hfm3 rfl) hRLTm0
  have hRNSm3 := zR_NS_fr (zdis_fr hfm3 rfl) hRNSm0
  have hRRIm3 := zR_RI_fr (zdis_fr hfm3 rfl) hRRIm0
  have hRRUm3 := zR_RU_fr (zdis_fr hfm3 rfl) hRRUm0
  have hRSEm3 := zR_SE_fr (zdis_fr hfm3 rfl) hRSEm0
  have hRTAm3 := zR_TA_fr (zdis_fr hfm3 rfl) hRTAm0
  have hRTEm3 := zR_TE_fr (zdis_fr hfm3 rfl) hRTEm0
  have hRTPm3 := zR_TP_fr (zdis_fr hfm3 rfl) hRTPm0
  have hRUNm3 := zR_UN_fr (zdis_fr hfm3 rfl) hRUNm0
  have hRUWm3 := zR_UW_fr (zdis_fr hfm3 rfl) hRUWm0
  have hRW1m3 := zR_W1_fr (zdis_fr hfm3 rfl) hRW1m0
  have hRW2m3 := zR_W2_fr (zdis_fr hfm3 rfl) hRW2m0
  have hRWDm3 := zR_WD_fr (zdis_fr hfm3 rfl) hRWDm0
  have hSm3 := zt_Sf (W := []) (fun p => zfr_ap (p := p) hfm3 zq_1 rfl) hSm0
  refine zw_bd (zw_mono (zk_192 n hIm3 zq_190 hRSEm3 hRTEm3) (fun v6 m5 hqm5 => ?_))
  obtain ⟨hIm5, hfm5, hvm5⟩ := hqm5
  obtain ⟨hRRIm5, hRSEm5, hRTEm5, hvm5⟩ := hvm5
  have hRBNm5 := zR_BN_fr (zdis_fr hfm5 rfl) hRBNm3
  have hRBYm5 := zR_BY_fr (zdis_fr hfm5 rfl) hRBYm3
  have hRC0m5 := zR_C0_fr (zdis_fr hfm5 rfl) hRC0m3
  have hRE115m5 := zR_E115_fr (zdis_fr hfm5 rfl) hRE115m3
  have hRE63m5 := zR_E63_fr (zdis_fr hfm5 rfl) hRE63m3
  have hRE89m5 := zR_E89_fr (zdis_fr hfm5 rfl) hRE89m3
  have hRESm5 := zR_ES_fr (zdis_fr hfm5 rfl) hRESm3
  have hRG5m5 := zR_G5_fr (zdis_fr hfm5 rfl) hRG5m3
  have hRK10m5 := zR_K10_fr (zdis_fr hfm5 rfl) hRK10m3
  have hRK54m5 := zR_K54_fr (zdis_fr hfm5 rfl) hRK54m3
  have hRKNm5 := zR_KN_fr (zdis_fr hfm5 rfl) hRKNm3
  have hRLKm5 := zR_LK_fr (zdis_fr hfm5 rfl) hRLKm3
  have hRLTm5 := zR_LT_fr (zdis_fr hfm5 rfl) hRLTm3
  have hRNSm5 := zR_NS_fr (zdis_fr hfm5 rfl) hRNSm3
  have hRRUm5 := zR_RU_fr (zdis_fr hfm5 rfl) hRRUm3
  have hRTAm5 := zR_TA_fr (zdis_fr hfm5 rfl) hRTAm3
  have hRTPm5 := zR_TP_fr (zdis_fr hfm5 rfl) hRTPm3
  have hRUNm5 := zR_UN_fr (zdis_fr hfm5 rfl) hRUNm3
  have hRUWm5 := zR_UW_fr (zdis_fr hfm5 rfl) hRUWm3
  have hRW1m5 := zR_W1_fr (zdis_fr hfm5 rfl) hRW1m3
  have hRW2m5 := zR_W2_fr (zdis_fr hfm5 rfl) hRW2m3
  have hRWDm5 := zR_WD_fr (zdis_fr hfm5 rfl) hRWDm3
  have hSm5 := zt_Sf (W := []) (fun p => zfr_ap (p := p) hfm5 zq_1 rfl) hSm3
  have r7 : 0 ≤ (m5 3 1) ∧ (m5 3 1) ≤ 700 := zi_rd hIm5 zq_3 zb_2_1
  have e8 : (m5 3 1) = (m0 3 1) := (Eq.trans (zfr_ap hfm5 zq_3 rfl) (zfr_ap hfm3 zq_3 rfl))
  have r9 : 0 ≤ (m5 190 1) ∧ (m5 190 1) ≤ 700 := zi_rd hIm5 zq_190 zb_28_1
  have e10 : (m5 190 1) = (m0 190 1) := (Eq.trans (zfr_ap hfm5 zq_190 rfl) (zfr_ap hfm3 zq_190 rfl))
  exact zw_kex (ih _ ⟨hIm5, hRBNm5, hRC0m5, hRE115m5, hRE63m5, hRE89m5, hRG5m5, hRK10m5, hRK54m5, hRKNm5, hRLTm5, hRNSm5, hRRIm5, hRRUm5, hRSEm5, hRTEm5, hRUNm5, hRUWm5, hRWDm5, hRW1m5, hRW2m5, hRBYm5, hRTAm5, hRTPm5, hRLKm5, by omega, hSm5⟩)
theorem zlw_1416 {n : Nat} {K : Nat → Nat → Nat → List zu_v → List zu_v → zu_m → Prop} (hst : zt_HS n K) (hp2 : ∀ (cells slots pc : Nat) (i v : Int) (m : zu_m), pc ∈ [529, 552] → K cells slots (pc + 1) [(3, 1), (5, 3), (40, 190), (53, 233), (0, i), (2, 0), (2, 0)] [] m → K cells slots pc [(3, 1), (5, 3), (40, 190), (53, 233), (0, i), (2, 0), (2, 0)] [(1, v)] m) {cells slots : Nat} {i : Int} {m0 : zu_m} (hN : zt_INV m0) (hi0 : 0 ≤ i) (hi1 : i ≤ (n : Int) - 6) (hn : n ≤ 3072) (ih : ∀ m, zt_INV m → K cells slots 1454 [(3, 1), (5, 3), (40, 190), (53, 233), (0, i), (2, 0), (2, 0)] [] m) : K cells slots 1416 [(3, 1), (5, 3), (40, 190), (53, 233), (0, i), (2, 0), (2, 0)] [] m0 := by
  refine hst cells slots [23, 40, 208, 281, 306, 331, 356, 370, 396, 433, 470, 507, 529, 552, 556, 605, 618, 655, 680, 705, 730, 755, 792, 865, 902, 939, 964, 977, 1002, 1028, 1041, 1078, 1103, 1128, 1205, 1230, 1255, 1280, 1341, 1390, 1403, 1416, 1429, 1454] 400 1416 _ _ _ ?_
  refine zw_eq (zlr_1416 n _ _ i m0) ?_
  obtain ⟨hIm0, hRBNm0, hRC0m0, hRE115m0, hRE63m0, hRE89m0, hRG5m0, hRK10m0, hRK54m0, hRKNm0, hRLTm0, hRNSm0, hRRIm0, hRRUm0, hRSEm0, hRTEm0, hRUNm0, hRUWm0, hRWDm0, hRW1m0, hRW2m0, hRBYm0, hRTAm0, hRTPm0, hRLKm0, hT, hSm0⟩ := hN
  have r1 : 0 ≤ (m0 3 1) ∧ (m0 3 1) ≤ 700 := zi_rd hIm0 zq_3 zb_2_1
  have r2 : 0 ≤ (m0 190 1) ∧ (m0 190 1) ≤ 700 := zi_rd hIm0 zq_190 zb_28_1
  refine zw_bd (zw_mono (zk_80 n hIm0 zq_3 hRE115m0 hRE89m0 hRUNm0 hRUWm0) (fun v4 m3 hqm3 => ?_))
  obtain ⟨hIm3, hfm3, hvm3⟩ := hqm3
  obtain ⟨hRE115m3, hRE89m3, hRUNm3, hRUWm3, hvm3⟩ := hvm3
  have hRBNm3 := zR_BN_fr (zdis_fr hfm3 rfl) hRBNm0
  have hRBYm3 := zR_BY_fr (zdis_fr hfm3 rfl) hRBYm0
  have hRC0m3 := zR_C0_fr (zdis_fr hfm3 rfl) hRC0m0
  have hRE63m3 := zR_E63_fr (zdis_fr hfm3 rfl) hRE63m0
  have hRG5m3 := zR_G5_fr (zdis_fr hfm3 rfl) hRG5m0
  have hRK10m3 := zR_K10_fr (zdis_fr hfm3 rfl) hRK10m0
  have hRK54m3 := zR_K54_fr (zdis_fr hfm3 rfl) hRK54m0
  have hRKNm3 := zR_KN_fr (zdis_fr hfm3 rfl) hRKNm0
  have hRLKm3 := zR_LK_fr (zdis_fr hfm3 rfl) hRLKm0
  have hRLTm3 := zR_LT_fr (zdis_fr hfm3 rfl) hRLTm0
  have hRNSm3 := zR_NS_fr (zdis_fr hfm3 rfl) hRNSm0
  have hRRIm3 := zR_RI_fr (zdis_fr hfm3 rfl) hRRIm0
  have hRRUm3 := zR_RU_fr (zdis_fr hfm3 rfl) hRRUm0
  have hRSEm3 := zR_SE_fr (zdis_fr hfm3 rfl) hRSEm0
  have hRTAm3 := zR_TA_fr (zdis_fr hfm3 rfl) hRTAm0
  have hRTEm3 := zR_TE_fr (zdis_fr hfm3 rfl) hRTEm0
  have hRTPm3 := zR_TP_fr (zdis_fr hfm3 rfl) hRTPm0
  have hRW1m3 := zR_W1_fr (zdis_fr hfm3 rfl) hRW1m0
  have hRW2m3 := zR_W2_fr (zdis_fr hfm3 rfl) hRW2m0
  have hRWDm3 := zR_WD_fr (zdis_fr hfm3 rfl) hRWDm0
  have hSm3 := zt_Sf (W := []) (fun p => zfr_ap (p := p) hfm3 zq_1 rfl) hSm0
  refine zw_bd (zw_mono (zk_193 n hIm3 zq_190 hRRIm3 hRRUm3 hRSEm3 hRTEm3) (fun v6 m5 hqm5 => ?_))
  obtain ⟨hIm5, hfm5, hvm5⟩ := hqm5
  obtain ⟨hRRIm5, hRRUm5, hRSEm5, hRTEm5, hvm5⟩ := hvm5
  have hRBNm5 := zR_BN_fr (zdis_fr hfm5 rfl) hRBNm3
  have hRBYm5 := zR_BY_fr (zdis_fr hfm5 rfl) hRBYm3
  have hRC0m5 := zR_C0_fr (zdis_fr hfm5 rfl) hRC0m3
  have hRE115m5 := zR_E115_fr (zdis_fr hfm5 rfl) hRE115m3
  have hRE63m5 := zR_E63_fr (zdis_fr hfm5 rfl) hRE63m3
  have hRE89m5 := zR_E89_fr (zdis_fr hfm5 rfl) hRE89m3
  have hRG5m5 := zR_G5_fr (zdis_fr hfm5 rfl) hRG5m3
  have hRK10m5 := zR_K10_fr (zdis_fr hfm5 rfl) hRK10m3
  have hRK54m5 := zR_K54_fr (zdis_fr hfm5 rfl) hRK54m3
  have hRKNm5 := zR_KN_fr (zdis_fr hfm5 rfl) hRKNm3
  have hRLKm5 := zR_LK_fr (zdis_fr hfm5 rfl) hRLKm3
  have hRLTm5 := zR_LT_fr (zdis_fr hfm5 rfl) hRLTm3
  have hRNSm5 := zR_NS_fr (zdis_fr hfm5 rfl) hRNSm3
  have hRTAm5 := zR_TA_fr (zdis_fr hfm5 rfl) hRTAm3
  have hRTPm5 := zR_TP_fr (zdis_fr hfm5 rfl) hRTPm3
  have hRUNm5 := zR_UN_fr (zdis_fr hfm5 rfl) hRUNm3
  have hRUWm5 := zR_UW_fr (zdis_fr hfm5 rfl) hRUWm3
  have hRW1m5 := zR_W1_fr (zdis_fr hfm5 rfl) hRW1m3
  have hRW2m5 := zR_W2_fr (zdis_fr hfm5 rfl) hRW2m3
  have hRWDm5 := zR_WD_fr (zdis_fr hfm5 rfl) hRWDm3
  have hSm5 := zt_Sf (W := []) (fun p => zfr_ap (p := p) hfm5 zq_1 rfl) hSm3
  have r7 : 0 ≤ (m5 3 1) ∧ (m5 3 1) ≤ 700 := zi_rd hIm5 zq_3 zb_2_1
  have e8 : (m5 3 1) = (m0 3 1) := (Eq.trans (zfr_ap hfm5 zq_3 rfl) (zfr_ap hfm3 zq_3 rfl))
  have r9 : 0 ≤ (m5 190 1) ∧ (m5 190 1) ≤ 700 := zi_rd hIm5 zq_190 zb_28_1
  have e10 : (m5 190 1) = (m0 190 1) := (Eq.trans (zfr_ap hfm5 zq_190 rfl) (zfr_ap hfm3 zq_190 rfl))
  exact zw_kex (ih _ ⟨hIm5, hRBNm5, hRC0m5, hRE115m5, hRE63m5, hRE89m5, hRG5m5, hRK10m5, hRK54m5, hRKNm5, hRLTm5, hRNSm5, hRRIm5, hRRUm5, hRSEm5, hRTEm5, hRUNm5, hRUWm5, hRWDm5, hRW1m5, hRW2m5, hRBYm5, hRTAm5, hRTPm5, hRLKm5, by omega, hSm5⟩)
theorem zlw_1429 {n : Nat} {K : Nat → Nat → Nat → List zu_v → List zu_v → zu_m → Prop} (hst : zt_HS n K) (hp2 : ∀ (cells slots pc : Nat) (i v : Int) (m : zu_m), pc ∈ [529, 552] → K cells slots (pc + 1) [(3, 1), (5, 3), (40, 190), (53, 233), (0, i), (2, 0), (2, 0)] [] m → K cells slots pc [(3, 1), (5, 3), (40, 190), (53, 233), (0, i), (2, 0), (2, 0)] [(1, v)] m) {cells slots : Nat} {i : Int} {m0 : zu_m} (hN : zt_INV m0) (hi0 : 0 ≤ i) (hi1 : i ≤ (n : Int) - 6) (hn : n ≤ 3072) (ih : ∀ m, zt_INV m → K cells slots 1454 [(3, 1), (5, 3), (40, 190), (53, 233), (0, i), (2, 0), (2, 0)] [] m) : K cells slots 1429 [(3, 1), (5, 3), (40, 190), (53, 233), (0, i), (2, 0), (2, 0)] [] m0 := by
  refine hst cells slots [23, 40, 208, 281, 306, 331, 356, 370, 396, 433, 470, 507, 529, 552, 556, 605, 618, 655, 680, 705, 730, 755, 792, 865, 902, 939, 964, 977, 1002, 1028, 1041, 1078, 1103, 1128, 1205, 1230, 1255, 1280, 1341, 1390, 1403, 1416, 1429, 1454] 400 1429 _ _ _ ?_
  refine zw_eq (zlr_1429 n _ _ i m0) ?_
  obtain ⟨hIm0, hRBNm0, hRC0m0, hRE115m0, hRE63m0, hRE89m0, hRG5m0, hRK10m0, hRK54m0, hRKNm0, hRLTm0, hRNSm0, hRRIm0, hRRUm0, hRSEm0, hRTEm0, hRUNm0, hRUWm0, hRWDm0, hRW1m0, hRW2m0, hRBYm0, hRTAm0, hRTPm0, hRLKm0, hT, hSm0⟩ := hN
  have r1 : 0 ≤ (m0 3 1) ∧ (m0 3 1) ≤ 700 := zi_rd hIm0 zq_3 zb_2_1
  have r2 : 0 ≤ (m0 190 1) ∧ (m0 190 1) ≤ 700 := zi_rd hIm0 zq_190 zb_28_1
  have w3 := zu_w32_id (z := i + 1) (by omega) (by omega)
  refine zw_if ⟨by omega, by omega⟩ ?_
  have r4 := hSm0 (zu_w32 (i + 1))
  refine zw_bd (zw_mono (zk_81 n hIm0 zq_3 ⟨by omega, by omega⟩) (fun v6 m5 hqm5 => ?_))
  obtain ⟨hIm5, hfm5, hvm5⟩ := hqm5
  have hRBNm5 := zR_BN_fr (zdis_fr hfm5 rfl) hRBNm0
  have hRBYm5 := zR_BY_fr (zdis_fr hfm5 rfl) hRBYm0
  have hRC0m5 := zR_C0_fr (zdis_fr hfm5 rfl) hRC0m0
  have hRE115m5 := zR_E115_fr (zdis_fr hfm5 rfl) hRE115m0
  have hRE63m5 := zR_E63_fr (zdis_fr hfm5 rfl) hRE63m0
  have hRE89m5 := zR_E89_fr (zdis_fr hfm5 rfl) hRE89m0
  have hRG5m5 := zR_G5_fr (zdis_fr hfm5 rfl) hRG5m0
  have hRK10m5 := zR_K10_fr (zdis_fr hfm5 rfl) hRK10m0
  have hRK54m5 := zR_K54_fr (zdis_fr hfm5 rfl) hRK54m0
  have hRKNm5 := zR_KN_fr (zdis_fr hfm5 rfl) hRKNm0
  have hRLKm5 := zR_LK_fr (zdis_fr hfm5 rfl) hRLKm0
  have hRLTm5 := zR_LT_fr (zdis_fr hfm5 rfl) hRLTm0
  have hRNSm5 := zR_NS_fr (zdis_fr hfm5 rfl) hRNSm0
  have hRRIm5 := zR_RI_fr (zdis_fr hfm5 rfl) hRRIm0
  have hRRUm5 := zR_RU_fr (zdis_fr hfm5 rfl) hRRUm0
  have hRSEm5 := zR_SE_fr (zdis_fr hfm5 rfl) hRSEm0
  have hRTAm5 := zR_TA_fr (zdis_fr hfm5 rfl) hRTAm0
  have hRTEm5 := zR_TE_fr (zdis_fr hfm5 rfl) hRTEm0
  have hRTPm5 := zR_TP_fr (zdis_fr hfm5 rfl) hRTPm0
  have hRUNm5 := zR_UN_fr (zdis_fr hfm5 rfl) hRUNm0
  have hRUWm5 := zR_UW_fr (zdis_fr hfm5 rfl) hRUWm0
  have hRW1m5 := zR_W1_fr (zdis_fr hfm5 rfl) hRW1m0
  have hRW2m5 := zR_W2_fr (zdis_fr hfm5 rfl) hRW2m0
  have hRWDm5 := zR_WD_fr (zdis_fr hfm5 rfl) hRWDm0
  have hSm5 := zt_Sf (W := []) (fun p => zfr_ap (p := p) hfm5 zq_1 rfl) hSm0
  refine zw_if ⟨by omega, by omega⟩ ?_
  have r7 := hSm5 (zu_w32 (i + 1))
  have e8 : (m5 1 (zu_w32 (i + 1))) = (m0 1 (zu_w32 (i + 1))) := (zfr_ap hfm5 zq_1 rfl)
  refine zw_bd (zw_mono (zk_195 n hIm5 zq_190 ⟨by omega, by omega⟩) (fun v10 m9 hqm9 => ?_))
  obtain ⟨hIm9, hfm9, hvm9⟩ := hqm9
  have hRBNm9 := zR_BN_fr (zdis_fr hfm9 rfl) hRBNm5
  have hRBYm9 := zR_BY_fr (zdis_fr hfm9 rfl) hRBYm5
  have hRC0m9 := zR_C0_fr (zdis_fr hfm9 rfl) hRC0m5
  have hRE115m9 := zR_E115_fr (zdis_fr hfm9 rfl) hRE115m5
  have hRE63m9 := zR_E63_fr (zdis_fr hfm9 rfl) hRE63m5
  have hRE89m9 := zR_E89_fr (zdis_fr hfm9 rfl) hRE89m5
  have hRG5m9 := zR_G5_fr (zdis_fr hfm9 rfl) hRG5m5
  have hRK10m9 := zR_K10_fr (zdis_fr hfm9 rfl) hRK10m5
  have hRK54m9 := zR_K54_fr (zdis_fr hfm9 rfl) hRK54m5
  have hRKNm9 := zR_KN_fr (zdis_fr hfm9 rfl) hRKNm5
  have hRLKm9 := zR_LK_fr (zdis_fr hfm9 rfl) hRLKm5
  have hRLTm9 := zR_LT_fr (zdis_fr hfm9 rfl) hRLTm5
  have hRNSm9 := zR_NS_fr (zdis_fr hfm9 rfl) hRNSm5
  have hRRIm9 := zR_RI_fr (zdis_fr hfm9 rfl) hRRIm5
  have hRRUm9 := zR_RU_fr (zdis_fr hfm9 rfl) hRRUm5
  have hRSEm9 := zR_SE_fr (zdis_fr hfm9 rfl) hRSEm5
  have hRTAm9 := zR_TA_fr (zdis_fr hfm9 rfl) hRTAm5
  have hRTEm9 := zR_TE_fr (zdis_fr hfm9 rfl) hRTEm5
  have hRTPm9 := zR_TP_fr (zdis_fr hfm9 rfl) hRTPm5
  have hRUNm9 := zR_UN_fr (zdis_fr hfm9 rfl) hRUNm5
  have hRUWm9 := zR_UW_fr (zdis_fr hfm9 rfl) hRUWm5
  have hRW1m9 := zR_W1_fr (zdis_fr hfm9 rfl) hRW1m5
  have hRW2m9 := zR_W2_fr (zdis_fr hfm9 rfl) hRW2m5
  have hRWDm9 := zR_WD_fr (zdis_fr hfm9 rfl) hRWDm5
  have hSm9 := zt_Sf (W := []) (fun p => zfr_ap (p := p) hfm9 zq_1 rfl) hSm5
  have r11 : 0 ≤ (m9 3 1) ∧ (m9 3 1) ≤ 700 := zi_rd hIm9 zq_3 zb_2_1
  have e12 : (m9 3 1) = (m0 3 1) := (Eq.trans (zfr_ap hfm9 zq_3 rfl) (zfr_ap hfm5 zq_3 rfl))
  have r13 : 0 ≤ (m9 190 1) ∧ (m9 190 1) ≤ 700 := zi_rd hIm9 zq_190 zb_28_1
  have e14 : (m9 190 1) = (m0 190 1) := (Eq.trans (zfr_ap hfm9 zq_190 rfl) (zfr_ap hfm5 zq_190 rfl))
  exact zw_kex (ih _ ⟨hIm9, hRBNm9, hRC0m9, hRE115m9, hRE63m9, hRE89m9, hRG5m9, hRK10m9, hRK54m9, hRKNm9, hRLTm9, hRNSm9, hRRIm9, hRRUm9, hRSEm9, hRTEm9, hRUNm9, hRUWm9, hRWDm9, hRW1m9, hRW2m9, hRBYm9, hRTAm9, hRTPm9, hRLKm9, by omega, hSm9⟩)
theorem zlw_373 {n : Nat} {K : Nat → Nat → Nat → List zu_v → List zu_v → zu_m → Prop} (hst : zt_HS n K) (hp2 : ∀ (cells slots pc : Nat) (i v : Int) (m : zu_m), pc ∈ [529, 552] → K cells slots (pc + 1) [(3, 1), (5, 3), (40, 190), (53, 233), (0, i), (2, 0), (2, 0)] [] m → K cells slots pc [(3, 1), (5, 3), (40, 190), (53, 233), (0, i), (2, 0), (2, 0)] [(1, v)] m) {cells slots : Nat} {i r : Int} {m0 : zu_m} (hN : zt_INV m0) (hi0 : 0 ≤ i) (hi1 : i ≤ (n : Int) - 6) (hn : n ≤ 3072) (ih : ∀ m, zt_INV m → K cells slots 1454 [(3, 1), (5, 3), (40, 190), (53, 233), (0, i), (2, 0), (2, 0)] [] m) (ihf : ∀ (r v : Int) (m : zu_m), K cells slots 1454 [(3, 1), (5, 3), (40, 190), (53, 233), (0, i), (2, 0), (2, 0)] [] m → K cells slots 1454 [(3, 1), (5, 3), (40, 190), (53, 233), (0, i), (0, r), (0, v)] [] m) : K cells slots 373 [(3, 1), (5, 3), (40, 190), (53, 233), (0, i), (2, 0), (2, 0)] [(0, r)] m0 := by
  refine hst cells slots [23, 40, 208, 281, 306, 331, 356, 370, 396, 433, 470, 507, 529, 552, 556, 605, 618, 655, 680, 705, 730, 755, 792, 865, 902, 939, 964, 977, 1002, 1028, 1041, 1078, 1103, 1128, 1205, 1230, 1255, 1280, 1341, 1390, 1403, 1416, 1429, 1454] 400 373 _ _ _ ?_
  refine zw_eq (zlr_373 n _ _ i r m0) ?_
  obtain ⟨hIm0, hRBNm0, hRC0m0, hRE115m0, hRE63m0, hRE89m0, hRG5m0, hRK10m0, hRK54m0, hRKNm0, hRLTm0, hRNSm0, hRRIm0, hRRUm0, hRSEm0, hRTEm0, hRUNm0, hRUWm0, hRWDm0, hRW1m0, hRW2m0, hRBYm0, hRTAm0, hRTPm0, hRLKm0, hT, hSm0⟩ := hN
  have r1 : 0 ≤ (m0 3 1) ∧ (m0 3 1) ≤ 700 := zi_rd hIm0 zq_3 zb_2_1
  have r2 : 0 ≤ (m0 190 1) ∧ (m0 190 1) ≤ 700 := zi_rd hIm0 zq_190 zb_28_1
  have w3 := zu_w32_id (z := i + 1) (by omega) (by omega)
  refine zw_if ⟨by omega, by omega⟩ ?_
  have r4 := hSm0 (zu_w32 (i + 1))
  have w5 := zu_w32_id (z := i + 2) (by omega) (by omega)
  refine zw_if ⟨by omega, by omega⟩ ?_
  have r6 := hSm0 (zu_w32 (i + 2))
  refine zw_bd (zw_mono (zk_143 n hIm0 zq_190 ⟨by omega, by omega⟩ ⟨by omega, by omega⟩) (fun v8 m7 hqm7 => ?_))
  obtain ⟨hIm7, hfm7, hvm7⟩ := hqm7
  have hRBNm7 := zR_BN_fr (zdis_fr hfm7 rfl) hRBNm0
  have hRBYm7 := zR_BY_fr (zdis_fr hfm7 rfl) hRBYm0
  have hRC0m7 := zR_C0_fr (zdis_fr hfm7 rfl) hRC0m0
  have hRE115m7 := zR_E115_fr (zdis_fr hfm7 rfl) hRE115m0
  have hRE63m7 := zR_E63_fr (zdis_fr hfm7 rfl) hRE63m0
  have hRE89m7 := zR_E89_fr (zdis_fr hfm7 rfl) hRE89m0
  have hRG5m7 := zR_G5_fr (zdis_fr hfm7 rfl) hRG5m0
  have hRK10m7 := zR_K10_fr (zdis_fr hfm7 rfl) hRK10m0
  have hRK54m7 := zR_K54_fr (zdis_fr hfm7 rfl) hRK54m0
  have hRKNm7 := zR_KN_fr (zdis_fr hfm7 rfl) hRKNm0
  have hRLKm7 := zR_LK_fr (zdis_fr hfm7 rfl) hRLKm0
  have hRLTm7 := zR_LT_fr (zdis_fr hfm7 rfl) hRLTm0
  have hRNSm7 := zR_NS_fr (zdis_fr hfm7 rfl) hRNSm0
  have hRRIm7 := zR_RI_fr (zdis_fr hfm7 rfl) hRRIm0
  have hRRUm7 := zR_RU_fr (zdis_fr hfm7 rfl) hRRUm0
  have hRSEm7 := zR_SE_fr (zdis_fr hfm7 rfl) hRSEm0
  have hRTAm7 := zR_TA_fr (zdis_fr hfm7 rfl) hRTAm0
  have hRTEm7 := zR_TE_fr (zdis_fr hfm7 rfl) hRTEm0
  have hRTPm7 := zR_TP_fr (zdis_fr hfm7 rfl) hRTPm0
  have hRUNm7 := zR_UN_fr (zdis_fr hfm7 rfl) hRUNm0
  have hRUWm7 := zR_UW_fr (zdis_fr hfm7 rfl) hRUWm0
  have hRW1m7 := zR_W1_fr (zdis_fr hfm7 rfl) hRW1m0
  have hRW2m7 := zR_W2_fr (zdis_fr hfm7 rfl) hRW2m0
  have hRWDm7 := zR_WD_fr (zdis_fr hfm7 rfl) hRWDm0
  have hSm7 := zt_Sf (W := []) (fun p => zfr_ap (p := p) hfm7 zq_1 rfl) hSm0
  have r9 : 0 ≤ (m7 3 1) ∧ (m7 3 1) ≤ 700 := zi_rd hIm7 zq_3 zb_2_1
  have e10 : (m7 3 1) = (m0 3 1) := (zfr_ap hfm7 zq_3 rfl)
  have r11 : 0 ≤ (m7 190 1) ∧ (m7 190 1) ≤ 700 := zi_rd hIm7 zq_190 zb_28_1
  have e12 : (m7 190 1) = (m0 190 1) := (zfr_ap hfm7 zq_190 rfl)
  exact zw_kex (ihf _ _ _ (ih _ ⟨hIm7, hRBNm7, hRC0m7, hRE115m7, hRE63m7, hRE89m7, hRG5m7, hRK10m7, hRK54m7, hRKNm7, hRLTm7, hRNSm7, hRRIm7, hRRUm7, hRSEm7, hRTEm7, hRUNm7, hRUWm7, hRWDm7, hRW1m7, hRW2m7, hRBYm7, hRTAm7, hRTPm7, hRLKm7, by omega, hSm7⟩))
