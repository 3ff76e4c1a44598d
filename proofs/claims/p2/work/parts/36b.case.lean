def zt_INV (m : zu_m) : Prop := zi_I m ∧ zR_BN m ∧ zR_C0 m ∧ (m 3 9 = 1 → zE m 115 50) ∧ zE m 63 50 ∧ zE m 89 50 ∧ zgeo m 50 ∧ zR_K10 m ∧ zR_K54 m ∧ zR_KN m ∧ zR_LT m ∧ zR_NS m ∧ zR_RI m ∧ zR_RU m ∧ zE1 m 0 ∧ zR_TE m ∧ zR_UN m ∧ zR_UW m ∧ zR_WD m ∧ m 3 1 = m 190 1 ∧ ∀ j, (-2147483648 : Int) ≤ m 1 j ∧ m 1 j ≤ 2147483647
def zt_HS (n : Nat) (K : Nat → Nat → Nat → List zu_v → List zu_v → zu_m → Prop) : Prop := ∀ (cells slots : Nat) (stops : List Nat) (q pc : Nat) (Lz Sz : List zu_v) (σ : zu_m), zw (zu_rega (zt_T n) (zu_call (zt_T n)) (zt_kex (K cells slots)) 11 zt_law stops q pc Lz Sz σ) (fun v _ => v = 1) → K cells slots pc Lz Sz σ
theorem zq_1 : zcls 1 = 0 := by decide +kernel
theorem zt_Sf {W : List (Nat × Nat)} {m m' : zu_m} (h : ∀ p, m' 1 p = m 1 p) (hS : ∀ j, (-2147483648 : Int) ≤ m 1 j ∧ m 1 j ≤ 2147483647) : ∀ j, (-2147483648 : Int) ≤ m' 1 j ∧ m' 1 j ≤ 2147483647 := fun j => by
  rw [h j]
  exact hS j
def zt_Wl : List (Nat × Nat) := [(2, 2), (2, 3), (2, 4), (2, 10), (3, 5), (3, 6), (3, 7), (3, 8), (3, 9), (3, 10), (3, 11), (4, 1), (4, 2), (4, 3), (4, 4), (4, 5), (4, 6), (5, 6), (5, 7), (6, 3), (6, 5), (6, 9), (6, 10), (6, 11), (6, 12), (7, 1), (7, 2), (7, 3), (7, 4), (8, 1), (8, 2), (8, 3), (8, 4), (8, 5), (8, 6), (8, 7), (9, 3), (9, 4), (9, 5), (9, 6), (9, 7), (10, 4), (10, 5), (10, 7), (10, 8), (11, 1), (11, 2), (11, 3), (11, 4), (11, 5), (11, 6), (12, 6), (12, 7), (13, 3), (13, 5), (13, 9), (13, 10), (13, 11), (13, 12), (14, 1), (14, 2), (14, 3), (14, 4), (15, 1), (15, 2), (15, 3), (15, 4), (15, 5), (15, 6), (15, 7), (15, 8), (16, 3), (16, 5), (16, 9), (16, 10), (16, 11), (16, 12), (17, 1), (17, 2), (17, 3), (17, 4), (18, 1), (18, 2), (18, 3), (18, 4), (18, 5), (18, 6), (18, 7), (18, 8), (19, 3), (19, 5), (19, 9), (19, 10), (19, 11), (19, 12), (20, 1), (20, 2), (20, 3), (20, 4), (21, 1), (21, 2), (21, 3), (21, 4), (21, 5), (21, 6), (21, 7), (21, 8), (22, 7), (22, 8), (23, 5), (24, 7), (24, 14), (24, 15), (24, 16), (24, 19), (25, 3), (25, 5), (25, 9), (25, 10), (25, 11), (25, 12), (26, 1), (26, 2), (26, 3), (26, 4), (27, 1), (27, 2), (27, 3), (27, 4), (27, 5), (27, 6), (27, 7), (27, 8), (28, 2), (28, 3), (28, 5), (28, 6), (28, 7), (28, 8), (28, 9), (28, 10), (28, 11), (28, 12), (28, 13), (28, 14), (28, 15), (28, 16), (28, 17), (28, 18), (28, 19), (28, 20), (28, 21), (28, 22), (28, 23), (28, 24), (28, 43), (28, 46), (28, 47), (28, 48), (28, 49), (28, 50), (28, 51), (28, 54), (28, 63), (28, 64), (28, 65), (28, 66), (28, 67), (28, 68), (28, 69), (28, 70), (28, 72), (28, 73), (28, 74), (28, 76), (28, 78), (28, 79), (28, 82), (28, 84), (28, 89), (28, 90), (28, 91), (29, 0), (30, 0), (31, 0), (32, 0), (33, 0), (34, 0), (35, 0), (36, 0), (43, 0), (44, 0), (47, 0), (48, 0), (49, 0), (50, 0), (51, 0), (52, 0), (53, 0), (54, 0), (55, 0), (56, 0), (57, 0), (58, 0), (59, 1), (59, 2), (59, 3), (59, 4), (59, 5), (59, 6), (59, 7), (62, 0), (63, 0), (67, 0), (68, 0), (69, 0), (72, 0), (73, 0), (75, 0), (76, 0), (77, 0), (78, 0), (79, 0), (80, 0), (81, 0), (82, 0), (83, 0), (84, 0), (85, 0), (86, 0), (87, 0), (88, 0), (89, 0), (90, 0), (91, 0), (92, 0), (93, 0), (94, 0), (97, 0), (98, 0), (100, 0), (102, 0), (103, 0), (104, 0), (105, 0), (106, 0), (107, 0), (108, 0), (109, 0), (110, 0), (111, 0), (112, 0), (113, 0), (114, 0), (115, 0), (116, 0), (117, 0), (118, 0), (119, 0), (120, 0), (121, 0), (122, 0), (123, 0), (124, 0), (125, 0), (125, 1), (125, 2), (126, 0), (127, 0), (128, 0), (129, 0), (130, 0), (131, 0), (132, 0), (133, 0), (134, 0), (135, 0), (136, 0), (137, 0), (138, 0), (139, 0), (140, 0), (141, 0)]
theorem zlw_1024 {n : Nat} {K : Nat → Nat → Nat → List zu_v → List zu_v → zu_m → Prop} (hst : zt_HS n K) (hp2 : ∀ (cells slots pc : Nat) (i v : Int) (m : zu_m), pc ∈ [529, 552, 1012, 1023] → K cells slots (pc + 1) [(3, 1), (5, 3), (40, 190), (53, 233), (0, i), (2, 0), (2, 0)] [] m → K cells slots pc [(3, 1), (5, 3), (40, 190), (53, 233), (0, i), (2, 0), (2, 0)] [(1, v)] m) {cells slots : Nat} {i : Int} {m0 : zu_m} (hN : zt_INV m0) (hi0 : 0 ≤ i) (hi1 : i ≤ (n : Int) - 6) (hn : n ≤ 3072) (ih : ∀ m, zt_INV m → K cells slots 1453 [(3, 1), (5, 3), (40, 190), (53, 233), (0, i), (2, 0), (2, 0)] [] m) : K cells slots 1024 [(3, 1), (5, 3), (40, 190), (53, 233), (0, i), (2, 0), (2, 0)] [] m0 := by
  refine hst cells slots [23, 208, 281, 306, 331, 356, 370, 396, 433, 470, 507, 529, 552, 556, 605, 618, 655, 680, 705, 730, 755, 792, 865, 902, 939, 964, 977, 1002, 1012, 1023, 1027, 1040, 1077, 1102, 1127, 1204, 1229, 1254, 1279, 1340, 1389, 1402, 1415, 1428, 1453] 400 1024 _ _ _ ?_
  refine zw_eq (zlr_1024 n _ _ i m0) ?_
  obtain ⟨hIm0, hRBNm0, hRC0m0, hRE115m0, hRE63m0, hRE89m0, hRG5m0, hRK10m0, hRK54m0, hRKNm0, hRLTm0, hRNSm0, hRRIm0, hRRUm0, hRSEm0, hRTEm0, hRUNm0, hRUWm0, hRWDm0, hT, hSm0⟩ := hN
  have hFm0 : zfr zt_Wl m0 m0 := zfr_rf _ _
  have r1 : 0 ≤ (m0 3 1) ∧ (m0 3 1) ≤ 700 := zi_rd hIm0 zq_3 zb_2_1
  have r2 : 0 ≤ (m0 190 1) ∧ (m0 190 1) ≤ 700 := zi_rd hIm0 zq_190 zb_28_1
  exact zw_kex (ih _ ⟨hIm0, hRBNm0, hRC0m0, hRE115m0, hRE63m0, hRE89m0, hRG5m0, hRK10m0, hRK54m0, hRKNm0, hRLTm0, hRNSm0, hRRIm0, hRRUm0, hRSEm0, hRTEm0, hRUNm0, hRUWm0, hRWDm0, by omega, hSm0⟩)
theorem zlw_1013 {n : Nat} {K : Nat → Nat → Nat → List zu_v → List zu_v → zu_m → Prop} (hst : zt_HS n K) (hp2 : ∀ (cells slots pc : Nat) (i v : Int) (m : zu_m), pc ∈ [529, 552, 1012, 1023] → K cells slots (pc + 1) [(3, 1), (5, 3), (40, 190), (53, 233), (0, i), (2, 0), (2, 0)] [] m → K cells slots pc [(3, 1), (5, 3), (40, 190), (53, 233), (0, i), (2, 0), (2, 0)] [(1, v)] m) {cells slots : Nat} {i : Int} {m0 : zu_m} (hN : zt_INV m0) (hi0 : 0 ≤ i) (hi1 : i ≤ (n : Int) - 6) (hn : n ≤ 3072) (ih : ∀ m, zt_INV m → K cells slots 1453 [(3, 1), (5, 3), (40, 190), (53, 233), (0, i), (2, 0), (2, 0)] [] m) : K cells slots 1013 [(3, 1), (5, 3), (40, 190), (53, 233), (0, i), (2, 0), (2, 0)] [] m0 := by
  refine hst cells slots [23, 208, 281, 306, 331, 356, 370, 396, 433, 470, 507, 529, 552, 556, 605, 618, 655, 680, 705, 730, 755, 792, 865, 902, 939, 964, 977, 1002, 1012, 1023, 1027, 1040, 1077, 1102, 1127, 1204, 1229, 1254, 1279, 1340, 1389, 1402, 1415, 1428, 1453] 400 1013 _ _ _ ?_
  refine zw_eq (zlr_1013 n _ _ i m0) ?_
  obtain ⟨hIm0, hRBNm0, hRC0m0, hRE115m0, hRE63m0, hRE89m0, hRG5m0, hRK10m0, hRK54m0, hRKNm0, hRLTm0, hRNSm0, hRRIm0, hRRUm0, hRSEm0, hRTEm0, hRUNm0, hRUWm0, hRWDm0, hT, hSm0⟩ := hN
  have hFm0 : zfr zt_Wl m0 m0 := zfr_rf _ _
  have r1 : 0 ≤ (m0 3 1) ∧ (m0 3 1) ≤ 700 := zi_rd hIm0 zq_3 zb_2_1
  have r2 : 0 ≤ (m0 190 1) ∧ (m0 190 1) ≤ 700 := zi_rd hIm0 zq_190 zb_28_1
  have w3 := zu_w32_id (z := i + 1) (by omega) (by omega)
  refine zw_if ⟨by omega, by omega⟩ ?_
  have r4 := hSm0 (zu_w32 (i + 1))
  refine zw_bd (zw_mono (zk_172 n hIm0 zq_190 ⟨by omega, by omega⟩ hRKNm0 hRLTm0) (fun v6 m5 hqm5 => ?_))
  obtain ⟨hIm5, hfm5, hvm5⟩ := hqm5
  have hFm5 := zfr_tr hFm0 hfm5 rfl
  obtain ⟨hRKNm5, hRLTm5, hvm5⟩ := hvm5
  have hRBNm5 := zR_BN_fr (zdis_fr hfm5 rfl) hRBNm0
  have hRC0m5 := zR_C0_fr (zdis_fr hfm5 rfl) hRC0m0
  have hRE115m5 := zR_E115_fr (zdis_fr hfm5 rfl) hRE115m0
  have hRE63m5 := zR_E63_fr (zdis_fr hfm5 rfl) hRE63m0
  have hRE89m5 := zR_E89_fr (zdis_fr hfm5 rfl) hRE89m0
  have hRG5m5 := zR_G5_fr (zdis_fr hfm5 rfl) hRG5m0
  have hRK10m5 := zR_K10_fr (zdis_fr hfm5 rfl) hRK10m0
  have hRK54m5 := zR_K54_fr (zdis_fr hfm5 rfl) hRK54m0
  have hRNSm5 := zR_NS_fr (zdis_fr hfm5 rfl) hRNSm0
  have hRRIm5 := zR_RI_fr (zdis_fr hfm5 rfl) hRRIm0
  have hRRUm5 := zR_RU_fr (zdis_fr hfm5 rfl) hRRUm0
  have hRSEm5 := zR_SE_fr (zdis_fr hfm5 rfl) hRSEm0
  have hRTEm5 := zR_TE_fr (zdis_fr hfm5 rfl) hRTEm0
  have hRUNm5 := zR_UN_fr (zdis_fr hfm5 rfl) hRUNm0
  have hRUWm5 := zR_UW_fr (zdis_fr hfm5 rfl) hRUWm0
  have hRWDm5 := zR_WD_fr (zdis_fr hfm5 rfl) hRWDm0
  have hSm5 := zt_Sf (W := []) (fun p => zfr_ap (p := p) hfm5 zq_1 rfl) hSm0
  have r7 : 0 ≤ (m5 3 1) ∧ (m5 3 1) ≤ 700 := zi_rd hIm5 zq_3 zb_2_1
  have e8 : (m5 3 1) = (m0 3 1) := (zfr_ap hfm5 zq_3 rfl)
  have r9 : 0 ≤ (m5 190 1) ∧ (m5 190 1) ≤ 700 := zi_rd hIm5 zq_190 zb_28_1
  have e10 : (m5 190 1) = (m0 190 1) := (zfr_ap hfm5 zq_190 rfl)
  exact zw_kex (hp2 _ _ _ _ _ _ (by decide) (zlw_1024 hst hp2 ⟨hIm5, hRBNm5, hRC0m5, hRE115m5, hRE63m5, hRE89m5, hRG5m5, hRK10m5, hRK54m5, hRKNm5, hRLTm5, hRNSm5, hRRIm5, hRRUm5, hRSEm5, hRTEm5, hRUNm5, hRUWm5, hRWDm5, by omega, hSm5⟩ hi0 hi1 hn ih))
theorem zlw_553 {n : Nat} {K : Nat → Nat → Nat → List zu_v → List zu_v → zu_m → Prop} (hst : zt_HS n K) (hp2 : ∀ (cells slots pc : Nat) (i v : Int) (m : zu_m), pc ∈ [529, 552, 1012, 1023] → K cells slots (pc + 1) [(3, 1), (5, 3), (40, 190), (53, 233), (0, i), (2, 0), (2, 0)] [] m → K cells slots pc [(3, 1), (5, 3), (40, 190), (53, 233), (0, i), (2, 0), (2, 0)] [(1, v)] m) {cells slots : Nat} {i : Int} {m0 : zu_m} (hN : zt_INV m0) (hi0 : 0 ≤ i) (hi1 : i ≤ (n : Int) - 6) (hn : n ≤ 3072) (ih : ∀ m, zt_INV m → K cells slots 1453 [(3, 1), (5, 3), (40, 190), (53, 233), (0, i), (2, 0), (2, 0)] [] m) : K cells slots 553 [(3, 1), (5, 3), (40, 190), (53, 233), (0, i), (2, 0), (2, 0)] [] m0 := by
  refine hst cells slots [23, 208, 281, 306, 331, 356, 370, 396, 433, 470, 507, 529, 552, 556, 605, 618, 655, 680, 705, 730, 755, 792, 865, 902, 939, 964, 977, 1002, 1012, 1023, 1027, 1040, 1077, 1102, 1127, 1204, 1229, 1254, 1279, 1340, 1389, 1402, 1415, 1428, 1453] 400 553 _ _ _ ?_
  refine zw_eq (zlr_553 n _ _ i m0) ?_
  obtain ⟨hIm0, hRBNm0, hRC0m0, hRE115m0, hRE63m0, hRE89m0, hRG5m0, hRK10m0, hRK54m0, hRKNm0, hRLTm0, hRNSm0, hRRIm0, hRRUm0, hRSEm0, hRTEm0, hRUNm0, hRUWm0, hRWDm0, hT, hSm0⟩ := hN
  have hFm0 : zfr zt_Wl m0 m0 := zfr_rf _ _
  have r1 : 0 ≤ (m0 3 1) ∧ (m0 3 1) ≤ 700 := zi_rd hIm0 zq_3 zb_2_1
  have r2 : 0 ≤ (m0 190 1) ∧ (m0 190 1) ≤ 700 := zi_rd hIm0 zq_190 zb_28_1
  exact zw_kex (ih _ ⟨hIm0, hRBNm0, hRC0m0, hRE115m0, hRE63m0, hRE89m0, hRG5m0, hRK10m0, hRK54m0, hRKNm0, hRLTm0, hRNSm0, hRRIm0, hRRUm0, hRSEm0, hRTEm0, hRUNm0, hRUWm0, hRWDm0, by omega, hSm0⟩)
theorem zlw_530 {n : Nat} {K : Nat → Nat → Nat → List zu_v → List zu_v → zu_m → Prop} (hst : zt_HS n K) (hp2 : ∀ (cells slots pc : Nat) (i v : Int) (m : zu_m), pc ∈ [529, 552, 1012, 1023] → K cells slots (pc + 1) [(3, 1), (5, 3), (40, 190), (53, 233), (0, i), (2, 0), (2, 0)] [] m → K cells slots pc [(3, 1), (5, 3), (40, 190), (53, 233), (0, i), (2, 0), (2, 0)] [(1, v)] m) {cells slots : Nat} {i : Int} {m0 : zu_m} (hN : zt_INV m0) (hi0 : 0 ≤ i) (hi1 : i ≤ (n : Int) - 6) (hn : n ≤ 3072) (ih : ∀ m, zt_INV m → K cells slots 1453 [(3, 1), (5, 3), (40, 190), (53, 233), (0, i), (2, 0), (2, 0)] [] m) : K cells slots 530 [(3, 1), (5, 3), (40, 190), (53, 233), (0, i), (2, 0), (2, 0)] [] m0 := by
  refine hst cells slots [23, 208, 281, 306, 331, 356, 370, 396, 433, 470, 507, 529, 552, 556, 605, 618, 655, 680, 705, 730, 755, 792, 865, 902, 939, 964, 977, 1002, 1012, 1023, 1027, 1040, 1077, 1102, 1127, 1204, 1229, 1254, 1279, 1340, 1389, 1402, 1415, 1428, 1453] 400 530 _ _ _ ?_
  refine zw_eq (zlr_530 n _ _ i m0) ?_
  obtain ⟨hIm0, hRBNm0, hRC0m0, hRE115m0, hRE63m0, hRE89m0, hRG5m0, hRK10m0, hRK54m0, hRKNm0, hRLTm0, hRNSm0, hRRIm0, hRRUm0, hRSEm0, hRTEm0, hRUNm0, hRUWm0, hRWDm0, hT, hSm0⟩ := hN
  have hFm0 : zfr zt_Wl m0 m0 := zfr_rf _ _
  have r1 : 0 ≤ (m0 3 1) ∧ (m0 3 1) ≤ 700 := zi_rd hIm0 zq_3 zb_2_1
  have r2 : 0 ≤ (m0 190 1) ∧ (m0 190 1) ≤ 700 := zi_rd hIm0 zq_190 zb_28_1
  have w3 := zu_w32_id (z := i + 1) (by omega) (by omega)
  refine zw_if ⟨by omega, by omega⟩ ?_
  have r4 := hSm0 (zu_w32 (i + 1))
  have w5 := zu_w32_id (z := i + 2) (by omega) (by omega)
  refine zw_if ⟨by omega, by omega⟩ ?_
  have r6 := hSm0 (zu_w32 (i + 2))
  have w7 := zu_w32_id (z := i + 3) (by omega) (by omega)
  refine zw_if ⟨by omega, by omega⟩ ?_
  have r8 := hSm0 (zu_w32 (i + 3))
  refine zw_bd (zw_mono (zk_147 n hIm0 zq_190 ⟨by omega, by omega⟩ ⟨by omega, by omega⟩ ⟨by omega, by omega⟩ hRKNm0 hRLTm0) (fun v10 m9 hqm9 => ?_))
  obtain ⟨hIm9, hfm9, hvm9⟩ := hqm9
  have hFm9 := zfr_tr hFm0 hfm9 rfl
  obtain ⟨hRKNm9, hRLTm9, hvm9⟩ := hvm9
  have hRBNm9 := zR_BN_fr (zdis_fr hfm9 rfl) hRBNm0
  have hRC0m9 := zR_C0_fr (zdis_fr hfm9 rfl) hRC0m0
  have hRE115m9 := zR_E115_fr (zdis_fr hfm9 rfl) hRE115m0
  have hRE63m9 := zR_E63_fr (zdis_fr hfm9 rfl) hRE63m0
  have hRE89m9 := zR_E89_fr (zdis_fr hfm9 rfl) hRE89m0
  have hRG5m9 := zR_G5_fr (zdis_fr hfm9 rfl) hRG5m0
  have hRK10m9 := zR_K10_fr (zdis_fr hfm9 rfl) hRK10m0
  have hRK54m9 := zR_K54_fr (zdis_fr hfm9 rfl) hRK54m0
  have hRNSm9 := zR_NS_fr (zdis_fr hfm9 rfl) hRNSm0
  have hRRIm9 := zR_RI_fr (zdis_fr hfm9 rfl) hRRIm0
  have hRRUm9 := zR_RU_fr (zdis_fr hfm9 rfl) hRRUm0
  have hRSEm9 := zR_SE_fr (zdis_fr hfm9 rfl) hRSEm0
  have hRTEm9 := zR_TE_fr (zdis_fr hfm9 rfl) hRTEm0
  have hRUNm9 := zR_UN_fr (zdis_fr hfm9 rfl) hRUNm0
  have hRUWm9 := zR_UW_fr (zdis_fr hfm9 rfl) hRUWm0
  have hRWDm9 := zR_WD_fr (zdis_fr hfm9 rfl) hRWDm0
  have hSm9 := zt_Sf (W := []) (fun p => zfr_ap (p := p) hfm9 zq_1 rfl) hSm0
  have r11 : 0 ≤ (m9 3 1) ∧ (m9 3 1) ≤ 700 := zi_rd hIm9 zq_3 zb_2_1
  have e12 : (m9 3 1) = (m0 3 1) := (zfr_ap hfm9 zq_3 rfl)
  have r13 : 0 ≤ (m9 190 1) ∧ (m9 190 1) ≤ 700 := zi_rd hIm9 zq_190 zb_28_1
  have e14 : (m9 190 1) = (m0 190 1) := (zfr_ap hfm9 zq_190 rfl)
  exact zw_kex (hp2 _ _ _ _ _ _ (by decide) (zlw_553 hst hp2 ⟨hIm9, hRBNm9, hRC0m9, hRE115m9, hRE63m9, hRE89m9, hRG5m9, hRK10m9, hRK54m9, hRKNm9, hRLTm9, hRNSm9, hRRIm9, hRRUm9, hRSEm9, hRTEm9, hRUNm9, hRUWm9, hRWDm9, by omega, hSm9⟩ hi0 hi1 hn ih))
theorem zlw_208 {n : Nat} {K : Nat → Nat → Nat → List zu_v → List zu_v → zu_m → Prop} (hst : zt_HS n K) (hp2 : ∀ (cells slots pc : Nat) (i v : Int) (m : zu_m), pc ∈ [529, 552, 1012, 1023] → K cells slots (pc + 1) [(3, 1), (5, 3), (40, 190), (53, 233), (0, i), (2, 0), (2, 0)] [] m → K cells slots pc [(3, 1), (5, 3), (40, 190), (53, 233), (0, i), (2, 0), (2, 0)] [(1, v)] m) {cells slots : Nat} {i : Int} {m0 : zu_m} (hN : zt_INV m0) (hi0 : 0 ≤ i) (hi1 : i ≤ (n : Int) - 6) (hn : n ≤ 3072) (ih : ∀ m, zt_INV m → K cells slots 1453 [(3, 1), (5, 3), (40, 190), (53, 233), (0, i), (2, 0), (2, 0)] [] m) : K cells slots 208 [(3, 1), (5, 3), (40, 190), (53, 233), (0, i), (2, 0), (2, 0)] [] m0 := by
  refine hst cells slots [23, 208, 281, 306, 331, 356, 370, 396, 433, 470, 507, 529, 552, 556, 605, 618, 655, 680, 705, 730, 755, 792, 865, 902, 939, 964, 977, 1002, 1012, 1023, 1027, 1040, 1077, 1102, 1127, 1204, 1229, 1254, 1279, 1340, 1389, 1402, 1415, 1428, 1453] 400 208 _ _ _ ?_
  refine zw_eq (zlr_208 n _ _ i m0) ?_
  obtain ⟨hIm0, hRBNm0, hRC0m0, hRE115m0, hRE63m0, hRE89m0, hRG5m0, hRK10m0, hRK54m0, hRKNm0, hRLTm0, hRNSm0, hRRIm0, hRRUm0, hRSEm0, hRTEm0, hRUNm0, hRUWm0, hRWDm0, hT, hSm0⟩ := hN
  have hFm0 : zfr zt_Wl m0 m0 := zfr_rf _ _
  have r1 : 0 ≤ (m0 3 1) ∧ (m0 3 1) ≤ 700 := zi_rd hIm0 zq_3 zb_2_1
  have r2 : 0 ≤ (m0 190 1) ∧ (m0 190 1) ≤ 700 := zi_rd hIm0 zq_190 zb_28_1
  have w3 := zu_w32_id (z := i + 1) (by omega) (by omega)
  refine zw_if ⟨by omega, by omega⟩ ?_
  have r4 := hSm0 (zu_w32 (i + 1))
  have w5 := zu_w32_id (z := i + 2) (by omega) (by omega)
  refine zw_if ⟨by omega, by omega⟩ ?_
  have r6 := hSm0 (zu_w32 (i + 2))
  have w7 := zu_w32_id (z := i + 3) (by omega) (by omega)
  refine zw_if ⟨by omega, by omega⟩ ?_
  have r8 := hSm0 (zu_w32 (i + 3))
  have w9 := zu_w32_id (z := i + 4) (by omega) (by omega)
  refine zw_if ⟨by omega, by omega⟩ ?_
  have r10 := hSm0 (zu_w32 (i + 4))
  have w11 := zu_w32_id (z := i + 5) (by omega) (by omega)
  refine zw_if ⟨by omega, by omega⟩ ?_
  have r12 := hSm0 (zu_w32 (i + 5))
  refine zw_bd (zw_mono (zk_40 n hIm0 zq_3 ⟨by omega, by omega⟩ ⟨by omega, by omega⟩ ⟨by omega, by omega⟩ ⟨by omega, by omega⟩ ⟨by omega, by omega⟩) (fun v14 m13 hqm13 => ?_))
  obtain ⟨hIm13, hfm13, hvm13⟩ := hqm13
  have hFm13 := zfr_tr hFm0 hfm13 rfl
  have hRBNm13 := zR_BN_fr (zdis_fr hfm13 rfl) hRBNm0
  have hRC0m13 := zR_C0_fr (zdis_fr hfm13 rfl) hRC0m0
  have hRE115m13 := zR_E115_fr (zdis_fr hfm13 rfl) hRE115m0
  have hRE63m13 := zR_E63_fr (zdis_fr hfm13 rfl) hRE63m0
  have hRE89m13 := zR_E89_fr (zdis_fr hfm13 rfl) hRE89m0
  have hRG5m13 := zR_G5_fr (zdis_fr hfm13 rfl) hRG5m0
  have hRK10m13 := zR_K10_fr (zdis_fr hfm13 rfl) hRK10m0
  have hRK54m13 := zR_K54_fr (zdis_fr hfm13 rfl) hRK54m0
  have hRKNm13 := zR_KN_fr (zdis_fr hfm13 rfl) hRKNm0
  have hRLTm13 := zR_LT_fr (zdis_fr hfm13 rfl) hRLTm0
  have hRNSm13 := zR_NS_fr (zdis_fr hfm13 rfl) hRNSm0
  have hRRIm13 := zR_RI_fr (zdis_fr hfm13 rfl) hRRIm0
  have hRRUm13 := zR_RU_fr (zdis_fr hfm13 rfl) hRRUm0
  have hRSEm13 := zR_SE_fr (zdis_fr hfm13 rfl) hRSEm0
  have hRTEm13 := zR_TE_fr (zdis_fr hfm13 rfl) hRTEm0
  have hRUNm13 := zR_UN_fr (zdis_fr hfm13 rfl) hRUNm0
  have hRUWm13 := zR_UW_fr (zdis_fr hfm13 rfl) hRUWm0
  have hRWDm13 := zR_WD_fr (zdis_fr hfm13 rfl) hRWDm0
  have r15 : 0 ≤ (m13 3 1) ∧ (m13 3 1) ≤ 700 := zi_rd hIm13 zq_3 zb_2_1
  have hSm13 := zt_Sf (W := []) (fun p => zfr_ap (p := p) hfm13 zq_1 rfl) hSm0
  refine zw_if ⟨by omega, by omega⟩ ?_
  have r16 := hSm13 (zu_w32 (i + 1))
  refine zw_if ⟨by omega, by omega⟩ ?_
  have r17 := hSm13 (zu_w32 (i + 2))
  refine zw_if ⟨by omega, by omega⟩ ?_
  have r18 := hSm13 (zu_w32 (i + 3))
  refine zw_if ⟨by omega, by omega⟩ ?_
  have r19 := hSm13 (zu_w32 (i + 4))
  refine zw_if ⟨by omega, by omega⟩ ?_
  have r20 := hSm13 (zu_w32 (i + 5))
  have r23 : 0 ≤ (m13 190 1) ∧ (m13 190 1) ≤ 700 := zi_rd hIm13 zq_190 zb_28_1
  have e24 : (m13 190 1) = (m0 190 1) := (zfr_ap hfm13 zq_190 rfl)
  refine zw_bd (zw_mono (zk_82 n hIm13 zq_190 ⟨by omega, by omega⟩ ⟨by omega, by omega⟩ ⟨by omega, by omega⟩ ⟨by omega, by omega⟩ ⟨by omega, by omega⟩) (fun v22 m21 hqm21 => ?_))
  obtain ⟨hIm21, hfm21, hvm21⟩ := hqm21
  have hFm21 := zfr_tr hFm13 hfm21 rfl
  have hRBNm21 := zR_BN_fr (zdis_fr hfm21 rfl) hRBNm13
  have hRC0m21 := zR_C0_fr (zdis_fr hfm21 rfl) hRC0m13
  have hRE115m21 := zR_E115_fr (zdis_fr hfm21 rfl) hRE115m13
  have hRE63m21 := zR_E63_fr (zdis_fr hfm21 rfl) hRE63m13
  have hRE89m21 := zR_E89_fr (zdis_fr hfm21 rfl) hRE89m13
  have hRG5m21 := zR_G5_fr (zdis_fr hfm21 rfl) hRG5m13
  have hRK10m21 := zR_K10_fr (zdis_fr hfm21 rfl) hRK10m13
  have hRK54m21 := zR_K54_fr (zdis_fr hfm21 rfl) hRK54m13
  have hRKNm21 := zR_KN_fr (zdis_fr hfm21 rfl) hRKNm13
  have hRLTm21 := zR_LT_fr (zdis_fr hfm21 rfl) hRLTm13
  have hRNSm21 := zR_NS_fr (zdis_fr hfm21 rfl) hRNSm13
  have hRRIm21 := zR_RI_fr (zdis_fr hfm21 rfl) hRRIm13
  have hRRUm21 := zR_RU_fr (zdis_fr hfm21 rfl) hRRUm13
  have hRSEm21 := zR_SE_fr (zdis_fr hfm21 rfl) hRSEm13
  have hRTEm21 := zR_TE_fr (zdis_fr hfm21 rfl) hRTEm13
  have hRUNm21 := zR_UN_fr (zdis_fr hfm21 rfl) hRUNm13
  have hRUWm21 := zR_UW_fr (zdis_fr hfm21 rfl) hRUWm13
  have hRWDm21 := zR_WD_fr (zdis_fr hfm21 rfl) hRWDm13
  have hSm21 := zt_Sf (W := []) (fun p => zfr_ap (p := p) hfm21 zq_1 rfl) hSm13
  refine zw_ite (fun h25 => ?_) (fun h25 => ?_)
  · have r26 : 0 ≤ (m21 3 1) ∧ (m21 3 1) ≤ 700 := zi_rd hIm21 zq_3 zb_2_1
    have e27 : (m21 3 1) = (m13 3 1) := (zfr_ap hfm21 zq_3 rfl)
    exact zw_kex (ih _ ⟨hIm21, hRBNm21, hRC0m21, hRE115m21, hRE63m21, hRE89m21, hRG5m21, hRK10m21, hRK54m21, hRKNm21, hRLTm21, hRNSm21, hRRIm21, hRRUm21, hRSEm21, hRTEm21, hRUNm21, hRUWm21, hRWDm21, by omega, hSm21⟩)
  · exfalso
    omega
theorem zlw_281 {n : Nat} {K : Nat → Nat → Nat → List zu_v → List zu_v → zu_m → Prop} (hst : zt_HS n K) (hp2 : ∀ (cells slots pc : Nat) (i v : Int) (m : zu_m), pc ∈ [529, 552, 1012, 1023] → K cells slots (pc + 1) [(3, 1), (5, 3), (40, 190), (53, 233), (0, i), (2, 0), (2, 0)] [] m → K cells slots pc [(3, 1), (5, 3), (40, 190), (53, 233), (0, i), (2, 0), (2, 0)] [(1, v)] m) {cells slots : Nat} {i : Int} {m0 : zu_m} (hN : zt_INV m0) (hi0 : 0 ≤ i) (hi1 : i ≤ (n : Int) - 6) (hn : n ≤ 3072) (ih : ∀ m, zt_INV m → K cells slots 1453 [(3, 1), (5, 3), (40, 190), (53, 233), (0, i), (2, 0), (2, 0)] [] m) : K cells slots 281 [(3, 1), (5, 3), (40, 190), (53, 233), (0, i), (2, 0), (2, 0)] [] m0 := by
  refine hst cells slots [23, 208, 281, 306, 331, 356, 370, 396, 433, 470, 507, 529, 552, 556, 605, 618, 655, 680, 705, 730, 755, 792, 865, 902, 939, 964, 977, 1002, 1012, 1023, 1027, 1040, 1077, 1102, 1127, 1204, 1229, 1254, 1279, 1340, 1389, 1402, 1415, 1428, 1453] 400 281 _ _ _ ?_
  refine zw_eq (zlr_281 n _ _ i m0) ?_
  obtain ⟨hIm0, hRBNm0, hRC0m0, hRE115m0, hRE63m0, hRE89m0, hRG5m0, hRK10m0, hRK54m0, hRKNm0, hRLTm0, hRNSm0, hRRIm0, hRRUm0, hRSEm0, hRTEm0, hRUNm0, hRUWm0, hRWDm0, hT, hSm0⟩ := hN
  have hFm0 : zfr zt_Wl m0 m0 := zfr_rf _ _
  have r1 : 0 ≤ (m0 3 1) ∧ (m0 3 1) ≤ 700 := zi_rd hIm0 zq_3 zb_2_1
  have r2 : 0 ≤ (m0 190 1) ∧ (m0 190 1) ≤ 700 := zi_rd hIm0 zq_190 zb_28_1
  have w3 := zu_w32_id (z := i + 1) (by omega) (by omega)
  refine zw_if ⟨by omega, by omega⟩ ?_
  have r4 := hSm0 (zu_w32 (i + 1))
  refine zw_bd (zw_mono (zk_42 n hIm0 zq_3 ⟨by omega, by omega⟩ hRBNm0 hRE115m0 hRE63m0 hRE89m0 hRG5m0 hRK10m0 hRK54m0 hRUNm0 hRUWm0) (fun v6 m5 hqm5 => ?_))
  obtain ⟨hIm5, hfm5, hvm5⟩ := hqm5
  have hFm5 := zfr_tr hFm0 hfm5 rfl
  obtain ⟨hRBNm5, hRE115m5, hRE63m5, hRE89m5, hRG5m5, hRK10m5, hRK54m5, hRUNm5, hRUWm5, hvm5⟩ := hvm5
  have hRC0m5 := zR_C0_fr (zdis_fr hfm5 rfl) hRC0m0
  have hRKNm5 := zR_KN_fr (zdis_fr hfm5 rfl) hRKNm0
  have hRLTm5 := zR_LT_fr (zdis_fr hfm5 rfl) hRLTm0
  have hRNSm5 := zR_NS_fr (zdis_fr hfm5 rfl) hRNSm0
  have hRRIm5 := zR_RI_fr (zdis_fr hfm5 rfl) hRRIm0
  have hRRUm5 := zR_RU_fr (zdis_fr hfm5 rfl) hRRUm0
  have hRSEm5 := zR_SE_fr (zdis_fr hfm5 rfl) hRSEm0
  have hRTEm5 := zR_TE_fr (zdis_fr hfm5 rfl) hRTEm0
  have hRWDm5 := zR_WD_fr (zdis_fr hfm5 rfl) hRWDm0
  have r7 : 0 ≤ (m5 3 1) ∧ (m5 3 1) ≤ 700 := zi_rd hIm5 zq_3 zb_2_1
  have hSm5 := zt_Sf (W := []) (fun p => zfr_ap (p := p) hfm5 zq_1 rfl) hSm0
  refine zw_if ⟨by omega, by omega⟩ ?_
  have r8 := hSm5 (zu_w32 (i + 1))
  have r11 : 0 ≤ (m5 190 1) ∧ (m5 190 1) ≤ 700 := zi_rd hIm5 zq_190 zb_28_1
  have e12 : (m5 190 1) = (m0 190 1) := (zfr_ap hfm5 zq_190 rfl)
  refine zw_bd (zw_mono (zk_106 n hIm5 zq_190 ⟨by omega, by omega⟩ hRC0m5 hRKNm5 hRLTm5 hRNSm5 hRRIm5 hRRUm5 hRSEm5 hRTEm5 hRWDm5) (fun v10 m9 hqm9 => ?_))
  obtain ⟨hIm9, hfm9, hvm9⟩ := hqm9
  have hFm9 := zfr_tr hFm5 hfm9 rfl
  obtain ⟨hRC0m9, hRKNm9, hRLTm9, hRNSm9, hRRIm9, hRRUm9, hRSEm9, hRTEm9, hRWDm9, hvm9⟩ := hvm9
  have hRBNm9 := zR_BN_fr (zdis_fr hfm9 rfl) hRBNm5
  have hRE115m9 := zR_E115_fr (zdis_fr hfm9 rfl) hRE115m5
  have hRE63m9 := zR_E63_fr (zdis_fr hfm9 rfl) hRE63m5
  have hRE89m9 := zR_E89_fr (zdis_fr hfm9 rfl) hRE89m5
  have hRG5m9 := zR_G5_fr (zdis_fr hfm9 rfl) hRG5m5
  have hRK10m9 := zR_K10_fr (zdis_fr hfm9 rfl) hRK10m5
  have hRK54m9 := zR_K54_fr (zdis_fr hfm9 rfl) hRK54m5
  have hRUNm9 := zR_UN_fr (zdis_fr hfm9 rfl) hRUNm5
  have hRUWm9 := zR_UW_fr (zdis_fr hfm9 rfl) hRUWm5
  have r13 : 0 ≤ (m9 190 1) ∧ (m9 190 1) ≤ 700 := zi_rd hIm9 zq_190 zb_28_1
  have hSm9 := zt_Sf (W := []) (fun p => zfr_ap (p := p) hfm9 zq_1 rfl) hSm5
  have r14 : 0 ≤ (m9 3 1) ∧ (m9 3 1) ≤ 700 := zi_rd hIm9 zq_3 zb_2_1
  have e15 : (m9 3 1) = (m5 3 1) := (zfr_ap hfm9 zq_3 rfl)
  exact zw_kex (ih _ ⟨hIm9, hRBNm9, hRC0m9, hRE115m9, hRE63m9, hRE89m9, hRG5m9, hRK10m9, hRK54m9, hRKNm9, hRLTm9, hRNSm9, hRRIm9, hRRUm9, hRSEm9, hRTEm9, hRUNm9, hRUWm9, hRWDm9, by omega, hSm9⟩)
theorem zlw_306 {n : Nat} {K : Nat → Nat → Nat → List zu_v → List zu_v → zu_m → Prop} (hst : zt_HS n K) (hp2 : ∀ (cells slots pc : Nat) (i v : Int) (m : zu_m), pc ∈ [529, 552, 1012, 1023] → K cells slots (pc + 1) [(3, 1), (5, 3), (40, 190), (53, 233), (0, i), (2, 0), (2, 0)] [] m → K cells slots pc [(3, 1), (5, 3), (40, 190), (53, 233), (0, i), (2, 0), (2, 0)] [(1, v)] m) {cells slots : Nat} {i : Int} {m0 : zu_m} (hN : zt_INV m0) (hi0 : 0 ≤ i) (hi1 : i ≤ (n : Int) - 6) (hn : n ≤ 3072) (ih : ∀ m, zt_INV m → K cells slots 1453 [(3, 1), (5, 3), (40, 190), (53, 233), (0, i), (2, 0), (2, 0)] [] m) : K cells slots 306 [(3, 1), (5, 3), (40, 190), (53, 233), (0, i), (2, 0), (2, 0)] [] m0 := by
  refine hst cells slots [23, 208, 281, 306, 331, 356, 370, 396, 433, 470, 507, 529, 552, 556, 605, 618, 655, 680, 705, 730, 755, 792, 865, 902, 939, 964, 977, 1002, 1012, 1023, 1027, 1040, 1077, 1102, 1127, 1204, 1229, 1254, 1279, 1340, 1389, 1402, 1415, 1428, 1453] 400 306 _ _ _ ?_
  refine zw_eq (zlr_306 n _ _ i m0) ?_
  obtain ⟨hIm0, hRBNm0, hRC0m0, hRE115m0, hRE63m0, hRE89m0, hRG5m0, hRK10m0, hRK54m0, hRKNm0, hRLTm0, hRNSm0, hRRIm0, hRRUm0, hRSEm0, hRTEm0, hRUNm0, hRUWm0, hRWDm0, hT, hSm0⟩ := hN
  have hFm0 : zfr zt_Wl m0 m0 := zfr_rf _ _
  have r1 : 0 ≤ (m0 3 1) ∧ (m0 3 1) ≤ 700 := zi_rd hIm0 zq_3 zb_2_1
  have r2 : 0 ≤ (m0 190 1) ∧ (m0 190 1) ≤ 700 := zi_rd hIm0 zq_190 zb_28_1
  have w3 := zu_w32_id (z := i + 1) (by omega) (by omega)
  refine zw_if ⟨by omega, by omega⟩ ?_
  have r4 := hSm0 (zu_w32 (i + 1))
  refine zw_bd (zw_mono (zk_43 n hIm0 zq_3 ⟨by omega, by omega⟩) (fun v6 m5 hqm5 => ?_))
  obtain ⟨hIm5, hfm5, hvm5⟩ := hqm5
  have hFm5 := zfr_tr hFm0 hfm5 rfl
  have hRBNm5 := zR_BN_fr (zdis_fr hfm5 rfl) hRBNm0
  have hRC0m5 := zR_C0_fr (zdis_fr hfm5 rfl) hRC0m0
  have hRE115m5 := zR_E115_fr (zdis_fr hfm5 rfl) hRE115m0
  have hRE63m5 := zR_E63_fr (zdis_fr hfm5 rfl) hRE63m0
  have hRE89m5 := zR_E89_fr (zdis_fr hfm5 rfl) hRE89m0
  have hRG5m5 := zR_G5_fr (zdis_fr hfm5 rfl) hRG5m0
  have hRK10m5 := zR_K10_fr (zdis_fr hfm5 rfl) hRK10m0
  have hRK54m5 := zR_K54_fr (zdis_fr hfm5 rfl) hRK54m0
  have hRKNm5 := zR_KN_fr (zdis_fr hfm5 rfl) hRKNm0
  have hRLTm5 := zR_LT_fr (zdis_fr hfm5 rfl) hRLTm0
  have hRNSm5 := zR_NS_fr (zdis_fr hfm5 rfl) hRNSm0
  have hRRIm5 := zR_RI_fr (zdis_fr hfm5 rfl) hRRIm0
  have hRRUm5 := zR_RU_fr (zdis_fr hfm5 rfl) hRRUm0
  have hRSEm5 := zR_SE_fr (zdis_fr hfm5 rfl) hRSEm0
  have hRTEm5 := zR_TE_fr (zdis_fr hfm5 rfl) hRTEm0
  have hRUNm5 := zR_UN_fr (zdis_fr hfm5 rfl) hRUNm0
  have hRUWm5 := zR_UW_fr (zdis_fr hfm5 rfl) hRUWm0
  have hRWDm5 := zR_WD_fr (zdis_fr hfm5 rfl) hRWDm0
  have hSm5 := zt_Sf (W := []) (fun p => zfr_ap (p := p) hfm5 zq_1 rfl) hSm0
  refine zw_if ⟨by omega, by omega⟩ ?_
  have r7 := hSm5 (zu_w32 (i + 1))
  refine zw_bd (zw_mono (zk_107 n hIm5 zq_190 ⟨by omega, by omega⟩) (fun v9 m8 hqm8 => ?_))
  obtain ⟨hIm8, hfm8, hvm8⟩ := hqm8
  have hFm8 := zfr_tr hFm5 hfm8 rfl
  have hRBNm8 := zR_BN_fr (zdis_fr hfm8 rfl) hRBNm5
  have hRC0m8 := zR_C0_fr (zdis_fr hfm8 rfl) hRC0m5
  have hRE115m8 := zR_E115_fr (zdis_fr hfm8 rfl) hRE115m5
  have hRE63m8 := zR_E63_fr (zdis_fr hfm8 rfl) hRE63m5
  have hRE89m8 := zR_E89_fr (zdis_fr hfm8 rfl) hRE89m5
  have hRG5m8 := zR_G5_fr (zdis_fr hfm8 rfl) hRG5m5
  have hRK10m8 := zR_K10_fr (zdis_fr hfm8 rfl) hRK10m5
  have hRK54m8 := zR_K54_fr (zdis_fr hfm8 rfl) hRK54m5
  have hRKNm8 := zR_KN_fr (zdis_fr hfm8 rfl) hRKNm5
  have hRLTm8 := zR_LT_fr (zdis_fr hfm8 rfl) hRLTm5
  have hRNSm8 := zR_NS_fr (zdis_fr hfm8 rfl) hRNSm5
  have hRRIm8 := zR_RI_fr (zdis_fr hfm8 rfl) hRRIm5
  have hRRUm8 := zR_RU_fr (zdis_fr hfm8 rfl) hRRUm5
  have hRSEm8 := zR_SE_fr (zdis_fr hfm8 rfl) hRSEm5
  have hRTEm8 := zR_TE_fr (zdis_fr hfm8 rfl) hRTEm5
  have hRUNm8 := zR_UN_fr (zdis_fr hfm8 rfl) hRUNm5
  have hRUWm8 := zR_UW_fr (zdis_fr hfm8 rfl) hRUWm5
  have hRWDm8 := zR_WD_fr (zdis_fr hfm8 rfl) hRWDm5
  have hSm8 := zt_Sf (W := []) (fun p => zfr_ap (p := p) hfm8 zq_1 rfl) hSm5
  have r10 : 0 ≤ (m8 3 1) ∧ (m8 3 1) ≤ 700 := zi_rd hIm8 zq_3 zb_2_1
  have e11 : (m8 3 1) = (m0 3 1) := (Eq.trans (zfr_ap hfm8 zq_3 rfl) (zfr_ap hfm5 zq_3 rfl))
  have r12 : 0 ≤ (m8 190 1) ∧ (m8 190 1) ≤ 700 := zi_rd hIm8 zq_190 zb_28_1
  have e13 : (m8 190 1) = (m0 190 1) := (Eq.trans (zfr_ap hfm8 zq_190 rfl) (zfr_ap hfm5 zq_190 rfl))
  exact zw_kex (ih _ ⟨hIm8, hRBNm8, hRC0m8, hRE115m8, hRE63m8, hRE89m8, hRG5m8, hRK10m8, hRK54m8, hRKNm8, hRLTm8, hRNSm8, hRRIm8, hRRUm8, hRSEm8, hRTEm8, hRUNm8, hRUWm8, hRWDm8, by omega, hSm8⟩)
theorem zlw_331 {n : Nat} {K : Nat → Nat → Nat → List zu_v → List zu_v → zu_m → Prop} (hst : zt_HS n K) (hp2 : ∀ (cells slots pc : Nat) (i v : Int) (m : zu_m), pc ∈ [529, 552, 1012, 1023] → K cells slots (pc + 1) [(3, 1), (5, 3), (40, 190), (53, 233), (0, i), (2, 0), (2, 0)] [] m → K cells slots pc [(3, 1), (5, 3), (40, 190), (53, 233), (0, i), (2, 0), (2, 0)] [(1, v)] m) {cells slots : Nat} {i : Int} {m0 : zu_m} (hN : zt_INV m0) (hi0 : 0 ≤ i) (hi1 : i ≤ (n : Int) - 6) (hn : n ≤ 3072) (ih : ∀ m, zt_INV m → K cells slots 1453 [(3, 1), (5, 3), (40, 190), (53, 233), (0, i), (2, 0), (2, 0)] [] m) : K cells slots 331 [(3, 1), (5, 3), (40, 190), (53, 233), (0, i), (2, 0), (2, 0)] [] m0 := by
  refine hst cells slots [23, 208, 281, 306, 331, 356, 370, 396, 433, 470, 507, 529, 552, 556, 605, 618, 655, 680, 705, 730, 755, 792, 865, 902, 939, 964, 977, 1002, 1012, 1023, 1027, 1040, 1077, 1102, 1127, 1204, 1229, 1254, 1279, 1340, 1389, 1402, 1415, 1428, 1453] 400 331 _ _ _ ?_
  refine zw_eq (zlr_331 n _ _ i m0) ?_
  obtain ⟨hIm0, hRBNm0, hRC0m0, hRE115m0, hRE63m0, hRE89m0, hRG5m0, hRK10m0, hRK54m0, hRKNm0, hRLTm0, hRNSm0, hRRIm0, hRRUm0, hRSEm0, hRTEm0, hRUNm0, hRUWm0, hRWDm0, hT, hSm0⟩ := hN
  have hFm0 : zfr zt_Wl m0 m0 := zfr_rf _ _
  have r1 : 0 ≤ (m0 3 1) ∧ (m0 3 1) ≤ 700 := zi_rd hIm0 zq_3 zb_2_1
  have r2 : 0 ≤ (m0 190 1) ∧ (m0 190 1) ≤ 700 := zi_rd hIm0 zq_190 zb_28_1
  have w3 := zu_w32_id (z := i + 1) (by omega) (by omega)
  refine zw_if ⟨by omega, by omega⟩ ?_
  have r4 := hSm0 (zu_w32 (i + 1))
  refine zw_bd (zw_mono (zk_44 n hIm0 zq_3 ⟨by omega, by omega⟩) (fun v6 m5 hqm5 => ?_))
  obtain ⟨hIm5, hfm5, hvm5⟩ := hqm5
  have hFm5 := zfr_tr hFm0 hfm5 rfl
  have hRBNm5 := zR_BN_fr (zdis_fr hfm5 rfl) hRBNm0
  have hRC0m5 := zR_C0_fr (zdis_fr hfm5 rfl) hRC0m0
  have hRE115m5 := zR_E115_fr (zdis_fr hfm5 rfl) hRE115m0
  have hRE63m5 := zR_E63_fr (zdis_fr hfm5 rfl) hRE63m0
  have hRE89m5 := zR_E89_fr (zdis_fr hfm5 rfl) hRE89m0
  have hRG5m5 := zR_G5_fr (zdis_fr hfm5 rfl) hRG5m0
  have hRK10m5 := zR_K10_fr (zdis_fr hfm5 rfl) hRK10m0
  have hRK54m5 := zR_K54_fr (zdis_fr hfm5 rfl) hRK54m0
  have hRKNm5 := zR_KN_fr (zdis_fr hfm5 rfl) hRKNm0
  have hRLTm5 := zR_LT_fr (zdis_fr hfm5 rfl) hRLTm0
  have hRNSm5 := zR_NS_fr (zdis_fr hfm5 rfl) hRNSm0
  have hRRIm5 := zR_RI_fr (zdis_fr hfm5 rfl) hRRIm0
  have hRRUm5 := zR_RU_fr (zdis_fr hfm5 rfl) hRRUm0
  have hRSEm5 := zR_SE_fr (zdis_fr hfm5 rfl) hRSEm0
  have hRTEm5 := zR_TE_fr (zdis_fr hfm5 rfl) hRTEm0
  have hRUNm5 := zR_UN_fr (zdis_fr hfm5 rfl) hRUNm0
  have hRUWm5 := zR_UW_fr (zdis_fr hfm5 rfl) hRUWm0
  have hRWDm5 := zR_WD_fr (zdis_fr hfm5 rfl) hRWDm0
  have hSm5 := zt_Sf (W := []) (fun p => zfr_ap (p := p) hfm5 zq_1 rfl) hSm0
  refine zw_if ⟨by omega, by omega⟩ ?_
  have r7 := hSm5 (zu_w32 (i + 1))
  refine zw_bd (zw_mono (zk_108 n hIm5 zq_190 ⟨by omega, by omega⟩) (fun v9 m8 hqm8 => ?_))
  obtain ⟨hIm8, hfm8, hvm8⟩ := hqm8
  have hFm8 := zfr_tr hFm5 hfm8 rfl
  have hRBNm8 := zR_BN_fr (zdis_fr hfm8 rfl) hRBNm5
  have hRC0m8 := zR_C0_fr (zdis_fr hfm8 rfl) hRC0m5
  have hRE115m8 := zR_E115_fr (zdis_fr hfm8 rfl) hRE115m5
  have hRE63m8 := zR_E63_fr (zdis_fr hfm8 rfl) hRE63m5
  have hRE89m8 := zR_E89_fr (zdis_fr hfm8 rfl) hRE89m5
  have hRG5m8 := zR_G5_fr (zdis_fr hfm8 rfl) hRG5m5
  have hRK10m8 := zR_K10_fr (zdis_fr hfm8 rfl) hRK10m5
  have hRK54m8 := zR_K54_fr (zdis_fr hfm8 rfl) hRK54m5
  have hRKNm8 := zR_KN_fr (zdis_fr hfm8 rfl) hRKNm5
  have hRLTm8 := zR_LT_fr (zdis_fr hfm8 rfl) hRLTm5
  have hRNSm8 := zR_NS_fr (zdis_fr hfm8 rfl) hRNSm5
  have hRRIm8 := zR_RI_fr (zdis_fr hfm8 rfl) hRRIm5
  have hRRUm8 := zR_RU_fr (zdis_fr hfm8 rfl) hRRUm5
  have hRSEm8 := zR_SE_fr (zdis_fr hfm8 rfl) hRSEm5
  have hRTEm8 := zR_TE_fr (zdis_fr hfm8 rfl) hRTEm5
  have hRUNm8 := zR_UN_fr (zdis_fr hfm8 rfl) hRUNm5
  have hRUWm8 := zR_UW_fr (zdis_fr hfm8 rfl) hRUWm5
  have hRWDm8 := zR_WD_fr (zdis_fr hfm8 rfl) hRWDm5
  have hSm8 := zt_Sf (W := []) (fun p => zfr_ap (p := p) hfm8 zq_1 rfl) hSm5
  have r10 : 0 ≤ (m8 3 1) ∧ (m8 3 1) ≤ 700 := zi_rd hIm8 zq_3 zb_2_1
  have e11 : (m8 3 1) = (m0 3 1) := (Eq.trans (zfr_ap hfm8 zq_3 rfl) (zfr_ap hfm5 zq_3 rfl))
  have r12 : 0 ≤ (m8 190 1) ∧ (m8 190 1) ≤ 700 := zi_rd hIm8 zq_190 zb_28_1
  have e13 : (m8 190 1) = (m0 190 1) := (Eq.trans (zfr_ap hfm8 zq_190 rfl) (zfr_ap hfm5 zq_190 rfl))
  exact zw_kex (ih _ ⟨hIm8, hRBNm8, hRC0m8, hRE115m8, hRE63m8, hRE89m8, hRG5m8, hRK10m8, hRK54m8, hRKNm8, hRLTm8, hRNSm8, hRRIm8, hRRUm8, hRSEm8, hRTEm8, hRUNm8, hRUWm8, hRWDm8, by omega, hSm8⟩)
theorem zlw_396 {n : Nat} {K : Nat → Nat → Nat → List zu_v → List zu_v → zu_m → Prop} (hst : zt_HS n K) (hp2 : ∀ (cells slots pc : Nat) (i v : Int) (m : zu_m), pc ∈ [529, 552, 1012, 1023] → K cells slots (pc + 1) [(3, 1), (5, 3), (40, 190), (53, 233), (0, i), (2, 0), (2, 0)] [] m → K cells slots pc [(3, 1), (5, 3), (40, 190), (53, 233), (0, i), (2, 0), (2, 0)] [(1, v)] m) {cells slots : Nat} {i : Int} {m0 : zu_m} (hN : zt_INV m0) (hi0 : 0 ≤ i) (hi1 : i ≤ (n : Int) - 6) (hn : n ≤ 3072) (ih : ∀ m, zt_INV m → K cells slots 1453 [(3, 1), (5, 3), (40, 190), (53, 233), (0, i), (2, 0), (2, 0)] [] m) : K cells slots 396 [(3, 1), (5, 3), (40, 190), (53, 233), (0, i), (2, 0), (2, 0)] [] m0 := by
  refine hst cells slots [23, 208, 281, 306, 331, 356, 370, 396, 433, 470, 507, 529, 552, 556, 605, 618, 655, 680, 705, 730, 755, 792, 865, 902, 939, 964, 977, 1002, 1012, 1023, 1027, 1040, 1077, 1102, 1127, 1204, 1229, 1254, 1279, 1340, 1389, 1402, 1415, 1428, 1453] 400 396 _ _ _ ?_
  refine zw_eq (zlr_396 n _ _ i m0) ?_
  obtain ⟨hIm0, hRBNm0, hRC0m0, hRE115m0, hRE63m0, hRE89m0, hRG5m0, hRK10m0, hRK54m0, hRKNm0, hRLTm0, hRNSm0, hRRIm0, hRRUm0, hRSEm0, hRTEm0, hRUNm0, hRUWm0, hRWDm0, hT, hSm0⟩ := hN
  have hFm0 : zfr zt_Wl m0 m0 := zfr_rf _ _
  have r1 : 0 ≤ (m0 3 1) ∧ (m0 3 1) ≤ 700 := zi_rd hIm0 zq_3 zb_2_1
  have r2 : 0 ≤ (m0 190 1) ∧ (m0 190 1) ≤ 700 := zi_rd hIm0 zq_190 zb_28_1
  have w3 := zu_w32_id (z := i + 1) (by omega) (by omega)
  refine zw_if ⟨by omega, by omega⟩ ?_
  have r4 := hSm0 (zu_w32 (i + 1))
  have w5 := zu_w32_id (z := i + 2) (by omega) (by omega)
  refine zw_if ⟨by omega, by omega⟩ ?_
  have r6 := hSm0 (zu_w32 (i + 2))
  refine zw_bd (zw_mono (zk_46 n hIm0 zq_3 ⟨by omega, by omega⟩ ⟨by omega, by omega⟩) (fun v8 m7 hqm7 => ?_))
  obtain ⟨hIm7, hfm7, hvm7⟩ := hqm7
  have hFm7 := zfr_tr hFm0 hfm7 rfl
  have hRBNm7 := zR_BN_fr (zdis_fr hfm7 rfl) hRBNm0
  have hRC0m7 := zR_C0_fr (zdis_fr hfm7 rfl) hRC0m0
  have hRE115m7 := zR_E115_fr (zdis_fr hfm7 rfl) hRE115m0
  have hRE63m7 := zR_E63_fr (zdis_fr hfm7 rfl) hRE63m0
  have hRE89m7 := zR_E89_fr (zdis_fr hfm7 rfl) hRE89m0
  have hRG5m7 := zR_G5_fr (zdis_fr hfm7 rfl) hRG5m0
  have hRK10m7 := zR_K10_fr (zdis_fr hfm7 rfl) hRK10m0
  have hRK54m7 := zR_K54_fr (zdis_fr hfm7 rfl) hRK54m0
  have hRKNm7 := zR_KN_fr (zdis_fr hfm7 rfl) hRKNm0
  have hRLTm7 := zR_LT_fr (zdis_fr hfm7 rfl) hRLTm0
  have hRNSm7 := zR_NS_fr (zdis_fr hfm7 rfl) hRNSm0
  have hRRIm7 := zR_RI_fr (zdis_fr hfm7 rfl) hRRIm0
  have hRRUm7 := zR_RU_fr (zdis_fr hfm7 rfl) hRRUm0
  have hRSEm7 := zR_SE_fr (zdis_fr hfm7 rfl) hRSEm0
  have hRTEm7 := zR_TE_fr (zdis_fr hfm7 rfl) hRTEm0
  have hRUNm7 := zR_UN_fr (zdis_fr hfm7 rfl) hRUNm0
  have hRUWm7 := zR_UW_fr (zdis_fr hfm7 rfl) hRUWm0
  have hRWDm7 := zR_WD_fr (zdis_fr hfm7 rfl) hRWDm0
  have hSm7 := zt_Sf (W := []) (fun p => zfr_ap (p := p) hfm7 zq_1 rfl) hSm0
  refine zw_if ⟨by omega, by omega⟩ ?_
  have r9 := hSm7 (zu_w32 (i + 1))
  refine zw_if ⟨by omega, by omega⟩ ?_
  have r10 := hSm7 (zu_w32 (i + 2))
  refine zw_bd (zw_mono (zk_144 n hIm7 zq_190 ⟨by omega, by omega⟩ ⟨by omega, by omega⟩) (fun v12 m11 hqm11 => ?_))
  obtain ⟨hIm11, hfm11, hvm11⟩ := hqm11
  have hFm11 := zfr_tr hFm7 hfm11 rfl
  have hRBNm11 := zR_BN_fr (zdis_fr hfm11 rfl) hRBNm7
  have hRC0m11 := zR_C0_fr (zdis_fr hfm11 rfl) hRC0m7
  have hRE115m11 := zR_E115_fr (zdis_fr hfm11 rfl) hRE115m7
  have hRE63m11 := zR_E63_fr (zdis_fr hfm11 rfl) hRE63m7
  have hRE89m11 := zR_E89_fr (zdis_fr hfm11 rfl) hRE89m7
  have hRG5m11 := zR_G5_fr (zdis_fr hfm11 rfl) hRG5m7
  have hRK10m11 := zR_K10_fr (zdis_fr hfm11 rfl) hRK10m7
  have hRK54m11 := zR_K54_fr (zdis_fr hfm11 rfl) hRK54m7
  have hRKNm11 := zR_KN_fr (zdis_fr hfm11 rfl) hRKNm7
  have hRLTm11 := zR_LT_fr (zdis_fr hfm11 rfl) hRLTm7
  have hRNSm11 := zR_NS_fr (zdis_fr hfm11 rfl) hRNSm7
  have hRRIm11 := zR_RI_fr (zdis_fr hfm11 rfl) hRRIm7
  have hRRUm11 := zR_RU_fr (zdis_fr hfm11 rfl) hRRUm7
  have hRSEm11 := zR_SE_fr (zdis_fr hfm11 rfl) hRSEm7
  have hRTEm11 := zR_TE_fr (zdis_fr hfm11 rfl) hRTEm7
  have hRUNm11 := zR_UN_fr (zdis_fr hfm11 rfl) hRUNm7
  have hRUWm11 := zR_UW_fr (zdis_fr hfm11 rfl) hRUWm7
  have hRWDm11 := zR_WD_fr (zdis_fr hfm11 rfl) hRWDm7
  have hSm11 := zt_Sf (W := []) (fun p => zfr_ap (p := p) hfm11 zq_1 rfl) hSm7
  have r13 : 0 ≤ (m11 3 1) ∧ (m11 3 1) ≤ 700 := zi_rd hIm11 zq_3 zb_2_1
  have e14 : (m11 3 1) = (m0 3 1) := (Eq.trans (zfr_ap hfm11 zq_3 rfl) (zfr_ap hfm7 zq_3 rfl))
  have r15 : 0 ≤ (m11 190 1) ∧ (m11 190 1) ≤ 700 := zi_rd hIm11 zq_190 zb_28_1
  have e16 : (m11 190 1) = (m0 190 1) := (Eq.trans (zfr_ap hfm11 zq_190 rfl) (zfr_ap hfm7 zq_190 rfl))
  exact zw_kex (ih _ ⟨hIm11, hRBNm11, hRC0m11, hRE115m11, hRE63m11, hRE89m11, hRG5m11, hRK10m11, hRK54m11, hRKNm11, hRLTm11, hRNSm11, hRRIm11, hRRUm11, hRSEm11, hRTEm11, hRUNm11, hRUWm11, hRWDm11, by omega, hSm11⟩)
theorem zlw_433 {n : Nat} {K : Nat → Nat → Nat → List zu_v → List zu_v → zu_m → Prop} (hst : zt_HS n K) (hp2 : ∀ (cells slots pc : Nat) (i v : Int) (m : zu_m), pc ∈ [529, 552, 1012, 1023] → K cells slots (pc + 1) [(3, 1), (5, 3), (40, 190), (53, 233), (0, i), (2, 0), (2, 0)] [] m → K cells slots pc [(3, 1), (5, 3), (40, 190), (53, 233), (0, i), (2, 0), (2, 0)] [(1, v)] m) {cells slots : Nat} {i : Int} {m0 : zu_m} (hN : zt_INV m0) (hi0 : 0 ≤ i) (hi1 : i ≤ (n : Int) - 6) (hn : n ≤ 3072) (ih : ∀ m, zt_INV m → K cells slots 1453 [(3, 1), (5, 3), (40, 190), (53, 233), (0, i), (2, 0), (2, 0)] [] m) : K cells slots 433 [(3, 1), (5, 3), (40, 190), (53, 233), (0, i), (2, 0), (2, 0)] [] m0 := by
  refine hst cells slots [23, 208, 281, 306, 331, 356, 370, 396, 433, 470, 507, 529, 552, 556, 605, 618, 655, 680, 705, 730, 755, 792, 865, 902, 939, 964, 977, 1002, 1012, 1023, 1027, 1040, 1077, 1102, 1127, 1204, 1229, 1254, 1279, 1340, 1389, 1402, 1415, 1428, 1453] 400 433 _ _ _ ?_
  refine zw_eq (zlr_433 n _ _ i m0) ?_
  obtain ⟨hIm0, hRBNm0, hRC0m0, hRE115m0, hRE63m0, hRE89m0, hRG5m0, hRK10m0, hRK54m0, hRKNm0, hRLTm0, hRNSm0, hRRIm0, hRRUm0, hRSEm0, hRTEm0, hRUNm0, hRUWm0, hRWDm0, hT, hSm0⟩ := hN
  have hFm0 : zfr zt_Wl m0 m0 := zfr_rf _ _
  have r1 : 0 ≤ (m0 3 1) ∧ (m0 3 1) ≤ 700 := zi_rd hIm0 zq_3 zb_2_1
  have r2 : 0 ≤ (m0 190 1) ∧ (m0 190 1) ≤ 700 := zi_rd hIm0 zq_190 zb_28_1
  have w3 := zu_w32_id (z := i + 1) (by omega) (by omega)
  refine zw_if ⟨by omega, by omega⟩ ?_
  have r4 := hSm0 (zu_w32 (i + 1))
  have w5 := zu_w32_id (z := i + 2) (by omega) (by omega)
  refine zw_if ⟨by omega, by omega⟩ ?_
  have r6 := hSm0 (zu_w32 (i + 2))
  refine zw_bd (zw_mono (zk_47 n hIm0 zq_3 ⟨by omega, by omega⟩ ⟨by omega, by omega⟩ hRK54m0) (fun v8 m7 hqm7 => ?_))
  obtain ⟨hIm7, hfm7, hvm7⟩ := hqm7
  have hFm7 := zfr_tr hFm0 hfm7 rfl
  obtain ⟨hRK54m7, hvm7⟩ := hvm7
  have hRBNm7 := zR_BN_fr (zdis_fr hfm7 rfl) hRBNm0
  have hRC0m7 := zR_C0_fr (zdis_fr hfm7 rfl) hRC0m0
  have hRE115m7 := zR_E115_fr (zdis_fr hfm7 rfl) hRE115m0
  have hRE63m7 := zR_E63_fr (zdis_fr hfm7 rfl) hRE63m0
  have hRE89m7 := zR_E89_fr (zdis_fr hfm7 rfl) hRE89m0
  have hRG5m7 := zR_G5_fr (zdis_fr hfm7 rfl) hRG5m0
  have hRK10m7 := zR_K10_fr (zdis_fr hfm7 rfl) hRK10m0
  have hRKNm7 := zR_KN_fr (zdis_fr hfm7 rfl) hRKNm0
  have hRLTm7 := zR_LT_fr (zdis_fr hfm7 rfl) hRLTm0
  have hRNSm7 := zR_NS_fr (zdis_fr hfm7 rfl) hRNSm0
  have hRRIm7 := zR_RI_fr (zdis_fr hfm7 rfl) hRRIm0
  have hRRUm7 := zR_RU_fr (zdis_fr hfm7 rfl) hRRUm0
  have hRSEm7 := zR_SE_fr (zdis_fr hfm7 rfl) hRSEm0
  have hRTEm7 := zR_TE_fr (zdis_fr hfm7 rfl) hRTEm0
  have hRUNm7 := zR_UN_fr (zdis_fr hfm7 rfl) hRUNm0
  have hRUWm7 := zR_UW_fr (zdis_fr hfm7 rfl) hRUWm0
  have hRWDm7 := zR_WD_fr (zdis_fr hfm7 rfl) hRWDm0
  have hSm7 := zt_Sf (W := []) (fun p => zfr_ap (p := p) hfm7 zq_1 rfl) hSm0
  refine zw_if ⟨by omega, by omega⟩ ?_
  have r9 := hSm7 (zu_w32 (i + 1))
  refine zw_if ⟨by omega, by omega⟩ ?_
  have r10 := hSm7 (zu_w32 (i + 2))
  refine zw_bd (zw_mono (zk_145 n hIm7 zq_190 ⟨by omega, by omega⟩ ⟨by omega, by omega⟩ hRKNm7 hRLTm7) (fun v12 m11 hqm11 => ?_))
  obtain ⟨hIm11, hfm11, hvm11⟩ := hqm11
  have hFm11 := zfr_tr hFm7 hfm11 rfl
  obtain ⟨hRKNm11, hRLTm11, hvm11⟩ := hvm11
  have hRBNm11 := zR_BN_fr (zdis_fr hfm11 rfl) hRBNm7
  have hRC0m11 := zR_C0_fr (zdis_fr hfm11 rfl) hRC0m7
  have hRE115m11 := zR_E115_fr (zdis_fr hfm11 rfl) hRE115m7
  have hRE63m11 := zR_E63_fr (zdis_fr hfm11 rfl) hRE63m7
  have hRE89m11 := zR_E89_fr (zdis_fr hfm11 rfl) hRE89m7
  have hRG5m11 := zR_G5_fr (zdis_fr hfm11 rfl) hRG5m7
  have hRK10m11 := zR_K10_fr (zdis_fr hfm11 rfl) hRK10m7
  have hRK54m11 := zR_K54_fr (zdis_fr hfm11 rfl) hRK54m7
  have hRNSm11 := zR_NS_fr (zdis_fr hfm11 rfl) hRNSm7
  have hRRIm11 := zR_RI_fr (zdis_fr hfm11 rfl) hRRIm7
  have hRRUm11 := zR_RU_fr (zdis_fr hfm11 rfl) hRRUm7
  have hRSEm11 := zR_SE_fr (zdis_fr hfm11 rfl) hRSEm7
  have hRTEm11 := zR_TE_fr (zdis_fr hfm11 rfl) hRTEm7
  have hRUNm11 := zR_UN_fr (zdis_fr hfm11 rfl) hRUNm7
  have hRUWm11 := zR_UW_fr (zdis_fr hfm11 rfl) hRUWm7
  have hRWDm11 := zR_WD_fr (zdis_fr hfm11 rfl) hRWDm7
  have hSm11 := zt_Sf (W := []) (fun p => zfr_ap (p := p) hfm11 zq_1 rfl) hSm7
  have r13 : 0 ≤ (m11 3 1) ∧ (m11 3 1) ≤ 700 := zi_rd hIm11 zq_3 zb_2_1
  have e14 : (m11 3 1) = (m0 3 1) := (Eq.trans (zfr_ap hfm11 zq_3 rfl) (zfr_ap hfm7 zq_3 rfl))
  have r15 : 0 ≤ (m11 190 1) ∧ (m11 190 1) ≤ 700 := zi_rd hIm11 zq_190 zb_28_1
  have e16 : (m11 190 1) = (m0 190 1) := (Eq.trans (zfr_ap hfm11 zq_190 rfl) (zfr_ap hfm7 zq_190 rfl))
  exact zw_kex (ih _ ⟨hIm11, hRBNm11, hRC0m11, hRE115m11, hRE63m11, hRE89m11, hRG5m11, hRK10m11, hRK54m11, hRKNm11, hRLTm11, hRNSm11, hRRIm11, hRRUm11, hRSEm11, hRTEm11, hRUNm11, hRUWm11, hRWDm11, by omega, hSm11⟩)
theorem zlw_470 {n : Nat} {K : Nat → Nat → Nat → List zu_v → List zu_v → zu_m → Prop} (hst : zt_HS n K) (hp2 : ∀ (cells slots pc : Nat) (i v : Int) (m : zu_m), pc ∈ [529, 552, 1012, 1023] → K cells slots (pc + 1) [(3, 1), (5, 3), (40, 190), (53, 233), (0, i), (2, 0), (2, 0)] [] m → K cells slots pc [(3, 1), (5, 3), (40, 190), (53, 233), (0, i), (2, 0), (2, 0)] [(1, v)] m) {cells slots : Nat} {i : Int} {m0 : zu_m} (hN : zt_INV m0) (hi0 : 0 ≤ i) (hi1 : i ≤ (n : Int) - 6) (hn : n ≤ 3072) (ih : ∀ m, zt_INV m → K cells slots 1453 [(3, 1), (5, 3), (40, 190), (53, 233), (0, i), (2, 0), (2, 0)] [] m) : K cells slots 470 [(3, 1), (5, 3), (40, 190), (53, 233), (0, i), (2, 0), (2, 0)] [] m0 := by
  refine hst cells slots [23, 208, 281, 306, 331, 356, 370, 396, 433, 470, 507, 529, 552, 556, 605, 618, 655, 680, 705, 730, 755, 792, 865, 902, 939, 964, 977, 1002, 1012, 1023, 1027, 1040, 1077, 1102, 1127, 1204, 1229, 1254, 1279, 1340, 1389, 1402, 1415, 1428, 1453] 400 470 _ _ _ ?_
  refine zw_eq (zlr_470 n _ _ i m0) ?_
  obtain ⟨hIm0, hRBNm0, hRC0m0, hRE115m0, hRE63m0, hRE89m0, hRG5m0, hRK10m0, hRK54m0, hRKNm0, hRLTm0, hRNSm0, hRRIm0, hRRUm0, hRSEm0, hRTEm0, hRUNm0, hRUWm0, hRWDm0, hT, hSm0⟩ := hN
  have hFm0 : zfr zt_Wl m0 m0 := zfr_rf _ _
  have r1 : 0 ≤ (m0 3 1) ∧ (m0 3 1) ≤ 700 := zi_rd hIm0 zq_3 zb_2_1
  have r2 : 0 ≤ (m0 190 1) ∧ (m0 190 1) ≤ 700 := zi_rd hIm0 zq_190 zb_28_1
  have w3 := zu_w32_id (z := i + 1) (by omega) (by omega)
  refine zw_if ⟨by omega, by omega⟩ ?_
  have r4 := hSm0 (zu_w32 (i + 1))
  have w5 := zu_w32_id (z := i + 2) (by omega) (by omega)
  refine zw_if ⟨by omega, by omega⟩ ?_
  have r6 := hSm0 (zu_w32 (i + 2))
  refine zw_bd (zw_mono (zk_48 n hIm0 zq_3 ⟨by omega, by omega⟩ ⟨by omega, by omega⟩ hRK54m0) (fun v8 m7 hqm7 => ?_))
  obtain ⟨hIm7, hfm7, hvm7⟩ := hqm7
  have hFm7 := zfr_tr hFm0 hfm7 rfl
  obtain ⟨hRK54m7, hvm7⟩ := hvm7
  have hRBNm7 := zR_BN_fr (zdis_fr hfm7 rfl) hRBNm0
  have hRC0m7 := zR_C0_fr (zdis_fr hfm7 rfl) hRC0m0
  have hRE115m7 := zR_E115_fr (zdis_fr hfm7 rfl) hRE115m0
  have hRE63m7 := zR_E63_fr (zdis_fr hfm7 rfl) hRE63m0
  have hRE89m7 := zR_E89_fr (zdis_fr hfm7 rfl) hRE89m0
  have hRG5m7 := zR_G5_fr (zdis_fr hfm7 rfl) hRG5m0
  have hRK10m7 := zR_K10_fr (zdis_fr hfm7 rfl) hRK10m0
  have hRKNm7 := zR_KN_fr (zdis_fr hfm7 rfl) hRKNm0
  have hRLTm7 := zR_LT_fr (zdis_fr hfm7 rfl) hRLTm0
  have hRNSm7 := zR_NS_fr (zdis_fr hfm7 rfl) hRNSm0
  have hRRIm7 := zR_RI_fr (zdis_fr hfm7 rfl) hRRIm0
  have hRRUm7 := zR_RU_fr (zdis_fr hfm7 rfl) hRRUm0
  have hRSEm7 := zR_SE_fr (zdis_fr hfm7 rfl) hRSEm0
  have hRTEm7 := zR_TE_fr (zdis_fr hfm7 rfl) hRTEm0
  have hRUNm7 := zR_UN_fr (zdis_fr hfm7 rfl) hRUNm0
  have hRUWm7 := zR_UW_fr (zdis_fr hfm7 rfl) hRUWm0
  have hRWDm7 := zR_WD_fr (zdis_fr hfm7 rfl) hRWDm0
  have hSm7 := zt_Sf (W := []) (fun p => zfr_ap (p := p) hfm7 zq_1 rfl) hSm0
  refine zw_if ⟨by omega, by omega⟩ ?_
  have r9 := hSm7 (zu_w32 (i + 1))
  refine zw_if ⟨by omega, by omega⟩ ?_
  have r10 := hSm7 (zu_w32 (i + 2))
  refine zw_bd (zw_mono (zk_146 n hIm7 zq_190 ⟨by omega, by omega⟩ ⟨by omega, by omega⟩ hRKNm7 hRLTm7) (fun v12 m11 hqm11 => ?_))
  obtain ⟨hIm11, hfm11, hvm11⟩ := hqm11
  have hFm11 := zfr_tr hFm7 hfm11 rfl
  obtain ⟨hRKNm11, hRLTm11, hvm11⟩ := hvm11
  have hRBNm11 := zR_BN_fr (zdis_fr hfm11 rfl) hRBNm7
  have hRC0m11 := zR_C0_fr (zdis_fr hfm11 rfl) hRC0m7
  have hRE115m11 := zR_E115_fr (zdis_fr hfm11 rfl) hRE115m7
  have hRE63m11 := zR_E63_fr (zdis_fr hfm11 rfl) hRE63m7
  have hRE89m11 := zR_E89_fr (zdis_fr hfm11 rfl) hRE89m7
  have hRG5m11 := zR_G5_fr (zdis_fr hfm11 rfl) hRG5m7
  have hRK10m11 := zR_K10_fr (zdis_fr hfm11 rfl) hRK10m7
  have hRK54m11 := zR_K54_fr (zdis_fr hfm11 rfl) hRK54m7
  have hRNSm11 := zR_NS_fr (zdis_fr hfm11 rfl) hRNSm7
  have hRRIm11 := zR_RI_fr (zdis_fr hfm11 rfl) hRRIm7
  have hRRUm11 := zR_RU_fr (zdis_fr hfm11 rfl) hRRUm7
  have hRSEm11 := zR_SE_fr (zdis_fr hfm11 rfl) hRSEm7
  have hRTEm11 := zR_TE_fr (zdis_fr hfm11 rfl) hRTEm7
  have hRUNm11 := zR_UN_fr (zdis_fr hfm11 rfl) hRUNm7
  have hRUWm11 := zR_UW_fr (zdis_fr hfm11 rfl) hRUWm7
  have hRWDm11 := zR_WD_fr (zdis_fr hfm11 rfl) hRWDm7
  have hSm11 := zt_Sf (W := []) (fun p => zfr_ap (p := p) hfm11 zq_1 rfl) hSm7
  have r13 : 0 ≤ (m11 3 1) ∧ (m11 3 1) ≤ 700 := zi_rd hIm11 zq_3 zb_2_1
  have e14 : (m11 3 1) = (m0 3 1) := (Eq.trans (zfr_ap hfm11 zq_3 rfl) (zfr_ap hfm7 zq_3 rfl))
  have r15 : 0 ≤ (m11 190 1) ∧ (m11 190 1) ≤ 700 := zi_rd hIm11 zq_190 zb_28_1
  have e16 : (m11 190 1) = (m0 190 1) := (Eq.trans (zfr_ap hfm11 zq_190 rfl) (zfr_ap hfm7 zq_190 rfl))
  exact zw_kex (ih _ ⟨hIm11, hRBNm11, hRC0m11, hRE115m11, hRE63m11, hRE89m11, hRG5m11, hRK10m11, hRK54m11, hRKNm11, hRLTm11, hRNSm11, hRRIm11, hRRUm11, hRSEm11, hRTEm11, hRUNm11, hRUWm11, hRWDm11, by omega, hSm11⟩)
theorem zlw_507 {n : Nat} {K : Nat → Nat → Nat → List zu_v → List zu_v → zu_m → Prop} (hst : zt_HS n K) (hp2 : ∀ (cells slots pc : Nat) (i v : Int) (m : zu_m), pc ∈ [529, 552, 1012, 1023] → K cells slots (pc + 1) [(3, 1), (5, 3), (40, 190), (53, 233), (0, i), (2, 0), (2, 0)] [] m → K cells slots pc [(3, 1), (5, 3), (40, 190), (53, 233), (0, i), (2, 0), (2, 0)] [(1, v)] m) {cells slots : Nat} {i : Int} {m0 : zu_m} (hN : zt_INV m0) (hi0 : 0 ≤ i) (hi1 : i ≤ (n : Int) - 6) (hn : n ≤ 3072) (ih : ∀ m, zt_INV m → K cells slots 1453 [(3, 1), (5, 3), (40, 190), (53, 233), (0, i), (2, 0), (2, 0)] [] m) : K cells slots 507 [(3, 1), (5, 3), (40, 190), (53, 233), (0, i), (2, 0), (2, 0)] [] m0 := by
  refine hst cells slots [23, 208, 281, 306, 331, 356, 370, 396, 433, 470, 507, 529, 552, 556, 605, 618, 655, 680, 705, 730, 755, 792, 865, 902, 939, 964, 977, 1002, 1012, 1023, 1027, 1040, 1077, 1102, 1127, 1204, 1229, 1254, 1279, 1340, 1389, 1402, 1415, 1428, 1453] 400 507 _ _ _ ?_
  refine zw_eq (zlr_507 n _ _ i m0) ?_
  obtain ⟨hIm0, hRBNm0, hRC0m0, hRE115m0, hRE63m0, hRE89m0, hRG5m0, hRK10m0, hRK54m0, hRKNm0, hRLTm0, hRNSm0, hRRIm0, hRRUm0, hRSEm0, hRTEm0, hRUNm0, hRUWm0, hRWDm0, hT, hSm0⟩ := hN
  have hFm0 : zfr zt_Wl m0 m0 := zfr_rf _ _
  have r1 : 0 ≤ (m0 3 1) ∧ (m0 3 1) ≤ 700 := zi_rd hIm0 zq_3 zb_2_1
  have r2 : 0 ≤ (m0 190 1) ∧ (m0 190 1) ≤ 700 := zi_rd hIm0 zq_190 zb_28_1
  have w3 := zu_w32_id (z := i + 1) (by omega) (by omega)
  refine zw_if ⟨by omega, by omega⟩ ?_
  have r4 := hSm0 (zu_w32 (i + 1))
  have w5 := zu_w32_id (z := i + 2) (by omega) (by omega)
  refine zw_if ⟨by omega, by omega⟩ ?_
  have r6 := hSm0 (zu_w32 (i + 2))
  have w7 := zu_w32_id (z := i + 3) (by omega) (by omega)
  refine zw_if ⟨by omega, by omega⟩ ?_
  have r8 := hSm0 (zu_w32 (i + 3))
  refine zw_bd (zw_mono (zk_49 n hIm0 zq_3 ⟨by omega, by omega⟩ ⟨by omega, by omega⟩ ⟨by omega, by omega⟩ hRK54m0) (fun v10 m9 hqm9 => ?_))
  obtain ⟨hIm9, hfm9, hvm9⟩ := hqm9
  have hFm9 := zfr_tr hFm0 hfm9 rfl
  obtain ⟨hRK54m9, hvm9⟩ := hvm9
  have hRBNm9 := zR_BN_fr (zdis_fr hfm9 rfl) hRBNm0
  have hRC0m9 := zR_C0_fr (zdis_fr hfm9 rfl) hRC0m0
  have hRE115m9 := zR_E115_fr (zdis_fr hfm9 rfl) hRE115m0
  have hRE63m9 := zR_E63_fr (zdis_fr hfm9 rfl) hRE63m0
  have hRE89m9 := zR_E89_fr (zdis_fr hfm9 rfl) hRE89m0
  have hRG5m9 := zR_G5_fr (zdis_fr hfm9 rfl) hRG5m0
  have hRK10m9 := zR_K10_fr (zdis_fr hfm9 rfl) hRK10m0
  have hRKNm9 := zR_KN_fr (zdis_fr hfm9 rfl) hRKNm0
  have hRLTm9 := zR_LT_fr (zdis_fr hfm9 rfl) hRLTm0
  have hRNSm9 := zR_NS_fr (zdis_fr hfm9 rfl) hRNSm0
  have hRRIm9 := zR_RI_fr (zdis_fr hfm9 rfl) hRRIm0
  have hRRUm9 := zR_RU_fr (zdis_fr hfm9 rfl) hRRUm0
  have hRSEm9 := zR_SE_fr (zdis_fr hfm9 rfl) hRSEm0
  have hRTEm9 := zR_TE_fr (zdis_fr hfm9 rfl) hRTEm0
  have hRUNm9 := zR_UN_fr (zdis_fr hfm9 rfl) hRUNm0
  have hRUWm9 := zR_UW_fr (zdis_fr hfm9 rfl) hRUWm0
  have hRWDm9 := zR_WD_fr (zdis_fr hfm9 rfl) hRWDm0
  have hSm9 := zt_Sf (W := []) (fun p => zfr_ap (p := p) hfm9 zq_1 rfl) hSm0
  have r11 : 0 ≤ (m9 3 1) ∧ (m9 3 1) ≤ 700 := zi_rd hIm9 zq_3 zb_2_1
  have e12 : (m9 3 1) = (m0 3 1) := (zfr_ap hfm9 zq_3 rfl)
  have r13 : 0 ≤ (m9 190 1) ∧ (m9 190 1) ≤ 700 := zi_rd hIm9 zq_190 zb_28_1
  have e14 : (m9 190 1) = (m0 190 1) := (zfr_ap hfm9 zq_190 rfl)
  exact zw_kex (hp2 _ _ _ _ _ _ (by decide) (zlw_530 hst hp2 ⟨hIm9, hRBNm9, hRC0m9, hRE115m9, hRE63m9, hRE89m9, hRG5m9, hRK10m9, hRK54m9, hRKNm9, hRLTm9, hRNSm9, hRRIm9, hRRUm9, hRSEm9, hRTEm9, hRUNm9, hRUWm9, hRWDm9, by omega, hSm9⟩ hi0 hi1 hn ih))
theorem zlw_556 {n : Nat} {K : Nat → Nat → Nat → List zu_v → List zu_v → zu_m → Prop} (hst : zt_HS n K) (hp2 : ∀ (cells slots pc : Nat) (i v : Int) (m : zu_m), pc ∈ [529, 552, 1012, 1023] → K cells slots (pc + 1) [(3, 1), (5, 3), (40, 190), (53, 233), (0, i), (2, 0), (2, 0)] [] m → K cells slots pc [(3, 1), (5, 3), (40, 190), (53, 233), (0, i), (2, 0), (2, 0)] [(1, v)] m) {cells slots : Nat} {i : Int} {m0 : zu_m} (hN : zt_INV m0) (hi0 : 0 ≤ i) (hi1 : i ≤ (n : Int) - 6) (hn : n ≤ 3072) (ih : ∀ m, zt_INV m → K cells slots 1453 [(3, 1), (5, 3), (40, 190), (53, 233), (0, i), (2, 0), (2, 0)] [] m) : K cells slots 556 [(3, 1), (5, 3), (40, 190), (53, 233), (0, i), (2, 0), (2, 0)] [] m0 := by
  refine hst cells slots [23, 208, 281, 306, 331, 356, 370, 396, 433, 470, 507, 529, 552, 556, 605, 618, 655, 680, 705, 730, 755, 792, 865, 902, 939, 964, 977, 1002, 1012, 1023, 1027, 1040, 1077, 1102, 1127, 1204, 1229, 1254, 1279, 1340, 1389, 1402, 1415, 1428, 1453] 400 556 _ _ _ ?_
  refine zw_eq (zlr_556 n _ _ i m0) ?_
  obtain ⟨hIm0, hRBNm0, hRC0m0, hRE115m0, hRE63m0, hRE89m0, hRG5m0, hRK10m0, hRK54m0, hRKNm0, hRLTm0, hRNSm0, hRRIm0, hRRUm0, hRSEm0, hRTEm0, hRUNm0, hRUWm0, hRWDm0, hT, hSm0⟩ := hN
  have hFm0 : zfr zt_Wl m0 m0 := zfr_rf _ _
  have r1 : 0 ≤ (m0 3 1) ∧ (m0 3 1) ≤ 700 := zi_rd hIm0 zq_3 zb_2_1
  have r2 : 0 ≤ (m0 190 1) ∧ (m0 190 1) ≤ 700 := zi_rd hIm0 zq_190 zb_28_1
  have w3 := zu_w32_id (z := i + 1) (by omega) (by omega)
  refine zw_if ⟨by omega, by omega⟩ ?_
  have r4 := hSm0 (zu_w32 (i + 1))
  have w5 := zu_w32_id (z := i + 2) (by omega) (by omega)
  refine zw_if ⟨by omega, by omega⟩ ?_
  have r6 := hSm0 (zu_w32 (i + 2))
  have w7 := zu_w32_id (z := i + 3) (by omega) (by omega)
  refine zw_if ⟨by omega, by omega⟩ ?_
  have r8 := hSm0 (zu_w32 (i + 3))
  refine zw_bd (zw_mono (zk_50 n hIm0 zq_3 ⟨by omega, by omega⟩ ⟨by omega, by omega⟩ ⟨by omega, by omega⟩ hRUNm0 hRUWm0) (fun v10 m9 hqm9 => ?_))
  obtain ⟨hIm9, hfm9, hvm9⟩ := hqm9
  have hFm9 := zfr_tr hFm0 hfm9 rfl
  obtain ⟨hRUNm9, hRUWm9, hvm9⟩ := hvm9
  have hRBNm9 := zR_BN_fr (zdis_fr hfm9 rfl) hRBNm0
  have hRC0m9 := zR_C0_fr (zdis_fr hfm9 rfl) hRC0m0
  have hRE115m9 := zR_E115_fr (zdis_fr hfm9 rfl) hRE115m0
  have hRE63m9 := zR_E63_fr (zdis_fr hfm9 rfl) hRE63m0
  have hRE89m9 := zR_E89_fr (zdis_fr hfm9 rfl) hRE89m0
  have hRG5m9 := zR_G5_fr (zdis_fr hfm9 rfl) hRG5m0
  have hRK10m9 := zR_K10_fr (zdis_fr hfm9 rfl) hRK10m0
  have hRK54m9 := zR_K54_fr (zdis_fr hfm9 rfl) hRK54m0
  have hRKNm9 := zR_KN_fr (zdis_fr hfm9 rfl) hRKNm0
  have hRLTm9 := zR_LT_fr (zdis_fr hfm9 rfl) hRLTm0
  have hRNSm9 := zR_NS_fr (zdis_fr hfm9 rfl) hRNSm0
  have hRRIm9 := zR_RI_fr (zdis_fr hfm9 rfl) hRRIm0
  have hRRUm9 := zR_RU_fr (zdis_fr hfm9 rfl) hRRUm0
  have hRSEm9 := zR_SE_fr (zdis_fr hfm9 rfl) hRSEm0
  have hRTEm9 := zR_TE_fr (zdis_fr hfm9 rfl) hRTEm0
  have hRWDm9 := zR_WD_fr (zdis_fr hfm9 rfl) hRWDm0
  have hSm9 := zt_Sf (W := []) (fun p => zfr_ap (p := p) hfm9 zq_1 rfl) hSm0
  refine zw_if ⟨by omega, by omega⟩ ?_
  have r11 := hSm9 (zu_w32 (i + 1))
  refine zw_if ⟨by omega, by omega⟩ ?_
  have r12 := hSm9 (zu_w32 (i + 2))
  refine zw_if ⟨by omega, by omega⟩ ?_
  have r13 := hSm9 (zu_w32 (i + 3))
  refine zw_bd (zw_mono (zk_148 n hIm9 zq_190 ⟨by omega, by omega⟩ ⟨by omega, by omega⟩ ⟨by omega, by omega⟩ hRRUm9 hRSEm9 hRTEm9) (fun v15 m14 hqm14 => ?_))
  obtain ⟨hIm14, hfm14, hvm14⟩ := hqm14
  have hFm14 := zfr_tr hFm9 hfm14 rfl
  obtain ⟨hRRUm14, hRSEm14, hRTEm14, hvm14⟩ := hvm14
  have hRBNm14 := zR_BN_fr (zdis_fr hfm14 rfl) hRBNm9
  have hRC0m14 := zR_C0_fr (zdis_fr hfm14 rfl) hRC0m9
  have hRE115m14 := zR_E115_fr (zdis_fr hfm14 rfl) hRE115m9
  have hRE63m14 := zR_E63_fr (zdis_fr hfm14 rfl) hRE63m9
  have hRE89m14 := zR_E89_fr (zdis_fr hfm14 rfl) hRE89m9
  have hRG5m14 := zR_G5_fr (zdis_fr hfm14 rfl) hRG5m9
  have hRK10m14 := zR_K10_fr (zdis_fr hfm14 rfl) hRK10m9
  have hRK54m14 := zR_K54_fr (zdis_fr hfm14 rfl) hRK54m9
  have hRKNm14 := zR_KN_fr (zdis_fr hfm14 rfl) hRKNm9
  have hRLTm14 := zR_LT_fr (zdis_fr hfm14 rfl) hRLTm9
  have hRNSm14 := zR_NS_fr (zdis_fr hfm14 rfl) hRNSm9
  have hRRIm14 := zR_RI_fr (zdis_fr hfm14 rfl) hRRIm9
  have hRUNm14 := zR_UN_fr (zdis_fr hfm14 rfl) hRUNm9
  have hRUWm14 := zR_UW_fr (zdis_fr hfm14 rfl) hRUWm9
  have hRWDm14 := zR_WD_fr (zdis_fr hfm14 rfl) hRWDm9
  have hSm14 := zt_Sf (W := []) (fun p => zfr_ap (p := p) hfm14 zq_1 rfl) hSm9
  have r16 : 0 ≤ (m14 3 1) ∧ (m14 3 1) ≤ 700 := zi_rd hIm14 zq_3 zb_2_1
  have e17 : (m14 3 1) = (m0 3 1) := (Eq.trans (zfr_ap hfm14 zq_3 rfl) (zfr_ap hfm9 zq_3 rfl))
  have r18 : 0 ≤ (m14 190 1) ∧ (m14 190 1) ≤ 700 := zi_rd hIm14 zq_190 zb_28_1
  have e19 : (m14 190 1) = (m0 190 1) := (Eq.trans (zfr_ap hfm14 zq_190 rfl) (zfr_ap hfm9 zq_190 rfl))
  exact zw_kex (ih _ ⟨hIm14, hRBNm14, hRC0m14, hRE115m14, hRE63m14, hRE89m14, hRG5m14, hRK10m14, hRK54m14, hRKNm14, hRLTm14, hRNSm14, hRRIm14, hRRUm14, hRSEm14, hRTEm14, hRUNm14, hRUWm14, hRWDm14, by omega, hSm14⟩)
theorem zlw_605 {n : Nat} {K : Nat → Nat → Nat → List zu_v → List zu_v → zu_m → Prop} (hst : zt_HS n K) (hp2 : ∀ (cells slots pc : Nat) (i v : Int) (m : zu_m), pc ∈ [529, 552, 1012, 1023] → K cells slots (pc + 1) [(3, 1), (5, 3), (40, 190), (53, 233), (0, i), (2, 0), (2, 0)] [] m → K cells slots pc [(3, 1), (5, 3), (40, 190), (53, 233), (0, i), (2, 0), (2, 0)] [(1, v)] m) {cells slots : Nat} {i : Int} {m0 : zu_m} (hN : zt_INV m0) (hi0 : 0 ≤ i) (hi1 : i ≤ (n : Int) - 6) (hn : n ≤ 3072) (ih : ∀ m, zt_INV m → K cells slots 1453 [(3, 1), (5, 3), (40, 190), (53, 233), (0, i), (2, 0), (2, 0)] [] m) : K cells slots 605 [(3, 1), (5, 3), (40, 190), (53, 233), (0, i), (2, 0), (2, 0)] [] m0 := by
  refine hst cells slots [23, 208, 281, 306, 331, 356, 370, 396, 433, 470, 507, 529, 552, 556, 605, 618, 655, 680, 705, 730, 755, 792, 865, 902, 939, 964, 977, 1002, 1012, 1023, 1027, 1040, 1077, 1102, 1127, 1204, 1229, 1254, 1279, 1340, 1389, 1402, 1415, 1428, 1453] 400 605 _ _ _ ?_
  refine zw_eq (zlr_605 n _ _ i m0) ?_
  obtain ⟨hIm0, hRBNm0, hRC0m0, hRE115m0, hRE63m0, hRE89m0, hRG5m0, hRK10m0, hRK54m0, hRKNm0, hRLTm0, hRNSm0, hRRIm0, hRRUm0, hRSEm0, hRTEm0, hRUNm0, hRUWm0, hRWDm0, hT, hSm0⟩ := hN
  have hFm0 : zfr zt_Wl m0 m0 := zfr_rf _ _
  have r1 : 0 ≤ (m0 3 1) ∧ (m0 3 1) ≤ 700 := zi_rd hIm0 zq_3 zb_2_1
  have r2 : 0 ≤ (m0 190 1) ∧ (m0 190 1) ≤ 700 := zi_rd hIm0 zq_190 zb_28_1
  refine zw_bd (zw_mono (zk_54 n hIm0 zq_3 hRUNm0 hRUWm0) (fun v4 m3 hqm3 => ?_))
  obtain ⟨hIm3, hfm3, hvm3⟩ := hqm3
  have hFm3 := zfr_tr hFm0 hfm3 rfl
  obtain ⟨hRUNm3, hRUWm3, hvm3⟩ := hvm3
  have hRBNm3 := zR_BN_fr (zdis_fr hfm3 rfl) hRBNm0
  have hRC0m3 := zR_C0_fr (zdis_fr hfm3 rfl) hRC0m0
  have hRE115m3 := zR_E115_fr (zdis_fr hfm3 rfl) hRE115m0
  have hRE63m3 := zR_E63_fr (zdis_fr hfm3 rfl) hRE63m0
  have hRE89m3 := zR_E89_fr (zdis_fr hfm3 rfl) hRE89m0
  have hRG5m3 := zR_G5_fr (zdis_fr hfm3 rfl) hRG5m0
  have hRK10m3 := zR_K10_fr (zdis_fr hfm3 rfl) hRK10m0
  have hRK54m3 := zR_K54_fr (zdis_fr hfm3 rfl) hRK54m0
  have hRKNm3 := zR_KN_fr (zdis_fr hfm3 rfl) hRKNm0
  have hRLTm3 := zR_LT_fr (zdis_fr hfm3 rfl) hRLTm0
  have hRNSm3 := zR_NS_fr (zdis_fr hfm3 rfl) hRNSm0
  have hRRIm3 := zR_RI_fr (zdis_fr hfm3 rfl) hRRIm0
  have hRRUm3 := zR_RU_fr (zdis_fr hfm3 rfl) hRRUm0
  have hRSEm3 := zR_SE_fr (zdis_fr hfm3 rfl) hRSEm0
  have hRTEm3 := zR_TE_fr (zdis_fr hfm3 rfl) hRTEm0
  have hRWDm3 := zR_WD_fr (zdis_fr hfm3 rfl) hRWDm0
  have hSm3 := zt_Sf (W := []) (fun p => zfr_ap (p := p) hfm3 zq_1 rfl) hSm0
  refine zw_bd (zw_mono (zk_150 n hIm3 zq_190 hRRUm3 hRSEm3 hRTEm3) (fun v6 m5 hqm5 => ?_))
  obtain ⟨hIm5, hfm5, hvm5⟩ := hqm5
  have hFm5 := zfr_tr hFm3 hfm5 rfl
  obtain ⟨hRRUm5, hRSEm5, hRTEm5, hvm5⟩ := hvm5
  have hRBNm5 := zR_BN_fr (zdis_fr hfm5 rfl) hRBNm3
  have hRC0m5 := zR_C0_fr (zdis_fr hfm5 rfl) hRC0m3
  have hRE115m5 := zR_E115_fr (zdis_fr hfm5 rfl) hRE115m3
  have hRE63m5 := zR_E63_fr (zdis_fr hfm5 rfl) hRE63m3
  have hRE89m5 := zR_E89_fr (zdis_fr hfm5 rfl) hRE89m3
  have hRG5m5 := zR_G5_fr (zdis_fr hfm5 rfl) hRG5m3
  have hRK10m5 := zR_K10_fr (zdis_fr hfm5 rfl) hRK10m3
  have hRK54m5 := zR_K54_fr (zdis_fr hfm5 rfl) hRK54m3
  have hRKNm5 := zR_KN_fr (zdis_fr hfm5 rfl) hRKNm3
  have hRLTm5 := zR_LT_fr (zdis_fr hfm5 rfl) hRLTm3
  have hRNSm5 := zR_NS_fr (zdis_fr hfm5 rfl) hRNSm3
  have hRRIm5 := zR_RI_fr (zdis_fr hfm5 rfl) hRRIm3
  have hRUNm5 := zR_UN_fr (zdis_fr hfm5 rfl) hRUNm3
  have hRUWm5 := zR_UW_fr (zdis_fr hfm5 rfl) hRUWm3
  have hRWDm5 := zR_WD_fr (zdis_fr hfm5 rfl) hRWDm3
  have hSm5 := zt_Sf (W := []) (fun p => zfr_ap (p := p) hfm5 zq_1 rfl) hSm3
  have r7 : 0 ≤ (m5 3 1) ∧ (m5 3 1) ≤ 700 := zi_rd hIm5 zq_3 zb_2_1
  have e8 : (m5 3 1) = (m0 3 1) := (Eq.trans (zfr_ap hfm5 zq_3 rfl) (zfr_ap hfm3 zq_3 rfl))
  have r9 : 0 ≤ (m5 190 1) ∧ (m5 190 1) ≤ 700 := zi_rd hIm5 zq_190 zb_28_1
  have e10 : (m5 190 1) = (m0 190 1) := (Eq.trans (zfr_ap hfm5 zq_190 rfl) (zfr_ap hfm3 zq_190 rfl))
  exact zw_kex (ih _ ⟨hIm5, hRBNm5, hRC0m5, hRE115m5, hRE63m5, hRE89m5, hRG5m5, hRK10m5, hRK54m5, hRKNm5, hRLTm5, hRNSm5, hRRIm5, hRRUm5, hRSEm5, hRTEm5, hRUNm5, hRUWm5, hRWDm5, by omega, hSm5⟩)
theorem zlw_618 {n : Nat} {K : Nat → Nat → Nat → List zu_v → List zu_v → zu_m → Prop} (hst : zt_HS n K) (hp2 : ∀ (cells slots pc : Nat) (i v : Int) (m : zu_m), pc ∈ [529, 552, 1012, 1023] → K cells slots (pc + 1) [(3, 1), (5, 3), (40, 190), (53, 233), (0, i), (2, 0), (2, 0)] [] m → K cells slots pc [(3, 1), (5, 3), (40, 190), (53, 233), (0, i), (2, 0), (2, 0)] [(1, v)] m) {cells slots : Nat} {i : Int} {m0 : zu_m} (hN : zt_INV m0) (hi0 : 0 ≤ i) (hi1 : i ≤ (n : Int) - 6) (hn : n ≤ 3072) (ih : ∀ m, zt_INV m → K cells slots 1453 [(3, 1), (5, 3), (40, 190), (53, 233), (0, i), (2, 0), (2, 0)] [] m) : K cells slots 618 [(3, 1), (5, 3), (40, 190), (53, 233), (0, i), (2, 0), (2, 0)] [] m0 := by
  refine hst cells slots [23, 208, 281, 306, 331, 356, 370, 396, 433, 470, 507, 529, 552, 556, 605, 618, 655, 680, 705, 730, 755, 792, 865, 902, 939, 964, 977, 1002, 1012, 1023, 1027, 1040, 1077, 1102, 1127, 1204, 1229, 1254, 1279, 1340, 1389, 1402, 1415, 1428, 1453] 400 618 _ _ _ ?_
  refine zw_eq (zlr_618 n _ _ i m0) ?_
  obtain ⟨hIm0, hRBNm0, hRC0m0, hRE115m0, hRE63m0, hRE89m0, hRG5m0, hRK10m0, hRK54m0, hRKNm0, hRLTm0, hRNSm0, hRRIm0, hRRUm0, hRSEm0, hRTEm0, hRUNm0, hRUWm0, hRWDm0, hT, hSm0⟩ := hN
  have hFm0 : zfr zt_Wl m0 m0 := zfr_rf _ _
  have r1 : 0 ≤ (m0 3 1) ∧ (m0 3 1) ≤ 700 := zi_rd hIm0 zq_3 zb_2_1
  have r2 : 0 ≤ (m0 190 1) ∧ (m0 190 1) ≤ 700 := zi_rd hIm0 zq_190 zb_28_1
  have w3 := zu_w32_id (z := i + 1) (by omega) (by omega)
  refine zw_if ⟨by omega, by omega⟩ ?_
  have r4 := hSm0 (zu_w32 (i + 1))
  have w5 := zu_w32_id (z := i + 2) (by omega) (by omega)
  refine zw_if ⟨by omega, by omega⟩ ?_
  have r6 := hSm0 (zu_w32 (i + 2))
  refine zw_bd (zw_mono (zk_55 n hIm0 zq_3 ⟨by omega, by omega⟩ ⟨by omega, by omega⟩ hRE89m0 hRUNm0 hRUWm0) (fun v8 m7 hqm7 => ?_))
  obtain ⟨hIm7, hfm7, hvm7⟩ := hqm7
  have hFm7 := zfr_tr hFm0 hfm7 rfl
  obtain ⟨hRE89m7, hRUNm7, hRUWm7, hvm7⟩ := hvm7
  have hRBNm7 := zR_BN_fr (zdis_fr hfm7 rfl) hRBNm0
  have hRC0m7 := zR_C0_fr (zdis_fr hfm7 rfl) hRC0m0
  have hRE115m7 := zR_E115_fr (zdis_fr hfm7 rfl) hRE115m0
  have hRE63m7 := zR_E63_fr (zdis_fr hfm7 rfl) hRE63m0
  have hRG5m7 := zR_G5_fr (zdis_fr hfm7 rfl) hRG5m0
  have hRK10m7 := zR_K10_fr (zdis_fr hfm7 rfl) hRK10m0
  have hRK54m7 := zR_K54_fr (zdis_fr hfm7 rfl) hRK54m0
  have hRKNm7 := zR_KN_fr (zdis_fr hfm7 rfl) hRKNm0
  have hRLTm7 := zR_LT_fr (zdis_fr hfm7 rfl) hRLTm0
  have hRNSm7 := zR_NS_fr (zdis_fr hfm7 rfl) hRNSm0
  have hRRIm7 := zR_RI_fr (zdis_fr hfm7 rfl) hRRIm0
  have hRRUm7 := zR_RU_fr (zdis_fr hfm7 rfl) hRRUm0
  have hRSEm7 := zR_SE_fr (zdis_fr hfm7 rfl) hRSEm0
  have hRTEm7 := zR_TE_fr (zdis_fr hfm7 rfl) hRTEm0
  have hRWDm7 := zR_WD_fr (zdis_fr hfm7 rfl) hRWDm0
  have hSm7 := zt_Sf (W := []) (fun p => zfr_ap (p := p) hfm7 zq_1 rfl) hSm0
  refine zw_if ⟨by omega, by omega⟩ ?_
  have r9 := hSm7 (zu_w32 (i + 1))
  refine zw_if ⟨by omega, by omega⟩ ?_
  have r10 := hSm7 (zu_w32 (i + 2))
  refine zw_bd (zw_mono (zk_151 n hIm7 zq_190 ⟨by omega, by omega⟩ ⟨by omega, by omega⟩ hRRUm7 hRSEm7 hRTEm7) (fun v12 m11 hqm11 => ?_))
  obtain ⟨hIm11, hfm11, hvm11⟩ := hqm11
  have hFm11 := zfr_tr hFm7 hfm11 rfl
  obtain ⟨hRRUm11, hRSEm11, hRTEm11, hvm11⟩ := hvm11
  have hRBNm11 := zR_BN_fr (zdis_fr hfm11 rfl) hRBNm7
  have hRC0m11 := zR_C0_fr (zdis_fr hfm11 rfl) hRC0m7
  have hRE115m11 := zR_E115_fr (zdis_fr hfm11 rfl) hRE115m7
  have hRE63m11 := zR_E63_fr (zdis_fr hfm11 rfl) hRE63m7
  have hRE89m11 := zR_E89_fr (zdis_fr hfm11 rfl) hRE89m7
  have hRG5m11 := zR_G5_fr (zdis_fr hfm11 rfl) hRG5m7
  have hRK10m11 := zR_K10_fr (zdis_fr hfm11 rfl) hRK10m7
  have hRK54m11 := zR_K54_fr (zdis_fr hfm11 rfl) hRK54m7
  have hRKNm11 := zR_KN_fr (zdis_fr hfm11 rfl) hRKNm7
  have hRLTm11 := zR_LT_fr (zdis_fr hfm11 rfl) hRLTm7
  have hRNSm11 := zR_NS_fr (zdis_fr hfm11 rfl) hRNSm7
  have hRRIm11 := zR_RI_fr (zdis_fr hfm11 rfl) hRRIm7
  have hRUNm11 := zR_UN_fr (zdis_fr hfm11 rfl) hRUNm7
  have hRUWm11 := zR_UW_fr (zdis_fr hfm11 rfl) hRUWm7
  have hRWDm11 := zR_WD_fr (zdis_fr hfm11 rfl) hRWDm7
  have hSm11 := zt_Sf (W := []) (fun p => zfr_ap (p := p) hfm11 zq_1 rfl) hSm7
  have r13 : 0 ≤ (m11 3 1) ∧ (m11 3 1) ≤ 700 := zi_rd hIm11 zq_3 zb_2_1
  have e14 : (m11 3 1) = (m0 3 1) := (Eq.trans (zfr_ap hfm11 zq_3 rfl) (zfr_ap hfm7 zq_3 rfl))
  have r15 : 0 ≤ (m11 190 1) ∧ (m11 190 1) ≤ 700 := zi_rd hIm11 zq_190 zb_28_1
  have e16 : (m11 190 1) = (m0 190 1) := (Eq.trans (zfr_ap hfm11 zq_190 rfl) (zfr_ap hfm7 zq_190 rfl))
  exact zw_kex (ih _ ⟨hIm11, hRBNm11, hRC0m11, hRE115m11, hRE63m11, hRE89m11, hRG5m11, hRK10m11, hRK54m11, hRKNm11, hRLTm11, hRNSm11, hRRIm11, hRRUm11, hRSEm11, hRTEm11, hRUNm11, hRUWm11, hRWDm11, by omega, hSm11⟩)
theorem zlw_655 {n : Nat} {K : Nat → Nat → Nat → List zu_v → List zu_v → zu_m → Prop} (hst : zt_HS n K) (hp2 : ∀ (cells slots pc : Nat) (i v : Int) (m : zu_m), pc ∈ [529, 552, 1012, 1023] → K cells slots (pc + 1) [(3, 1), (5, 3), (40, 190), (53, 233), (0, i), (2, 0), (2, 0)] [] m → K cells slots pc [(3, 1), (5, 3), (40, 190), (53, 233), (0, i), (2, 0), (2, 0)] [(1, v)] m) {cells slots : Nat} {i : Int} {m0 : zu_m} (hN : zt_INV m0) (hi0 : 0 ≤ i) (hi1 : i ≤ (n : Int) - 6) (hn : n ≤ 3072) (ih : ∀ m, zt_INV m → K cells slots 1453 [(3, 1), (5, 3), (40, 190), (53, 233), (0, i), (2, 0), (2, 0)] [] m) : K cells slots 655 [(3, 1), (5, 3), (40, 190), (53, 233), (0, i), (2, 0), (2, 0)] [] m0 := by
  refine hst cells slots [23, 208, 281, 306, 331, 356, 370, 396, 433, 470, 507, 529, 552, 556, 605, 618, 655, 680, 705, 730, 755, 792, 865, 902, 939, 964, 977, 1002, 1012, 1023, 1027, 1040, 1077, 1102, 1127, 1204, 1229, 1254, 1279, 1340, 1389, 1402, 1415, 1428, 1453] 400 655 _ _ _ ?_
  refine zw_eq (zlr_655 n _ _ i m0) ?_
  obtain ⟨hIm0, hRBNm0, hRC0m0, hRE115m0, hRE63m0, hRE89m0, hRG5m0, hRK10m0, hRK54m0, hRKNm0, hRLTm0, hRNSm0, hRRIm0, hRRUm0, hRSEm0, hRTEm0, hRUNm0, hRUWm0, hRWDm0, hT, hSm0⟩ := hN
  have hFm0 : zfr zt_Wl m0 m0 := zfr_rf _ _
  have r1 : 0 ≤ (m0 3 1) ∧ (m0 3 1) ≤ 700 := zi_rd hIm0 zq_3 zb_2_1
  have r2 : 0 ≤ (m0 190 1) ∧ (m0 190 1) ≤ 700 := zi_rd hIm0 zq_190 zb_28_1
  have w3 := zu_w32_id (z := i + 1) (by omega) (by omega)
  refine zw_if ⟨by omega, by omega⟩ ?_
  have r4 := hSm0 (zu_w32 (i + 1))
  refine zw_bd (zw_mono (zk_56 n hIm0 zq_3 ⟨by omega, by omega⟩ hRUNm0 hRUWm0) (fun v6 m5 hqm5 => ?_))
  obtain ⟨hIm5, hfm5, hvm5⟩ := hqm5
  have hFm5 := zfr_tr hFm0 hfm5 rfl
  obtain ⟨hRUNm5, hRUWm5, hvm5⟩ := hvm5
  have hRBNm5 := zR_BN_fr (zdis_fr hfm5 rfl) hRBNm0
  have hRC0m5 := zR_C0_fr (zdis_fr hfm5 rfl) hRC0m0
  have hRE115m5 := zR_E115_fr (zdis_fr hfm5 rfl) hRE115m0
  have hRE63m5 := zR_E63_fr (zdis_fr hfm5 rfl) hRE63m0
  have hRE89m5 := zR_E89_fr (zdis_fr hfm5 rfl) hRE89m0
  have hRG5m5 := zR_G5_fr (zdis_fr hfm5 rfl) hRG5m0
  have hRK10m5 := zR_K10_fr (zdis_fr hfm5 rfl) hRK10m0
  have hRK54m5 := zR_K54_fr (zdis_fr hfm5 rfl) hRK54m0
  have hRKNm5 := zR_KN_fr (zdis_fr hfm5 rfl) hRKNm0
  have hRLTm5 := zR_LT_fr (zdis_fr hfm5 rfl) hRLTm0
  have hRNSm5 := zR_NS_fr (zdis_fr hfm5 rfl) hRNSm0
  have hRRIm5 := zR_RI_fr (zdis_fr hfm5 rfl) hRRIm0
  have hRRUm5 := zR_RU_fr (zdis_fr hfm5 rfl) hRRUm0
  have hRSEm5 := zR_SE_fr (zdis_fr hfm5 rfl) hRSEm0
  have hRTEm5 := zR_TE_fr (zdis_fr hfm5 rfl) hRTEm0
  have hRWDm5 := zR_WD_fr (zdis_fr hfm5 rfl) hRWDm0
  have hSm5 := zt_Sf (W := []) (fun p => zfr_ap (p := p) hfm5 zq_1 rfl) hSm0
  refine zw_if ⟨by omega, by omega⟩ ?_
  have r7 := hSm5 (zu_w32 (i + 1))
  refine zw_bd (zw_mono (zk_152 n hIm5 zq_190 ⟨by omega, by omega⟩ hRRUm5 hRSEm5 hRTEm5) (fun v9 m8 hqm8 => ?_))
  obtain ⟨hIm8, hfm8, hvm8⟩ := hqm8
  have hFm8 := zfr_tr hFm5 hfm8 rfl
  obtain ⟨hRRUm8, hRSEm8, hRTEm8, hvm8⟩ := hvm8
  have hRBNm8 := zR_BN_fr (zdis_fr hfm8 rfl) hRBNm5
  have hRC0m8 := zR_C0_fr (zdis_fr hfm8 rfl) hRC0m5
  have hRE115m8 := zR_E115_fr (zdis_fr hfm8 rfl) hRE115m5
  have hRE63m8 := zR_E63_fr (zdis_fr hfm8 rfl) hRE63m5
  have hRE89m8 := zR_E89_fr (zdis_fr hfm8 rfl) hRE89m5
  have hRG5m8 := zR_G5_fr (zdis_fr hfm8 rfl) hRG5m5
  have hRK10m8 := zR_K10_fr (zdis_fr hfm8 rfl) hRK10m5
  have hRK54m8 := zR_K54_fr (zdis_fr hfm8 rfl) hRK54m5
  have hRKNm8 := zR_KN_fr (zdis_fr hfm8 rfl) hRKNm5
  have hRLTm8 := zR_LT_fr (zdis_fr hfm8 rfl) hRLTm5
  have hRNSm8 := zR_NS_fr (zdis_fr hfm8 rfl) hRNSm5
  have hRRIm8 := zR_RI_fr (zdis_fr hfm8 rfl) hRRIm5
  have hRUNm8 := zR_UN_fr (zdis_fr hfm8 rfl) hRUNm5
  have hRUWm8 := zR_UW_fr (zdis_fr hfm8 rfl) hRUWm5
  have hRWDm8 := zR_WD_fr (zdis_fr hfm8 rfl) hRWDm5
  have hSm8 := zt_Sf (W := []) (fun p => zfr_ap (p := p) hfm8 zq_1 rfl) hSm5
  have r10 : 0 ≤ (m8 3 1) ∧ (m8 3 1) ≤ 700 := zi_rd hIm8 zq_3 zb_2_1
  have e11 : (m8 3 1) = (m0 3 1) := (Eq.trans (zfr_ap hfm8 zq_3 rfl) (zfr_ap hfm5 zq_3 rfl))
  have r12 : 0 ≤ (m8 190 1) ∧ (m8 190 1) ≤ 700 := zi_rd hIm8 zq_190 zb_28_1
  have e13 : (m8 190 1) = (m0 190 1) := (Eq.trans (zfr_ap hfm8 zq_190 rfl) (zfr_ap hfm5 zq_190 rfl))
  exact zw_kex (ih _ ⟨hIm8, hRBNm8, hRC0m8, hRE115m8, hRE63m8, hRE89m8, hRG5m8, hRK10m8, hRK54m8, hRKNm8, hRLTm8, hRNSm8, hRRIm8, hRRUm8, hRSEm8, hRTEm8, hRUNm8, hRUWm8, hRWDm8, by omega, hSm8⟩)
theorem zlw_680 {n : Nat} {K : Nat → Nat → Nat → List zu_v → List zu_v → zu_m → Prop} (hst : zt_HS n K) (hp2 : ∀ (cells slots pc : Nat) (i v : Int) (m : zu_m), pc ∈ [529, 552, 1012, 1023] → K cells slots (pc + 1) [(3, 1), (5, 3), (40, 190), (53, 233), (0, i), (2, 0), (2, 0)] [] m → K cells slots pc [(3, 1), (5, 3), (40, 190), (53, 233), (0, i), (2, 0), (2, 0)] [(1, v)] m) {cells slots : Nat} {i : Int} {m0 : zu_m} (hN : zt_INV m0) (hi0 : 0 ≤ i) (hi1 : i ≤ (n : Int) - 6) (hn : n ≤ 3072) (ih : ∀ m, zt_INV m → K cells slots 1453 [(3, 1), (5, 3), (40, 190), (53, 233), (0, i), (2, 0), (2, 0)] [] m) : K cells slots 680 [(3, 1), (5, 3), (40, 190), (53, 233), (0, i), (2, 0), (2, 0)] [] m0 := by
  refine hst cells slots [23, 208, 281, 306, 331, 356, 370, 396, 433, 470, 507, 529, 552, 556, 605, 618, 655, 680, 705, 730, 755, 792, 865, 902, 939, 964, 977, 1002, 1012, 1023, 1027, 1040, 1077, 1102, 1127, 1204, 1229, 1254, 1279, 1340, 1389, 1402, 1415, 1428, 1453] 400 680 _ _ _ ?_
  refine zw_eq (zlr_680 n _ _ i m0) ?_
  obtain ⟨hIm0, hRBNm0, hRC0m0, hRE115m0, hRE63m0, hRE89m0, hRG5m0, hRK10m0, hRK54m0, hRKNm0, hRLTm0, hRNSm0, hRRIm0, hRRUm0, hRSEm0, hRTEm0, hRUNm0, hRUWm0, hRWDm0, hT, hSm0⟩ := hN
  have hFm0 : zfr zt_Wl m0 m0 := zfr_rf _ _
  have r1 : 0 ≤ (m0 3 1) ∧ (m0 3 1) ≤ 700 := zi_rd hIm0 zq_3 zb_2_1
  have r2 : 0 ≤ (m0 190 1) ∧ (m0 190 1) ≤ 700 := zi_rd hIm0 zq_190 zb_28_1
  have w3 := zu_w32_id (z := i + 1) (by omega) (by omega)
  refine zw_if ⟨by omega, by omega⟩ ?_
  have r4 := hSm0 (zu_w32 (i + 1))
  refine zw_bd (zw_mono (zk_57 n hIm0 zq_3 ⟨by omega, by omega⟩ hRE89m0 hRG5m0 hRK54m0 hRUNm0 hRUWm0) (fun v6 m5 hqm5 => ?_))
  obtain ⟨hIm5, hfm5, hvm5⟩ := hqm5
  have hFm5 := zfr_tr hFm0 hfm5 rfl
  obtain ⟨hRE89m5, hRG5m5, hRK54m5, hRUNm5, hRUWm5, hvm5⟩ := hvm5
  have hRBNm5 := zR_BN_fr (zdis_fr hfm5 rfl) hRBNm0
  have hRC0m5 := zR_C0_fr (zdis_fr hfm5 rfl) hRC0m0
  have hRE115m5 := zR_E115_fr (zdis_fr hfm5 rfl) hRE115m0
  have hRE63m5 := zR_E63_fr (zdis_fr hfm5 rfl) hRE63m0
  have hRK10m5 := zR_K10_fr (zdis_fr hfm5 rfl) hRK10m0
  have hRKNm5 := zR_KN_fr (zdis_fr hfm5 rfl) hRKNm0
  have hRLTm5 := zR_LT_fr (zdis_fr hfm5 rfl) hRLTm0
  have hRNSm5 := zR_NS_fr (zdis_fr hfm5 rfl) hRNSm0
  have hRRIm5 := zR_RI_fr (zdis_fr hfm5 rfl) hRRIm0
  have hRRUm5 := zR_RU_fr (zdis_fr hfm5 rfl) hRRUm0
  have hRSEm5 := zR_SE_fr (zdis_fr hfm5 rfl) hRSEm0
  have hRTEm5 := zR_TE_fr (zdis_fr hfm5 rfl) hRTEm0
  have hRWDm5 := zR_WD_fr (zdis_fr hfm5 rfl) hRWDm0
  have hSm5 := zt_Sf (W := []) (fun p => zfr_ap (p := p) hfm5 zq_1 rfl) hSm0
  refine zw_if ⟨by omega, by omega⟩ ?_
  have r7 := hSm5 (zu_w32 (i + 1))
  refine zw_bd (zw_mono (zk_153 n hIm5 zq_190 ⟨by omega, by omega⟩ hRKNm5 hRLTm5 hRRUm5 hRSEm5) (fun v9 m8 hqm8 => ?_))
  obtain ⟨hIm8, hfm8, hvm8⟩ := hqm8
  have hFm8 := zfr_tr hFm5 hfm8 rfl
  obtain ⟨hRKNm8, hRLTm8, hRRUm8, hRSEm8, hvm8⟩ := hvm8
  have hRBNm8 := zR_BN_fr (zdis_fr hfm8 rfl) hRBNm5
  have hRC0m8 := zR_C0_fr (zdis_fr hfm8 rfl) hRC0m5
  have hRE115m8 := zR_E115_fr (zdis_fr hfm8 rfl) hRE115m5
  have hRE63m8 := zR_E63_fr (zdis_fr hfm8 rfl) hRE63m5
  have hRE89m8 := zR_E89_fr (zdis_fr hfm8 rfl) hRE89m5
  have hRG5m8 := zR_G5_fr (zdis_fr hfm8 rfl) hRG5m5
  have hRK10m8 := zR_K10_fr (zdis_fr hfm8 rfl) hRK10m5
  have hRK54m8 := zR_K54_fr (zdis_fr hfm8 rfl) hRK54m5
  have hRNSm8 := zR_NS_fr (zdis_fr hfm8 rfl) hRNSm5
  have hRRIm8 := zR_RI_fr (zdis_fr hfm8 rfl) hRRIm5
  have hRTEm8 := zR_TE_fr (zdis_fr hfm8 rfl) hRTEm5
  have hRUNm8 := zR_UN_fr (zdis_fr hfm8 rfl) hRUNm5
  have hRUWm8 := zR_UW_fr (zdis_fr hfm8 rfl) hRUWm5
  have hRWDm8 := zR_WD_fr (zdis_fr hfm8 rfl) hRWDm5
  have hSm8 := zt_Sf (W := []) (fun p => zfr_ap (p := p) hfm8 zq_1 rfl) hSm5
  have r10 : 0 ≤ (m8 3 1) ∧ (m8 3 1) ≤ 700 := zi_rd hIm8 zq_3 zb_2_1
  have e11 : (m8 3 1) = (m0 3 1) := (Eq.trans (zfr_ap hfm8 zq_3 rfl) (zfr_ap hfm5 zq_3 rfl))
  have r12 : 0 ≤ (m8 190 1) ∧ (m8 190 1) ≤ 700 := zi_rd hIm8 zq_190 zb_28_1
  have e13 : (m8 190 1) = (m0 190 1) := (Eq.trans (zfr_ap hfm8 zq_190 rfl) (zfr_ap hfm5 zq_190 rfl))
  exact zw_kex (ih _ ⟨hIm8, hRBNm8, hRC0m8, hRE115m8, hRE63m8, hRE89m8, hRG5m8, hRK10m8, hRK54m8, hRKNm8, hRLTm8, hRNSm8, hRRIm8, hRRUm8, hRSEm8, hRTEm8, hRUNm8, hRUWm8, hRWDm8, by omega, hSm8⟩)
theorem zlw_705 {n : Nat} {K : Nat → Nat → Nat → List zu_v → List zu_v → zu_m → Prop} (hst : zt_HS n K) (hp2 : ∀ (cells slots pc : Nat) (i v : Int) (m : zu_m), pc ∈ [529, 552, 1012, 1023] → K cells slots (pc + 1) [(3, 1), (5, 3), (40, 190), (53, 233), (0, i), (2, 0), (2, 0)] [] m → K cells slots pc [(3, 1), (5, 3), (40, 190), (53, 233), (0, i), (2, 0), (2, 0)] [(1, v)] m) {cells slots : Nat} {i : Int} {m0 : zu_m} (hN : zt_INV m0) (hi0 : 0 ≤ i) (hi1 : i ≤ (n : Int) - 6) (hn : n ≤ 3072) (ih : ∀ m, zt_INV m → K cells slots 1453 [(3, 1), (5, 3), (40, 190), (53, 233), (0, i), (2, 0), (2, 0)] [] m) : K cells slots 705 [(3, 1), (5, 3), (40, 190), (53, 233), (0, i), (2, 0), (2, 0)] [] m0 := by
  refine hst cells slots [23, 208, 281, 306, 331, 356, 370, 396, 433, 470, 507, 529, 552, 556, 605, 618, 655, 680, 705, 730, 755, 792, 865, 902, 939, 964, 977, 1002, 1012, 1023, 1027, 1040, 1077, 1102, 1127, 1204, 1229, 1254, 1279, 1340, 1389, 1402, 1415, 1428, 1453] 400 705 _ _ _ ?_
  refine zw_eq (zlr_705 n _ _ i m0) ?_
  obtain ⟨hIm0, hRBNm0, hRC0m0, hRE115m0, hRE63m0, hRE89m0, hRG5m0, hRK10m0, hRK54m0, hRKNm0, hRLTm0, hRNSm0, hRRIm0, hRRUm0, hRSEm0, hRTEm0, hRUNm0, hRUWm0, hRWDm0, hT, hSm0⟩ := hN
  have hFm0 : zfr zt_Wl m0 m0 := zfr_rf _ _
  have r1 : 0 ≤ (m0 3 1) ∧ (m0 3 1) ≤ 700 := zi_rd hIm0 zq_3 zb_2_1
  have r2 : 0 ≤ (m0 190 1) ∧ (m0 190 1) ≤ 700 := zi_rd hIm0 zq_190 zb_28_1
  have w3 := zu_w32_id (z := i + 1) (by omega) (by omega)
  refine zw_if ⟨by omega, by omega⟩ ?_
  have r4 := hSm0 (zu_w32 (i + 1))
  refine zw_bd (zw_mono (zk_58 n hIm0 zq_3 ⟨by omega, by omega⟩) (fun v6 m5 hqm5 => ?_))
  obtain ⟨hIm5, hfm5, hvm5⟩ := hqm5
  have hFm5 := zfr_tr hFm0 hfm5 rfl
  have hRBNm5 := zR_BN_fr (zdis_fr hfm5 rfl) hRBNm0
  have hRC0m5 := zR_C0_fr (zdis_fr hfm5 rfl) hRC0m0
  have hRE115m5 := zR_E115_fr (zdis_fr hfm5 rfl) hRE115m0
  have hRE63m5 := zR_E63_fr (zdis_fr hfm5 rfl) hRE63m0
  have hRE89m5 := zR_E89_fr (zdis_fr hfm5 rfl) hRE89m0
  have hRG5m5 := zR_G5_fr (zdis_fr hfm5 rfl) hRG5m0
  have hRK10m5 := zR_K10_fr (zdis_fr hfm5 rfl) hRK10m0
  have hRK54m5 := zR_K54_fr (zdis_fr hfm5 rfl) hRK54m0
  have hRKNm5 := zR_KN_fr (zdis_fr hfm5 rfl) hRKNm0
  have hRLTm5 := zR_LT_fr (zdis_fr hfm5 rfl) hRLTm0
  have hRNSm5 := zR_NS_fr (zdis_fr hfm5 rfl) hRNSm0
  have hRRIm5 := zR_RI_fr (zdis_fr hfm5 rfl) hRRIm0
  have hRRUm5 := zR_RU_fr (zdis_fr hfm5 rfl) hRRUm0
  have hRSEm5 := zR_SE_fr (zdis_fr hfm5 rfl) hRSEm0
  have hRTEm5 := zR_TE_fr (zdis_fr hfm5 rfl) hRTEm0
  have hRUNm5 := zR_UN_fr (zdis_fr hfm5 rfl) hRUNm0
  have hRUWm5 := zR_UW_fr (zdis_fr hfm5 rfl) hRUWm0
  have hRWDm5 := zR_WD_fr (zdis_fr hfm5 rfl) hRWDm0
  have hSm5 := zt_Sf (W := []) (fun p => zfr_ap (p := p) hfm5 zq_1 rfl) hSm0
  refine zw_if ⟨by omega, by omega⟩ ?_
  have r7 := hSm5 (zu_w32 (i + 1))
  refine zw_bd (zw_mono (zk_154 n hIm5 zq_190 ⟨by omega, by omega⟩) (fun v9 m8 hqm8 => ?_))
  obtain ⟨hIm8, hfm8, hvm8⟩ := hqm8
  have hFm8 := zfr_tr hFm5 hfm8 rfl
  have hRBNm8 := zR_BN_fr (zdis_fr hfm8 rfl) hRBNm5
  have hRC0m8 := zR_C0_fr (zdis_fr hfm8 rfl) hRC0m5
  have hRE115m8 := zR_E115_fr (zdis_fr hfm8 rfl) hRE115m5
  have hRE63m8 := zR_E63_fr (zdis_fr hfm8 rfl) hRE63m5
  have hRE89m8 := zR_E89_fr (zdis_fr hfm8 rfl) hRE89m5
  have hRG5m8 := zR_G5_fr (zdis_fr hfm8 rfl) hRG5m5
  have hRK10m8 := zR_K10_fr (zdis_fr hfm8 rfl) hRK10m5
  have hRK54m8 := zR_K54_fr (zdis_fr hfm8 rfl) hRK54m5
  have hRKNm8 := zR_KN_fr (zdis_fr hfm8 rfl) hRKNm5
  have hRLTm8 := zR_LT_fr (zdis_fr hfm8 rfl) hRLTm5
  have hRNSm8 := zR_NS_fr (zdis_fr hfm8 rfl) hRNSm5
  have hRRIm8 := zR_RI_fr (zdis_fr hfm8 rfl) hRRIm5
  have hRRUm8 := zR_RU_fr (zdis_fr hfm8 rfl) hRRUm5
  have hRSEm8 := zR_SE_fr (zdis_fr hfm8 rfl) hRSEm5
  have hRTEm8 := zR_TE_fr (zdis_fr hfm8 rfl) hRTEm5
  have hRUNm8 := zR_UN_fr (zdis_fr hfm8 rfl) hRUNm5
  have hRUWm8 := zR_UW_fr (zdis_fr hfm8 rfl) hRUWm5
  have hRWDm8 := zR_WD_fr (zdis_fr hfm8 rfl) hRWDm5
  have hSm8 := zt_Sf (W := []) (fun p => zfr_ap (p := p) hfm8 zq_1 rfl) hSm5
  have r10 : 0 ≤ (m8 3 1) ∧ (m8 3 1) ≤ 700 := zi_rd hIm8 zq_3 zb_2_1
  have e11 : (m8 3 1) = (m0 3 1) := (Eq.trans (zfr_ap hfm8 zq_3 rfl) (zfr_ap hfm5 zq_3 rfl))
  have r12 : 0 ≤ (m8 190 1) ∧ (m8 190 1) ≤ 700 := zi_rd hIm8 zq_190 zb_28_1
  have e13 : (m8 190 1) = (m0 190 1) := (Eq.trans (zfr_ap hfm8 zq_190 rfl) (zfr_ap hfm5 zq_190 rfl))
  exact zw_kex (ih _ ⟨hIm8, hRBNm8, hRC0m8, hRE115m8, hRE63m8, hRE89m8, hRG5m8, hRK10m8, hRK54m8, hRKNm8, hRLTm8, hRNSm8, hRRIm8, hRRUm8, hRSEm8, hRTEm8, hRUNm8, hRUWm8, hRWDm8, by omega, hSm8⟩)
theorem zlw_730 {n : Nat} {K : Nat → Nat → Nat → List zu_v → List zu_v → zu_m → Prop} (hst : zt_HS n K) (hp2 : ∀ (cells slots pc : Nat) (i v : Int) (m : zu_m), pc ∈ [529, 552, 1012, 1023] → K cells slots (pc + 1) [(3, 1), (5, 3), (40, 190), (53, 233), (0, i), (2, 0), (2, 0)] [] m → K cells slots pc [(3, 1), (5, 3), (40, 190), (53, 233), (0, i), (2, 0), (2, 0)] [(1, v)] m) {cells slots : Nat} {i : Int} {m0 : zu_m} (hN : zt_INV m0) (hi0 : 0 ≤ i) (hi1 : i ≤ (n : Int) - 6) (hn : n ≤ 3072) (ih : ∀ m, zt_INV m → K cells slots 1453 [(3, 1), (5, 3), (40, 190), (53, 233), (0, i), (2, 0), (2, 0)] [] m) : K cells slots 730 [(3, 1), (5, 3), (40, 190), (53, 233), (0, i), (2, 0), (2, 0)] [] m0 := by
  refine hst cells slots [23, 208, 281, 306, 331, 356, 370, 396, 433, 470, 507, 529, 552, 556, 605, 618, 655, 680, 705, 730, 755, 792, 865, 902, 939, 964, 977, 1002, 1012, 1023, 1027, 1040, 1077, 1102, 1127, 1204, 1229, 1254, 1279, 1340, 1389, 1402, 1415, 1428, 1453] 400 730 _ _ _ ?_
  refine zw_eq (zlr_730 n _ _ i m0) ?_
  obtain ⟨hIm0, hRBNm0, hRC0m0, hRE115m0, hRE63m0, hRE89m0, hRG5m0, hRK10m0, hRK54m0, hRKNm0, hRLTm0, hRNSm0, hRRIm0, hRRUm0, hRSEm0, hRTEm0, hRUNm0, hRUWm0, hRWDm0, hT, hSm0⟩ := hN
  have hFm0 : zfr zt_Wl m0 m0 := zfr_rf _ _
  have r1 : 0 ≤ (m0 3 1) ∧ (m0 3 1) ≤ 700 := zi_rd hIm0 zq_3 zb_2_1
  have r2 : 0 ≤ (m0 190 1) ∧ (m0 190 1) ≤ 700 := zi_rd hIm0 zq_190 zb_28_1
  have w3 := zu_w32_id (z := i + 1) (by omega) (by omega)
  refine zw_if ⟨by omega, by omega⟩ ?_
  have r4 := hSm0 (zu_w32 (i + 1))
  refine zw_bd (zw_mono (zk_59 n hIm0 zq_3 ⟨by omega, by omega⟩) (fun v6 m5 hqm5 => ?_))
  obtain ⟨hIm5, hfm5, hvm5⟩ := hqm5
  have hFm5 := zfr_tr hFm0 hfm5 rfl
  have hRBNm5 := zR_BN_fr (zdis_fr hfm5 rfl) hRBNm0
  have hRC0m5 := zR_C0_fr (zdis_fr hfm5 rfl) hRC0m0
  have hRE115m5 := zR_E115_fr (zdis_fr hfm5 rfl) hRE115m0
  have hRE63m5 := zR_E63_fr (zdis_fr hfm5 rfl) hRE63m0
  have hRE89m5 := zR_E89_fr (zdis_fr hfm5 rfl) hRE89m0
  have hRG5m5 := zR_G5_fr (zdis_fr hfm5 rfl) hRG5m0
  have hRK10m5 := zR_K10_fr (zdis_fr hfm5 rfl) hRK10m0
  have hRK54m5 := zR_K54_fr (zdis_fr hfm5 rfl) hRK54m0
  have hRKNm5 := zR_KN_fr (zdis_fr hfm5 rfl) hRKNm0
  have hRLTm5 := zR_LT_fr (zdis_fr hfm5 rfl) hRLTm0
  have hRNSm5 := zR_NS_fr (zdis_fr hfm5 rfl) hRNSm0
  have hRRIm5 := zR_RI_fr (zdis_fr hfm5 rfl) hRRIm0
  have hRRUm5 := zR_RU_fr (zdis_fr hfm5 rfl) hRRUm0
  have hRSEm5 := zR_SE_fr (zdis_fr hfm5 rfl) hRSEm0
  have hRTEm5 := zR_TE_fr (zdis_fr hfm5 rfl) hRTEm0
  have hRUNm5 := zR_UN_fr (zdis_fr hfm5 rfl) hRUNm0
  have hRUWm5 := zR_UW_fr (zdis_fr hfm5 rfl) hRUWm0
  have hRWDm5 := zR_WD_fr (zdis_fr hfm5 rfl) hRWDm0
  have hSm5 := zt_Sf (W := []) (fun p => zfr_ap (p := p) hfm5 zq_1 rfl) hSm0
  refine zw_if ⟨by omega, by omega⟩ ?_
  have r7 := hSm5 (zu_w32 (i + 1))
  refine zw_bd (zw_mono (zk_157 n hIm5 zq_190 ⟨by omega, by omega⟩) (fun v9 m8 hqm8 => ?_))
  obtain ⟨hIm8, hfm8, hvm8⟩ := hqm8
  have hFm8 := zfr_tr hFm5 hfm8 rfl
  have hRBNm8 := zR_BN_fr (zdis_fr hfm8 rfl) hRBNm5
  have hRC0m8 := zR_C0_fr (zdis_fr hfm8 rfl) hRC0m5
  have hRE115m8 := zR_E115_fr (zdis_fr hfm8 rfl) hRE115m5
  have hRE63m8 := zR_E63_fr (zdis_fr hfm8 rfl) hRE63m5
  have hRE89m8 := zR_E89_fr (zdis_fr hfm8 rfl) hRE89m5
  have hRG5m8 := zR_G5_fr (zdis_fr hfm8 rfl) hRG5m5
  have hRK10m8 := zR_K10_fr (zdis_fr hfm8 rfl) hRK10m5
  have hRK54m8 := zR_K54_fr (zdis_fr hfm8 rfl) hRK54m5
  have hRKNm8 := zR_KN_fr (zdis_fr hfm8 rfl) hRKNm5
  have hRLTm8 := zR_LT_fr (zdis_fr hfm8 rfl) hRLTm5
  have hRNSm8 := zR_NS_fr (zdis_fr hfm8 rfl) hRNSm5
  have hRRIm8 := zR_RI_fr (zdis_fr hfm8 rfl) hRRIm5
  have hRRUm8 := zR_RU_fr (zdis_fr hfm8 rfl) hRRUm5
  have hRSEm8 := zR_SE_fr (zdis_fr hfm8 rfl) hRSEm5
  have hRTEm8 := zR_TE_fr (zdis_fr hfm8 rfl) hRTEm5
  have hRUNm8 := zR_UN_fr (zdis_fr hfm8 rfl) hRUNm5
  have hRUWm8 := zR_UW_fr (zdis_fr hfm8 rfl) hRUWm5
  have hRWDm8 := zR_WD_fr (zdis_fr hfm8 rfl) hRWDm5
  have hSm8 := zt_Sf (W := []) (fun p => zfr_ap (p := p) hfm8 zq_1 rfl) hSm5
  have r10 : 0 ≤ (m8 3 1) ∧ (m8 3 1) ≤ 700 := zi_rd hIm8 zq_3 zb_2_1
  have e11 : (m8 3 1) = (m0 3 1) := (Eq.trans (zfr_ap hfm8 zq_3 rfl) (zfr_ap hfm5 zq_3 rfl))
  have r12 : 0 ≤ (m8 190 1) ∧ (m8 190 1) ≤ 700 := zi_rd hIm8 zq_190 zb_28_1
  have e13 : (m8 190 1) = (m0 190 1) := (Eq.trans (zfr_ap hfm8 zq_190 rfl) (zfr_ap hfm5 zq_190 rfl))
  exact zw_kex (ih _ ⟨hIm8, hRBNm8, hRC0m8, hRE115m8, hRE63m8, hRE89m8, hRG5m8, hRK10m8, hRK54m8, hRKNm8, hRLTm8, hRNSm8, hRRIm8, hRRUm8, hRSEm8, hRTEm8, hRUNm8, hRUWm8, hRWDm8, by omega, hSm8⟩)
theorem zlw_755 {n : Nat} {K : Nat → Nat → Nat → List zu_v → List zu_v → zu_m → Prop} (hst : zt_HS n K) (hp2 : ∀ (cells slots pc : Nat) (i v : Int) (m : zu_m), pc ∈ [529, 552, 1012, 1023] → K cells slots (pc + 1) [(3, 1), (5, 3), (40, 190), (53, 233), (0, i), (2, 0), (2, 0)] [] m → K cells slots pc [(3, 1), (5, 3), (40, 190), (53, 233), (0, i), (2, 0), (2, 0)] [(1, v)] m) {cells slots : Nat} {i : Int} {m0 : zu_m} (hN : zt_INV m0) (hi0 : 0 ≤ i) (hi1 : i ≤ (n : Int) - 6) (hn : n ≤ 3072) (ih : ∀ m, zt_INV m → K cells slots 1453 [(3, 1), (5, 3), (40, 190), (53, 233), (0, i), (2, 0), (2, 0)] [] m) : K cells slots 755 [(3, 1), (5, 3), (40, 190), (53, 233), (0, i), (2, 0), (2, 0)] [] m0 := by
  refine hst cells slots [23, 208, 281, 306, 331, 356, 370, 396, 433, 470, 507, 529, 552, 556, 605, 618, 655, 680, 705, 730, 755, 792, 865, 902, 939, 964, 977, 1002, 1012, 1023, 1027, 1040, 1077, 1102, 1127, 1204, 1229, 1254, 1279, 1340, 1389, 1402, 1415, 1428, 1453] 400 755 _ _ _ ?_
  refine zw_eq (zlr_755 n _ _ i m0) ?_
  obtain ⟨hIm0, hRBNm0, hRC0m0, hRE115m0, hRE63m0, hRE89m0, hRG5m0, hRK10m0, hRK54m0, hRKNm0, hRLTm0, hRNSm0, hRRIm0, hRRUm0, hRSEm0, hRTEm0, hRUNm0, hRUWm0, hRWDm0, hT, hSm0⟩ := hN
  have hFm0 : zfr zt_Wl m0 m0 := zfr_rf _ _
  have r1 : 0 ≤ (m0 3 1) ∧ (m0 3 1) ≤ 700 := zi_rd hIm0 zq_3 zb_2_1
  have r2 : 0 ≤ (m0 190 1) ∧ (m0 190 1) ≤ 700 := zi_rd hIm0 zq_190 zb_28_1
  have w3 := zu_w32_id (z := i + 1) (by omega) (by omega)
  refine zw_if ⟨by omega, by omega⟩ ?_
  have r4 := hSm0 (zu_w32 (i + 1))
  have w5 := zu_w32_id (z := i + 2) (by omega) (by omega)
  refine zw_if ⟨by omega, by omega⟩ ?_
  have r6 := hSm0 (zu_w32 (i + 2))
  refine zw_bd (zw_mono (zk_60 n hIm0 zq_3 ⟨by omega, by omega⟩ ⟨by omega, by omega⟩) (fun v8 m7 hqm7 => ?_))
  obtain ⟨hIm7, hfm7, hvm7⟩ := hqm7
  have hFm7 := zfr_tr hFm0 hfm7 rfl
  have hRBNm7 := zR_BN_fr (zdis_fr hfm7 rfl) hRBNm0
  have hRC0m7 := zR_C0_fr (zdis_fr hfm7 rfl) hRC0m0
  have hRE115m7 := zR_E115_fr (zdis_fr hfm7 rfl) hRE115m0
  have hRE63m7 := zR_E63_fr (zdis_fr hfm7 rfl) hRE63m0
  have hRE89m7 := zR_E89_fr (zdis_fr hfm7 rfl) hRE89m0
  have hRG5m7 := zR_G5_fr (zdis_fr hfm7 rfl) hRG5m0
  have hRK10m7 := zR_K10_fr (zdis_fr hfm7 rfl) hRK10m0
  have hRK54m7 := zR_K54_fr (zdis_fr hfm7 rfl) hRK54m0
  have hRKNm7 := zR_KN_fr (zdis_fr hfm7 rfl) hRKNm0
  have hRLTm7 := zR_LT_fr (zdis_fr hfm7 rfl) hRLTm0
  have hRNSm7 := zR_NS_fr (zdis_fr hfm7 rfl) hRNSm0
  have hRRIm7 := zR_RI_fr (zdis_fr hfm7 rfl) hRRIm0
  have hRRUm7 := zR_RU_fr (zdis_fr hfm7 rfl) hRRUm0
  have hRSEm7 := zR_SE_fr (zdis_fr hfm7 rfl) hRSEm0
  have hRTEm7 := zR_TE_fr (zdis_fr hfm7 rfl) hRTEm0
  have hRUNm7 := zR_UN_fr (zdis_fr hfm7 rfl) hRUNm0
  have hRUWm7 := zR_UW_fr (zdis_fr hfm7 rfl) hRUWm0
  have hRWDm7 := zR_WD_fr (zdis_fr hfm7 rfl) hRWDm0
  have hSm7 := zt_Sf (W := []) (fun p => zfr_ap (p := p) hfm7 zq_1 rfl) hSm0
  refine zw_if ⟨by omega, by omega⟩ ?_
  have r9 := hSm7 (zu_w32 (i + 1))
  refine zw_if ⟨by omega, by omega⟩ ?_
  have r10 := hSm7 (zu_w32 (i + 2))
  refine zw_bd (zw_mono (zk_158 n hIm7 zq_190 ⟨by omega, by omega⟩ ⟨by omega, by omega⟩ hRKNm7 hRLTm7) (fun v12 m11 hqm11 => ?_))
  obtain ⟨hIm11, hfm11, hvm11⟩ := hqm11
  have hFm11 := zfr_tr hFm7 hfm11 rfl
  obtain ⟨hRKNm11, hRLTm11, hvm11⟩ := hvm11
  have hRBNm11 := zR_BN_fr (zdis_fr hfm11 rfl) hRBNm7
  have hRC0m11 := zR_C0_fr (zdis_fr hfm11 rfl) hRC0m7
  have hRE115m11 := zR_E115_fr (zdis_fr hfm11 rfl) hRE115m7
  have hRE63m11 := zR_E63_fr (zdis_fr hfm11 rfl) hRE63m7
  have hRE89m11 := zR_E89_fr (zdis_fr hfm11 rfl) hRE89m7
  have hRG5m11 := zR_G5_fr (zdis_fr hfm11 rfl) hRG5m7
  have hRK10m11 := zR_K10_fr (zdis_fr hfm11 rfl) hRK10m7
  have hRK54m11 := zR_K54_fr (zdis_fr hfm11 rfl) hRK54m7
  have hRNSm11 := zR_NS_fr (zdis_fr hfm11 rfl) hRNSm7
  have hRRIm11 := zR_RI_fr (zdis_fr hfm11 rfl) hRRIm7
  have hRRUm11 := zR_RU_fr (zdis_fr hfm11 rfl) hRRUm7
  have hRSEm11 := zR_SE_fr (zdis_fr hfm11 rfl) hRSEm7
  have hRTEm11 := zR_TE_fr (zdis_fr hfm11 rfl) hRTEm7
  have hRUNm11 := zR_UN_fr (zdis_fr hfm11 rfl) hRUNm7
  have hRUWm11 := zR_UW_fr (zdis_fr hfm11 rfl) hRUWm7
  have hRWDm11 := zR_WD_fr (zdis_fr hfm11 rfl) hRWDm7
  have hSm11 := zt_Sf (W := []) (fun p => zfr_ap (p := p) hfm11 zq_1 rfl) hSm7
  have r13 : 0 ≤ (m11 3 1) ∧ (m11 3 1) ≤ 700 := zi_rd hIm11 zq_3 zb_2_1
  have e14 : (m11 3 1) = (m0 3 1) := (Eq.trans (zfr_ap hfm11 zq_3 rfl) (zfr_ap hfm7 zq_3 rfl))
  have r15 : 0 ≤ (m11 190 1) ∧ (m11 190 1) ≤ 700 := zi_rd hIm11 zq_190 zb_28_1
  have e16 : (m11 190 1) = (m0 190 1) := (Eq.trans (zfr_ap hfm11 zq_190 rfl) (zfr_ap hfm7 zq_190 rfl))
  exact zw_kex (ih _ ⟨hIm11, hRBNm11, hRC0m11, hRE115m11, hRE63m11, hRE89m11, hRG5m11, hRK10m11, hRK54m11, hRKNm11, hRLTm11, hRNSm11, hRRIm11, hRRUm11, hRSEm11, hRTEm11, hRUNm11, hRUWm11, hRWDm11, by omega, hSm11⟩)
theorem zlw_792 {n : Nat} {K : Nat → Nat → Nat → List zu_v → List zu_v → zu_m → Prop} (hst : zt_HS n K) (hp2 : ∀ (cells slots pc : Nat) (i v : Int) (m : zu_m), pc ∈ [529, 552, 1012, 1023] → K cells slots (pc + 1) [(3, 1), (5, 3), (40, 190), (53, 233), (0, i), (2, 0), (2, 0)] [] m → K cells slots pc [(3, 1), (5, 3), (40, 190), (53, 233), (0, i), (2, 0), (2, 0)] [(1, v)] m) {cells slots : Nat} {i : Int} {m0 : zu_m} (hN : zt_INV m0) (hi0 : 0 ≤ i) (hi1 : i ≤ (n : Int) - 6) (hn : n ≤ 3072) (ih : ∀ m, zt_INV m → K cells slots 1453 [(3, 1), (5, 3), (40, 190), (53, 233), (0, i), (2, 0), (2, 0)] [] m) : K cells slots 792 [(3, 1), (5, 3), (40, 190), (53, 233), (0, i), (2, 0), (2, 0)] [] m0 := by
  refine hst cells slots [23, 208, 281, 306, 331, 356, 370, 396, 433, 470, 507, 529, 552, 556, 605, 618, 655, 680, 705, 730, 755, 792, 865, 902, 939, 964, 977, 1002, 1012, 1023, 1027, 1040, 1077, 1102, 1127, 1204, 1229, 1254, 1279, 1340, 1389, 1402, 1415, 1428, 1453] 400 792 _ _ _ ?_
  refine zw_eq (zlr_792 n _ _ i m0) ?_
  obtain ⟨hIm0, hRBNm0, hRC0m0, hRE115m0, hRE63m0, hRE89m0, hRG5m0, hRK10m0, hRK54m0, hRKNm0, hRLTm0, hRNSm0, hRRIm0, hRRUm0, hRSEm0, hRTEm0, hRUNm0, hRUWm0, hRWDm0, hT, hSm0⟩ := hN
  have hFm0 : zfr zt_Wl m0 m0 := zfr_rf _ _
  have r1 : 0 ≤ (m0 3 1) ∧ (m0 3 1) ≤ 700 := zi_rd hIm0 zq_3 zb_2_1
  have r2 : 0 ≤ (m0 190 1) ∧ (m0 190 1) ≤ 700 := zi_rd hIm0 zq_190 zb_28_1
  have w3 := zu_w32_id (z := i + 1) (by omega) (by omega)
  refine zw_if ⟨by omega, by omega⟩ ?_
  have r4 := hSm0 (zu_w32 (i + 1))
  have w5 := zu_w32_id (z := i + 2) (by omega) (by omega)
  refine zw_if ⟨by omega, by omega⟩ ?_
  have r6 := hSm0 (zu_w32 (i + 2))
  have w7 := zu_w32_id (z := i + 3) (by omega) (by omega)
  refine zw_if ⟨by omega, by omega⟩ ?_
  have r8 := hSm0 (zu_w32 (i + 3))
  have w9 := zu_w32_id (z := i + 4) (by omega) (by omega)
  refine zw_if ⟨by omega, by omega⟩ ?_
  have r10 := hSm0 (zu_w32 (i + 4))
  have w11 := zu_w32_id (z := i + 5) (by omega) (by omega)
  refine zw_if ⟨by omega, by omega⟩ ?_
  have r12 := hSm0 (zu_w32 (i + 5))
  refine zw_bd (zw_mono (zk_61 n hIm0 zq_3 ⟨by omega, by omega⟩ ⟨by omega, by omega⟩ ⟨by omega, by omega⟩ ⟨by omega, by omega⟩ ⟨by omega, by omega⟩ hRE89m0 hRG5m0 hRK54m0) (fun v14 m13 hqm13 => ?_))
  obtain ⟨hIm13, hfm13, hvm13⟩ := hqm13
  have hFm13 := zfr_tr hFm0 hfm13 rfl
  obtain ⟨hRE89m13, hRG5m13, hRK54m13, hvm13⟩ := hvm13
  have hRBNm13 := zR_BN_fr (zdis_fr hfm13 rfl) hRBNm0
  have hRC0m13 := zR_C0_fr (zdis_fr hfm13 rfl) hRC0m0
  have hRE115m13 := zR_E115_fr (zdis_fr hfm13 rfl) hRE115m0
  have hRE63m13 := zR_E63_fr (zdis_fr hfm13 rfl) hRE63m0
  have hRK10m13 := zR_K10_fr (zdis_fr hfm13 rfl) hRK10m0
  have hRKNm13 := zR_KN_fr (zdis_fr hfm13 rfl) hRKNm0
  have hRLTm13 := zR_LT_fr (zdis_fr hfm13 rfl) hRLTm0
  have hRNSm13 := zR_NS_fr (zdis_fr hfm13 rfl) hRNSm0
  have hRRIm13 := zR_RI_fr (zdis_fr hfm13 rfl) hRRIm0
  have hRRUm13 := zR_RU_fr (zdis_fr hfm13 rfl) hRRUm0
  have hRSEm13 := zR_SE_fr (zdis_fr hfm13 rfl) hRSEm0
  have hRTEm13 := zR_TE_fr (zdis_fr hfm13 rfl) hRTEm0
  have hRUNm13 := zR_UN_fr (zdis_fr hfm13 rfl) hRUNm0
  have hRUWm13 := zR_UW_fr (zdis_fr hfm13 rfl) hRUWm0
  have hRWDm13 := zR_WD_fr (zdis_fr hfm13 rfl) hRWDm0
  have hSm13 := zt_Sf (W := []) (fun p => zfr_ap (p := p) hfm13 zq_1 rfl) hSm0
  refine zw_if ⟨by omega, by omega⟩ ?_
  have r15 := hSm13 (zu_w32 (i + 1))
  refine zw_if ⟨by omega, by omega⟩ ?_
  have r16 := hSm13 (zu_w32 (i + 2))
  refine zw_if ⟨by omega, by omega⟩ ?_
  have r17 := hSm13 (zu_w32 (i + 3))
  refine zw_if ⟨by omega, by omega⟩ ?_
  have r18 := hSm13 (zu_w32 (i + 4))
  refine zw_if ⟨by omega, by omega⟩ ?_
  have r19 := hSm13 (zu_w32 (i + 5))
  refine zw_bd (zw_mono (zk_161 n hIm13 zq_190 ⟨by omega, by omega⟩ ⟨by omega, by omega⟩ ⟨by omega, by omega⟩ ⟨by omega, by omega⟩ ⟨by omega, by omega⟩ hRKNm13 hRLTm13 hRSEm13) (fun v21 m20 hqm20 => ?_))
  obtain ⟨hIm20, hfm20, hvm20⟩ := hqm20
  have hFm20 := zfr_tr hFm13 hfm20 rfl
  obtain ⟨hRKNm20, hRLTm20, hRSEm20, hvm20⟩ := hvm20
  have hRBNm20 := zR_BN_fr (zdis_fr hfm20 rfl) hRBNm13
  have hRC0m20 := zR_C0_fr (zdis_fr hfm20 rfl) hRC0m13
  have hRE115m20 := zR_E115_fr (zdis_fr hfm20 rfl) hRE115m13
  have hRE63m20 := zR_E63_fr (zdis_fr hfm20 rfl) hRE63m13
  have hRE89m20 := zR_E89_fr (zdis_fr hfm20 rfl) hRE89m13
  have hRG5m20 := zR_G5_fr (zdis_fr hfm20 rfl) hRG5m13
  have hRK10m20 := zR_K10_fr (zdis_fr hfm20 rfl) hRK10m13
  have hRK54m20 := zR_K54_fr (zdis_fr hfm20 rfl) hRK54m13
  have hRNSm20 := zR_NS_fr (zdis_fr hfm20 rfl) hRNSm13
  have hRRIm20 := zR_RI_fr (zdis_fr hfm20 rfl) hRRIm13
  have hRRUm20 := zR_RU_fr (zdis_fr hfm20 rfl) hRRUm13
  have hRTEm20 := zR_TE_fr (zdis_fr hfm20 rfl) hRTEm13
  have hRUNm20 := zR_UN_fr (zdis_fr hfm20 rfl) hRUNm13
  have hRUWm20 := zR_UW_fr (zdis_fr hfm20 rfl) hRUWm13
  have hRWDm20 := zR_WD_fr (zdis_fr hfm20 rfl) hRWDm13
  have hSm20 := zt_Sf (W := []) (fun p => zfr_ap (p := p) hfm20 zq_1 rfl) hSm13
  have r22 : 0 ≤ (m20 3 1) ∧ (m20 3 1) ≤ 700 := zi_rd hIm20 zq_3 zb_2_1
  have e23 : (m20 3 1) = (m0 3 1) := (Eq.trans (zfr_ap hfm20 zq_3 rfl) (zfr_ap hfm13 zq_3 rfl))
  have r24 : 0 ≤ (m20 190 1) ∧ (m20 190 1) ≤ 700 := zi_rd hIm20 zq_190 zb_28_1
  have e25 : (m20 190 1) = (m0 190 1) := (Eq.trans (zfr_ap hfm20 zq_190 rfl) (zfr_ap hfm13 zq_190 rfl))
  exact zw_kex (ih _ ⟨hIm20, hRBNm20, hRC0m20, hRE115m20, hRE63m20, hRE89m20, hRG5m20, hRK10m20, hRK54m20, hRKNm20, hRLTm20, hRNSm20, hRRIm20, hRRUm20, hRSEm20, hRTEm20, hRUNm20, hRUWm20, hRWDm20, by omega, hSm20⟩)
theorem zlw_865 {n : Nat} {K : Nat → Nat → Nat → List zu_v → List zu_v → zu_m → Prop} (hst : zt_HS n K) (hp2 : ∀ (cells slots pc : Nat) (i v : Int) (m : zu_m), pc ∈ [529, 552, 1012, 1023] → K cells slots (pc + 1) [(3, 1), (5, 3), (40, 190), (53, 233), (0, i), (2, 0), (2, 0)] [] m → K cells slots pc [(3, 1), (5, 3), (40, 190), (53, 233), (0, i), (2, 0), (2, 0)] [(1, v)] m) {cells slots : Nat} {i : Int} {m0 : zu_m} (hN : zt_INV m0) (hi0 : 0 ≤ i) (hi1 : i ≤ (n : Int) - 6) (hn : n ≤ 3072) (ih : ∀ m, zt_INV m → K cells slots 1453 [(3, 1), (5, 3), (40, 190), (53, 233), (0, i), (2, 0), (2, 0)] [] m) : K cells slots 865 [(3, 1), (5, 3), (40, 190), (53, 233), (0, i), (2, 0), (2, 0)] [] m0 := by
  refine hst cells slots [23, 208, 281, 306, 331, 356, 370, 396, 433, 470, 507, 529, 552, 556, 605, 618, 655, 680, 705, 730, 755, 792, 865, 902, 939, 964, 977, 1002, 1012, 1023, 1027, 1040, 1077, 1102, 1127, 1204, 1229, 1254, 1279, 1340, 1389, 1402, 1415, 1428, 1453] 400 865 _ _ _ ?_
  refine zw_eq (zlr_865 n _ _ i m0) ?_
  obtain ⟨hIm0, hRBNm0, hRC0m0, hRE115m0, hRE63m0, hRE89m0, hRG5m0, hRK10m0, hRK54m0, hRKNm0, hRLTm0, hRNSm0, hRRIm0, hRRUm0, hRSEm0, hRTEm0, hRUNm0, hRUWm0, hRWDm0, hT, hSm0⟩ := hN
  have hFm0 : zfr zt_Wl m0 m0 := zfr_rf _ _
  have r1 : 0 ≤ (m0 3 1) ∧ (m0 3 1) ≤ 700 := zi_rd hIm0 zq_3 zb_2_1
  have r2 : 0 ≤ (m0 190 1) ∧ (m0 190 1) ≤ 700 := zi_rd hIm0 zq_190 zb_28_1
  have w3 := zu_w32_id (z := i + 1) (by omega) (by omega)
  refine zw_if ⟨by omega, by omega⟩ ?_
  have r4 := hSm0 (zu_w32 (i + 1))
  have w5 := zu_w32_id (z := i + 2) (by omega) (by omega)
  refine zw_if ⟨by omega, by omega⟩ ?_
  have r6 := hSm0 (zu_w32 (i + 2))
  refine zw_bd (zw_mono (zk_62 n hIm0 zq_3 ⟨by omega, by omega⟩ ⟨by omega, by omega⟩ hRE89m0 hRG5m0 hRK54m0) (fun v8 m7 hqm7 => ?_))
  obtain ⟨hIm7, hfm7, hvm7⟩ := hqm7
  have hFm7 := zfr_tr hFm0 hfm7 rfl
  obtain ⟨hRE89m7, hRG5m7, hRK54m7, hvm7⟩ := hvm7
  have hRBNm7 := zR_BN_fr (zdis_fr hfm7 rfl) hRBNm0
  have hRC0m7 := zR_C0_fr (zdis_fr hfm7 rfl) hRC0m0
  have hRE115m7 := zR_E115_fr (zdis_fr hfm7 rfl) hRE115m0
  have hRE63m7 := zR_E63_fr (zdis_fr hfm7 rfl) hRE63m0
  have hRK10m7 := zR_K10_fr (zdis_fr hfm7 rfl) hRK10m0
  have hRKNm7 := zR_KN_fr (zdis_fr hfm7 rfl) hRKNm0
  have hRLTm7 := zR_LT_fr (zdis_fr hfm7 rfl) hRLTm0
  have hRNSm7 := zR_NS_fr (zdis_fr hfm7 rfl) hRNSm0
  have hRRIm7 := zR_RI_fr (zdis_fr hfm7 rfl) hRRIm0
  have hRRUm7 := zR_RU_fr (zdis_fr hfm7 rfl) hRRUm0
  have hRSEm7 := zR_SE_fr (zdis_fr hfm7 rfl) hRSEm0
  have hRTEm7 := zR_TE_fr (zdis_fr hfm7 rfl) hRTEm0
  have hRUNm7 := zR_UN_fr (zdis_fr hfm7 rfl) hRUNm0
  have hRUWm7 := zR_UW_fr (zdis_fr hfm7 rfl) hRUWm0
  have hRWDm7 := zR_WD_fr (zdis_fr hfm7 rfl) hRWDm0
  have hSm7 := zt_Sf (W := []) (fun p => zfr_ap (p := p) hfm7 zq_1 rfl) hSm0
  refine zw_if ⟨by omega, by omega⟩ ?_
  have r9 := hSm7 (zu_w32 (i + 1))
  refine zw_if ⟨by omega, by omega⟩ ?_
  have r10 := hSm7 (zu_w32 (i + 2))
  refine zw_bd (zw_mono (zk_162 n hIm7 zq_190 ⟨by omega, by omega⟩ ⟨by omega, by omega⟩ hRKNm7 hRLTm7 hRSEm7) (fun v12 m11 hqm11 => ?_))
  obtain ⟨hIm11, hfm11, hvm11⟩ := hqm11
  have hFm11 := zfr_tr hFm7 hfm11 rfl
  obtain ⟨hRKNm11, hRLTm11, hRSEm11, hvm11⟩ := hvm11
  have hRBNm11 := zR_BN_fr (zdis_fr hfm11 rfl) hRBNm7
  have hRC0m11 := zR_C0_fr (zdis_fr hfm11 rfl) hRC0m7
  have hRE115m11 := zR_E115_fr (zdis_fr hfm11 rfl) hRE115m7
  have hRE63m11 := zR_E63_fr (zdis_fr hfm11 rfl) hRE63m7
  have hRE89m11 := zR_E89_fr (zdis_fr hfm11 rfl) hRE89m7
  have hRG5m11 := zR_G5_fr (zdis_fr hfm11 rfl) hRG5m7
  have hRK10m11 := zR_K10_fr (zdis_fr hfm11 rfl) hRK10m7
  have hRK54m11 := zR_K54_fr (zdis_fr hfm11 rfl) hRK54m7
  have hRNSm11 := zR_NS_fr (zdis_fr hfm11 rfl) hRNSm7
  have hRRIm11 := zR_RI_fr (zdis_fr hfm11 rfl) hRRIm7
  have hRRUm11 := zR_RU_fr (zdis_fr hfm11 rfl) hRRUm7
  have hRTEm11 := zR_TE_fr (zdis_fr hfm11 rfl) hRTEm7
  have hRUNm11 := zR_UN_fr (zdis_fr hfm11 rfl) hRUNm7
  have hRUWm11 := zR_UW_fr (zdis_fr hfm11 rfl) hRUWm7
  have hRWDm11 := zR_WD_fr (zdis_fr hfm11 rfl) hRWDm7
  have hSm11 := zt_Sf (W := []) (fun p => zfr_ap (p := p) hfm11 zq_1 rfl) hSm7
  have r13 : 0 ≤ (m11 3 1) ∧ (m11 3 1) ≤ 700 := zi_rd hIm11 zq_3 zb_2_1
  have e14 : (m11 3 1) = (m0 3 1) := (Eq.trans (zfr_ap hfm11 zq_3 rfl) (zfr_ap hfm7 zq_3 rfl))
  have r15 : 0 ≤ (m11 190 1) ∧ (m11 190 1) ≤ 700 := zi_rd hIm11 zq_190 zb_28_1
  have e16 : (m11 190 1) = (m0 190 1) := (Eq.trans (zfr_ap hfm11 zq_190 rfl) (zfr_ap hfm7 zq_190 rfl))
  exact zw_kex (ih _ ⟨hIm11, hRBNm11, hRC0m11, hRE115m11, hRE63m11, hRE89m11, hRG5m11, hRK10m11, hRK54m11, hRKNm11, hRLTm11, hRNSm11, hRRIm11, hRRUm11, hRSEm11, hRTEm11, hRUNm11, hRUWm11, hRWDm11, by omega, hSm11⟩)
theorem zlw_902 {n : Nat} {K : Nat → Nat → Nat → List zu_v → List zu_v → zu_m → Prop} (hst : zt_HS n K) (hp2 : ∀ (cells slots pc : Nat) (i v : Int) (m : zu_m), pc ∈ [529, 552, 1012, 1023] → K cells slots (pc + 1) [(3, 1), (5, 3), (40, 190), (53, 233), (0, i), (2, 0), (2, 0)] [] m → K cells slots pc [(3, 1), (5, 3), (40, 190), (53, 233), (0, i), (2, 0), (2, 0)] [(1, v)] m) {cells slots : Nat} {i : Int} {m0 : zu_m} (hN : zt_INV m0) (hi0 : 0 ≤ i) (hi1 : i ≤ (n : Int) - 6) (hn : n ≤ 3072) (ih : ∀ m, zt_INV m → K cells slots 1453 [(3, 1), (5, 3), (40, 190), (53, 233), (0, i), (2, 0), (2, 0)] [] m) : K cells slots 902 [(3, 1), (5, 3), (40, 190), (53, 233), (0, i), (2, 0), (2, 0)] [] m0 := by
  refine hst cells slots [23, 208, 281, 306, 331, 356, 370, 396, 433, 470, 507, 529, 552, 556, 605, 618, 655, 680, 705, 730, 755, 792, 865, 902, 939, 964, 977, 1002, 1012, 1023, 1027, 1040, 1077, 1102, 1127, 1204, 1229, 1254, 1279, 1340, 1389, 1402, 1415, 1428, 1453] 400 902 _ _ _ ?_
  refine zw_eq (zlr_902 n _ _ i m0) ?_
  obtain ⟨hIm0, hRBNm0, hRC0m0, hRE115m0, hRE63m0, hRE89m0, hRG5m0, hRK10m0, hRK54m0, hRKNm0, hRLTm0, hRNSm0, hRRIm0, hRRUm0, hRSEm0, hRTEm0, hRUNm0, hRUWm0, hRWDm0, hT, hSm0⟩ := hN
  have hFm0 : zfr zt_Wl m0 m0 := zfr_rf _ _
  have r1 : 0 ≤ (m0 3 1) ∧ (m0 3 1) ≤ 700 := zi_rd hIm0 zq_3 zb_2_1
  have r2 : 0 ≤ (m0 190 1) ∧ (m0 190 1) ≤ 700 := zi_rd hIm0 zq_190 zb_28_1
  have w3 := zu_w32_id (z := i + 1) (by omega) (by omega)
  refine zw_if ⟨by omega, by omega⟩ ?_
  have r4 := hSm0 (zu_w32 (i + 1))
  have w5 := zu_w32_id (z := i + 2) (by omega) (by omega)
  refine zw_if ⟨by omega, by omega⟩ ?_
  have r6 := hSm0 (zu_w32 (i + 2))
  refine zw_bd (zw_mono (zk_63 n hIm0 zq_3 ⟨by omega, by omega⟩ ⟨by omega, by omega⟩ hRE89m0 hRG5m0 hRK54m0) (fun v8 m7 hqm7 => ?_))
  obtain ⟨hIm7, hfm7, hvm7⟩ := hqm7
  have hFm7 := zfr_tr hFm0 hfm7 rfl
  obtain ⟨hRE89m7, hRG5m7, hRK54m7, hvm7⟩ := hvm7
  have hRBNm7 := zR_BN_fr (zdis_fr hfm7 rfl) hRBNm0
  have hRC0m7 := zR_C0_fr (zdis_fr hfm7 rfl) hRC0m0
  have hRE115m7 := zR_E115_fr (zdis_fr hfm7 rfl) hRE115m0
  have hRE63m7 := zR_E63_fr (zdis_fr hfm7 rfl) hRE63m0
  have hRK10m7 := zR_K10_fr (zdis_fr hfm7 rfl) hRK10m0
  have hRKNm7 := zR_KN_fr (zdis_fr hfm7 rfl) hRKNm0
  have hRLTm7 := zR_LT_fr (zdis_fr hfm7 rfl) hRLTm0
  have hRNSm7 := zR_NS_fr (zdis_fr hfm7 rfl) hRNSm0
  have hRRIm7 := zR_RI_fr (zdis_fr hfm7 rfl) hRRIm0
  have hRRUm7 := zR_RU_fr (zdis_fr hfm7 rfl) hRRUm0
  have hRSEm7 := zR_SE_fr (zdis_fr hfm7 rfl) hRSEm0
  have hRTEm7 := zR_TE_fr (zdis_fr hfm7 rfl) hRTEm0
  have hRUNm7 := zR_UN_fr (zdis_fr hfm7 rfl) hRUNm0
  have hRUWm7 := zR_UW_fr (zdis_fr hfm7 rfl) hRUWm0
  have hRWDm7 := zR_WD_fr (zdis_fr hfm7 rfl) hRWDm0
  have hSm7 := zt_Sf (W := []) (fun p => zfr_ap (p := p) hfm7 zq_1 rfl) hSm0
  refine zw_if ⟨by omega, by omega⟩ ?_
  have r9 := hSm7 (zu_w32 (i + 1))
  refine zw_if ⟨by omega, by omega⟩ ?_
  have r10 := hSm7 (zu_w32 (i + 2))
  refine zw_bd (zw_mono (zk_164 n hIm7 zq_190 ⟨by omega, by omega⟩ ⟨by omega, by omega⟩ hRKNm7 hRLTm7 hRSEm7) (fun v12 m11 hqm11 => ?_))
  obtain ⟨hIm11, hfm11, hvm11⟩ := hqm11
  have hFm11 := zfr_tr hFm7 hfm11 rfl
  obtain ⟨hRKNm11, hRLTm11, hRSEm11, hvm11⟩ := hvm11
  have hRBNm11 := zR_BN_fr (zdis_fr hfm11 rfl) hRBNm7
  have hRC0m11 := zR_C0_fr (zdis_fr hfm11 rfl) hRC0m7
  have hRE115m11 := zR_E115_fr (zdis_fr hfm11 rfl) hRE115m7
  have hRE63m11 := zR_E63_fr (zdis_fr hfm11 rfl) hRE63m7
  have hRE89m11 := zR_E89_fr (zdis_fr hfm11 rfl) hRE89m7
  have hRG5m11 := zR_G5_fr (zdis_fr hfm11 rfl) hRG5m7
  have hRK10m11 := zR_K10_fr (zdis_fr hfm11 rfl) hRK10m7
  have hRK54m11 := zR_K54_fr (zdis_fr hfm11 rfl) hRK54m7
  have hRNSm11 := zR_NS_fr (zdis_fr hfm11 rfl) hRNSm7
  have hRRIm11 := zR_RI_fr (zdis_fr hfm11 rfl) hRRIm7
  have hRRUm11 := zR_RU_fr (zdis_fr hfm11 rfl) hRRUm7
  have hRTEm11 := zR_TE_fr (zdis_fr hfm11 rfl) hRTEm7
  have hRUNm11 := zR_UN_fr (zdis_fr hfm11 rfl) hRUNm7
  have hRUWm11 := zR_UW_fr (zdis_fr hfm11 rfl) hRUWm7
  have hRWDm11 := zR_WD_fr (zdis_fr hfm11 rfl) hRWDm7
  have hSm11 := zt_Sf (W := []) (fun p => zfr_ap (p := p) hfm11 zq_1 rfl) hSm7
  have r13 : 0 ≤ (m11 3 1) ∧ (m11 3 1) ≤ 700 := zi_rd hIm11 zq_3 zb_2_1
  have e14 : (m11 3 1) = (m0 3 1) := (Eq.trans (zfr_ap hfm11 zq_3 rfl) (zfr_ap hfm7 zq_3 rfl))
  have r15 : 0 ≤ (m11 190 1) ∧ (m11 190 1) ≤ 700 := zi_rd hIm11 zq_190 zb_28_1
  have e16 : (m11 190 1) = (m0 190 1) := (Eq.trans (zfr_ap hfm11 zq_190 rfl) (zfr_ap hfm7 zq_190 rfl))
  exact zw_kex (ih _ ⟨hIm11, hRBNm11, hRC0m11, hRE115m11, hRE63m11, hRE89m11, hRG5m11, hRK10m11, hRK54m11, hRKNm11, hRLTm11, hRNSm11, hRRIm11, hRRUm11, hRSEm11, hRTEm11, hRUNm11, hRUWm11, hRWDm11, by omega, hSm11⟩)
theorem zlw_939 {n : Nat} {K : Nat → Nat → Nat → List zu_v → List zu_v → zu_m → Prop} (hst : zt_HS n K) (hp2 : ∀ (cells slots pc : Nat) (i v : Int) (m : zu_m), pc ∈ [529, 552, 1012, 1023] → K cells slots (pc + 1) [(3, 1), (5, 3), (40, 190), (53, 233), (0, i), (2, 0), (2, 0)] [] m → K cells slots pc [(3, 1), (5, 3), (40, 190), (53, 233), (0, i), (2, 0), (2, 0)] [(1, v)] m) {cells slots : Nat} {i : Int} {m0 : zu_m} (hN : zt_INV m0) (hi0 : 0 ≤ i) (hi1 : i ≤ (n : Int) - 6) (hn : n ≤ 3072) (ih : ∀ m, zt_INV m → K cells slots 1453 [(3, 1), (5, 3), (40, 190), (53, 233), (0, i), (2, 0), (2, 0)] [] m) : K cells slots 939 [(3, 1), (5, 3), (40, 190), (53, 233), (0, i), (2, 0), (2, 0)] [] m0 := by
  refine hst cells slots [23, 208, 281, 306, 331, 356, 370, 396, 433, 470, 507, 529, 552, 556, 605, 618, 655, 680, 705, 730, 755, 792, 865, 902, 939, 964, 977, 1002, 1012, 1023, 1027, 1040, 1077, 1102, 1127, 1204, 1229, 1254, 1279, 1340, 1389, 1402, 1415, 1428, 1453] 400 939 _ _ _ ?_
  refine zw_eq (zlr_939 n _ _ i m0) ?_
  obtain ⟨hIm0, hRBNm0, hRC0m0, hRE115m0, hRE63m0, hRE89m0, hRG5m0, hRK10m0, hRK54m0, hRKNm0, hRLTm0, hRNSm0, hRRIm0, hRRUm0, hRSEm0, hRTEm0, hRUNm0, hRUWm0, hRWDm0, hT, hSm0⟩ := hN
  have hFm0 : zfr zt_Wl m0 m0 := zfr_rf _ _
  have r1 : 0 ≤ (m0 3 1) ∧ (m0 3 1) ≤ 700 := zi_rd hIm0 zq_3 zb_2_1
  have r2 : 0 ≤ (m0 190 1) ∧ (m0 190 1) ≤ 700 := zi_rd hIm0 zq_190 zb_28_1
  have w3 := zu_w32_id (z := i + 1) (by omega) (by omega)
  refine zw_if ⟨by omega, by omega⟩ ?_
  have r4 := hSm0 (zu_w32 (i + 1))
  refine zw_bd (zw_mono (zk_64 n hIm0 zq_3 ⟨by omega, by omega⟩ hRE89m0 hRG5m0 hRK54m0) (fun v6 m5 hqm5 => ?_))
  obtain ⟨hIm5, hfm5, hvm5⟩ := hqm5
  have hFm5 := zfr_tr hFm0 hfm5 rfl
  obtain ⟨hRE89m5, hRG5m5, hRK54m5, hvm5⟩ := hvm5
  have hRBNm5 := zR_BN_fr (zdis_fr hfm5 rfl) hRBNm0
  have hRC0m5 := zR_C0_fr (zdis_fr hfm5 rfl) hRC0m0
  have hRE115m5 := zR_E115_fr (zdis_fr hfm5 rfl) hRE115m0
  have hRE63m5 := zR_E63_fr (zdis_fr hfm5 rfl) hRE63m0
  have hRK10m5 := zR_K10_fr (zdis_fr hfm5 rfl) hRK10m0
  have hRKNm5 := zR_KN_fr (zdis_fr hfm5 rfl) hRKNm0
  have hRLTm5 := zR_LT_fr (zdis_fr hfm5 rfl) hRLTm0
  have hRNSm5 := zR_NS_fr (zdis_fr hfm5 rfl) hRNSm0
  have hRRIm5 := zR_RI_fr (zdis_fr hfm5 rfl) hRRIm0
  have hRRUm5 := zR_RU_fr (zdis_fr hfm5 rfl) hRRUm0
  have hRSEm5 := zR_SE_fr (zdis_fr hfm5 rfl) hRSEm0
  have hRTEm5 := zR_TE_fr (zdis_fr hfm5 rfl) hRTEm0
  have hRUNm5 := zR_UN_fr (zdis_fr hfm5 rfl) hRUNm0
  have hRUWm5 := zR_UW_fr (zdis_fr hfm5 rfl) hRUWm0
  have hRWDm5 := zR_WD_fr (zdis_fr hfm5 rfl) hRWDm0
  have hSm5 := zt_Sf (W := []) (fun p => zfr_ap (p := p) hfm5 zq_1 rfl) hSm0
  refine zw_if ⟨by omega, by omega⟩ ?_
  have r7 := hSm5 (zu_w32 (i + 1))
  refine zw_bd (zw_mono (zk_165 n hIm5 zq_190 ⟨by omega, by omega⟩ hRKNm5 hRLTm5 hRSEm5) (fun v9 m8 hqm8 => ?_))
  obtain ⟨hIm8, hfm8, hvm8⟩ := hqm8
  have hFm8 := zfr_tr hFm5 hfm8 rfl
  obtain ⟨hRKNm8, hRLTm8, hRSEm8, hvm8⟩ := hvm8
  have hRBNm8 := zR_BN_fr (zdis_fr hfm8 rfl) hRBNm5
  have hRC0m8 := zR_C0_fr (zdis_fr hfm8 rfl) hRC0m5
  have hRE115m8 := zR_E115_fr (zdis_fr hfm8 rfl) hRE115m5
  have hRE63m8 := zR_E63_fr (zdis_fr hfm8 rfl) hRE63m5
  have hRE89m8 := zR_E89_fr (zdis_fr hfm8 rfl) hRE89m5
  have hRG5m8 := zR_G5_fr (zdis_fr hfm8 rfl) hRG5m5
  have hRK10m8 := zR_K10_fr (zdis_fr hfm8 rfl) hRK10m5
  have hRK54m8 := zR_K54_fr (zdis_fr hfm8 rfl) hRK54m5
  have hRNSm8 := zR_NS_fr (zdis_fr hfm8 rfl) hRNSm5
  have hRRIm8 := zR_RI_fr (zdis_fr hfm8 rfl) hRRIm5
  have hRRUm8 := zR_RU_fr (zdis_fr hfm8 rfl) hRRUm5
  have hRTEm8 := zR_TE_fr (zdis_fr hfm8 rfl) hRTEm5
  have hRUNm8 := zR_UN_fr (zdis_fr hfm8 rfl) hRUNm5
  have hRUWm8 := zR_UW_fr (zdis_fr hfm8 rfl) hRUWm5
  have hRWDm8 := zR_WD_fr (zdis_fr hfm8 rfl) hRWDm5
  have hSm8 := zt_Sf (W := []) (fun p => zfr_ap (p := p) hfm8 zq_1 rfl) hSm5
  have r10 : 0 ≤ (m8 3 1) ∧ (m8 3 1) ≤ 700 := zi_rd hIm8 zq_3 zb_2_1
  have e11 : (m8 3 1) = (m0 3 1) := (Eq.trans (zfr_ap hfm8 zq_3 rfl) (zfr_ap hfm5 zq_3 rfl))
  have r12 : 0 ≤ (m8 190 1) ∧ (m8 190 1) ≤ 700 := zi_rd hIm8 zq_190 zb_28_1
  have e13 : (m8 190 1) = (m0 190 1) := (Eq.trans (zfr_ap hfm8 zq_190 rfl) (zfr_ap hfm5 zq_190 rfl))
  exact zw_kex (ih _ ⟨hIm8, hRBNm8, hRC0m8, hRE115m8, hRE63m8, hRE89m8, hRG5m8, hRK10m8, hRK54m8, hRKNm8, hRLTm8, hRNSm8, hRRIm8, hRRUm8, hRSEm8, hRTEm8, hRUNm8, hRUWm8, hRWDm8, by omega, hSm8⟩)
theorem zlw_964 {n : Nat} {K : Nat → Nat → Nat → List zu_v → List zu_v → zu_m → Prop} (hst : zt_HS n K) (hp2 : ∀ (cells slots pc : Nat) (i v : Int) (m : zu_m), pc ∈ [529, 552, 1012, 1023] → K cells slots (pc + 1) [(3, 1), (5, 3), (40, 190), (53, 233), (0, i), (2, 0), (2, 0)] [] m → K cells slots pc [(3, 1), (5, 3), (40, 190), (53, 233), (0, i), (2, 0), (2, 0)] [(1, v)] m) {cells slots : Nat} {i : Int} {m0 : zu_m} (hN : zt_INV m0) (hi0 : 0 ≤ i) (hi1 : i ≤ (n : Int) - 6) (hn : n ≤ 3072) (ih : ∀ m, zt_INV m → K cells slots 1453 [(3, 1), (5, 3), (40, 190), (53, 233), (0, i), (2, 0), (2, 0)] [] m) : K cells slots 964 [(3, 1), (5, 3), (40, 190), (53, 233), (0, i), (2, 0), (2, 0)] [] m0 := by
  refine hst cells slots [23, 208, 281, 306, 331, 356, 370, 396, 433, 470, 507, 529, 552, 556, 605, 618, 655, 680, 705, 730, 755, 792, 865, 902, 939, 964, 977, 1002, 1012, 1023, 1027, 1040, 1077, 1102, 1127, 1204, 1229, 1254, 1279, 1340, 1389, 1402, 1415, 1428, 1453] 400 964 _ _ _ ?_
  refine zw_eq (zlr_964 n _ _ i m0) ?_
  obtain ⟨hIm0, hRBNm0, hRC0m0, hRE115m0, hRE63m0, hRE89m0, hRG5m0, hRK10m0, hRK54m0, hRKNm0, hRLTm0, hRNSm0, hRRIm0, hRRUm0, hRSEm0, hRTEm0, hRUNm0, hRUWm0, hRWDm0, hT, hSm0⟩ := hN
  have hFm0 : zfr zt_Wl m0 m0 := zfr_rf _ _
  have r1 : 0 ≤ (m0 3 1) ∧ (m0 3 1) ≤ 700 := zi_rd hIm0 zq_3 zb_2_1
  have r2 : 0 ≤ (m0 190 1) ∧ (m0 190 1) ≤ 700 := zi_rd hIm0 zq_190 zb_28_1
  refine zw_bd (zw_mono (zk_65 n hIm0 zq_3) (fun v4 m3 hqm3 => ?_))
  obtain ⟨hIm3, hfm3, hvm3⟩ := hqm3
  have hFm3 := zfr_tr hFm0 hfm3 rfl
  have hRBNm3 := zR_BN_fr (zdis_fr hfm3 rfl) hRBNm0
  have hRC0m3 := zR_C0_fr (zdis_fr hfm3 rfl) hRC0m0
  have hRE115m3 := zR_E115_fr (zdis_fr hfm3 rfl) hRE115m0
  have hRE63m3 := zR_E63_fr (zdis_fr hfm3 rfl) hRE63m0
  have hRE89m3 := zR_E89_fr (zdis_fr hfm3 rfl) hRE89m0
  have hRG5m3 := zR_G5_fr (zdis_fr hfm3 rfl) hRG5m0
  have hRK10m3 := zR_K10_fr (zdis_fr hfm3 rfl) hRK10m0
  have hRK54m3 := zR_K54_fr (zdis_fr hfm3 rfl) hRK54m0
  have hRKNm3 := zR_KN_fr (zdis_fr hfm3 rfl) hRKNm0
  have hRLTm3 := zR_LT_fr (zdis_fr hfm3 rfl) hRLTm0
  have hRNSm3 := zR_NS_fr (zdis_fr hfm3 rfl) hRNSm0
  have hRRIm3 := zR_RI_fr (zdis_fr hfm3 rfl) hRRIm0
  have hRRUm3 := zR_RU_fr (zdis_fr hfm3 rfl) hRRUm0
  have hRSEm3 := zR_SE_fr (zdis_fr hfm3 rfl) hRSEm0
  have hRTEm3 := zR_TE_fr (zdis_fr hfm3 rfl) hRTEm0
  have hRUNm3 := zR_UN_fr (zdis_fr hfm3 rfl) hRUNm0
  have hRUWm3 := zR_UW_fr (zdis_fr hfm3 rfl) hRUWm0
  have hRWDm3 := zR_WD_fr (zdis_fr hfm3 rfl) hRWDm0
  have hSm3 := zt_Sf (W := []) (fun p => zfr_ap (p := p) hfm3 zq_1 rfl) hSm0
  refine zw_bd (zw_mono (zk_170 n hIm3 zq_190) (fun v6 m5 hqm5 => ?_))
  obtain ⟨hIm5, hfm5, hvm5⟩ := hqm5
  have hFm5 := zfr_tr hFm3 hfm5 rfl
  have hRBNm5 := zR_BN_fr (zdis_fr hfm5 rfl) hRBNm3
  have hRC0m5 := zR_C0_fr (zdis_fr hfm5 rfl) hRC0m3
  have hRE115m5 := zR_E115_fr (zdis_fr hfm5 rfl) hRE115m3
  have hRE63m5 := zR_E63_fr (zdis_fr hfm5 rfl) hRE63m3
  have hRE89m5 := zR_E89_fr (zdis_fr hfm5 rfl) hRE89m3
  have hRG5m5 := zR_G5_fr (zdis_fr hfm5 rfl) hRG5m3
  have hRK10m5 := zR_K10_fr (zdis_fr hfm5 rfl) hRK10m3
  have hRK54m5 := zR_K54_fr (zdis_fr hfm5 rfl) hRK54m3
  have hRKNm5 := zR_KN_fr (zdis_fr hfm5 rfl) hRKNm3
  have hRLTm5 := zR_LT_fr (zdis_fr hfm5 rfl) hRLTm3
  have hRNSm5 := zR_NS_fr (zdis_fr hfm5 rfl) hRNSm3
  have hRRIm5 := zR_RI_fr (zdis_fr hfm5 rfl) hRRIm3
  have hRRUm5 := zR_RU_fr (zdis_fr hfm5 rfl) hRRUm3
  have hRSEm5 := zR_SE_fr (zdis_fr hfm5 rfl) hRSEm3
  have hRTEm5 := zR_TE_fr (zdis_fr hfm5 rfl) hRTEm3
  have hRUNm5 := zR_UN_fr (zdis_fr hfm5 rfl) hRUNm3
  have hRUWm5 := zR_UW_fr (zdis_fr hfm5 rfl) hRUWm3
  have hRWDm5 := zR_WD_fr (zdis_fr hfm5 rfl) hRWDm3
  have hSm5 := zt_Sf (W := []) (fun p => zfr_ap (p := p) hfm5 zq_1 rfl) hSm3
  have r7 : 0 ≤ (m5 3 1) ∧ (m5 3 1) ≤ 700 := zi_rd hIm5 zq_3 zb_2_1
  have e8 : (m5 3 1) = (m0 3 1) := (Eq.trans (zfr_ap hfm5 zq_3 rfl) (zfr_ap hfm3 zq_3 rfl))
  have r9 : 0 ≤ (m5 190 1) ∧ (m5 190 1) ≤ 700 := zi_rd hIm5 zq_190 zb_28_1
  have e10 : (m5 190 1) = (m0 190 1) := (Eq.trans (zfr_ap hfm5 zq_190 rfl) (zfr_ap hfm3 zq_190 rfl))
  exact zw_kex (ih _ ⟨hIm5, hRBNm5, hRC0m5, hRE115m5, hRE63m5, hRE89m5, hRG5m5, hRK10m5, hRK54m5, hRKNm5, hRLTm5, hRNSm5, hRRIm5, hRRUm5, hRSEm5, hRTEm5, hRUNm5, hRUWm5, hRWDm5, by omega, hSm5⟩)
theorem zlw_977 {n : Nat} {K : Nat → Nat → Nat → List zu_v → List zu_v → zu_m → Prop} (hst : zt_HS n K) (hp2 : ∀ (cells slots pc : Nat) (i v : Int) (m : zu_m), pc ∈ [529, 552, 1012, 1023] → K cells slots (pc + 1) [(3, 1), (5, 3), (40, 190), (53, 233), (0, i), (2, 0), (2, 0)] [] m → K cells slots pc [(3, 1), (5, 3), (40, 190), (53, 233), (0, i), (2, 0), (2, 0)] [(1, v)] m) {cells slots : Nat} {i : Int} {m0 : zu_m} (hN : zt_INV m0) (hi0 : 0 ≤ i) (hi1 : i ≤ (n : Int) - 6) (hn : n ≤ 3072) (ih : ∀ m, zt_INV m → K cells slots 1453 [(3, 1), (5, 3), (40, 190), (53, 233), (0, i), (2, 0), (2, 0)] [] m) : K cells slots 977 [(3, 1), (5, 3), (40, 190), (53, 233), (0, i), (2, 0), (2, 0)] [] m0 := by
  refine hst cells slots [23, 208, 281, 306, 331, 356, 370, 396, 433, 470, 507, 529, 552, 556, 605, 618, 655, 680, 705, 730, 755, 792, 865, 902, 939, 964, 977, 1002, 1012, 1023, 1027, 1040, 1077, 1102, 1127, 1204, 1229, 1254, 1279, 1340, 1389, 1402, 1415, 1428, 1453] 400 977 _ _ _ ?_
  refine zw_eq (zlr_977 n _ _ i m0) ?_
  obtain ⟨hIm0, hRBNm0, hRC0m0, hRE115m0, hRE63m0, hRE89m0, hRG5m0, hRK10m0, hRK54m0, hRKNm0, hRLTm0, hRNSm0, hRRIm0, hRRUm0, hRSEm0, hRTEm0, hRUNm0, hRUWm0, hRWDm0, hT, hSm0⟩ := hN
  have hFm0 : zfr zt_Wl m0 m0 := zfr_rf _ _
  have r1 : 0 ≤ (m0 3 1) ∧ (m0 3 1) ≤ 700 := zi_rd hIm0 zq_3 zb_2_1
  have r2 : 0 ≤ (m0 190 1) ∧ (m0 190 1) ≤ 700 := zi_rd hIm0 zq_190 zb_28_1
  have w3 := zu_w32_id (z := i + 1) (by omega) (by omega)
  refine zw_if ⟨by omega, by omega⟩ ?_
  have r4 := hSm0 (zu_w32 (i + 1))
  refine zw_bd (zw_mono (zk_66 n hIm0 zq_3 ⟨by omega, by omega⟩) (fun v6 m5 hqm5 => ?_))
  obtain ⟨hIm5, hfm5, hvm5⟩ := hqm5
  have hFm5 := zfr_tr hFm0 hfm5 rfl
  have hRBNm5 := zR_BN_fr (zdis_fr hfm5 rfl) hRBNm0
  have hRC0m5 := zR_C0_fr (zdis_fr hfm5 rfl) hRC0m0
  have hRE115m5 := zR_E115_fr (zdis_fr hfm5 rfl) hRE115m0
  have hRE63m5 := zR_E63_fr (zdis_fr hfm5 rfl) hRE63m0
  have hRE89m5 := zR_E89_fr (zdis_fr hfm5 rfl) hRE89m0
  have hRG5m5 := zR_G5_fr (zdis_fr hfm5 rfl) hRG5m0
  have hRK10m5 := zR_K10_fr (zdis_fr hfm5 rfl) hRK10m0
  have hRK54m5 := zR_K54_fr (zdis_fr hfm5 rfl) hRK54m0
  have hRKNm5 := zR_KN_fr (zdis_fr hfm5 rfl) hRKNm0
  have hRLTm5 := zR_LT_fr (zdis_fr hfm5 rfl) hRLTm0
  have hRNSm5 := zR_NS_fr (zdis_fr hfm5 rfl) hRNSm0
  have hRRIm5 := zR_RI_fr (zdis_fr hfm5 rfl) hRRIm0
  have hRRUm5 := zR_RU_fr (zdis_fr hfm5 rfl) hRRUm0
  have hRSEm5 := zR_SE_fr (zdis_fr hfm5 rfl) hRSEm0
  have hRTEm5 := zR_TE_fr (zdis_fr hfm5 rfl) hRTEm0
  have hRUNm5 := zR_UN_fr (zdis_fr hfm5 rfl) hRUNm0
  have hRUWm5 := zR_UW_fr (zdis_fr hfm5 rfl) hRUWm0
  have hRWDm5 := zR_WD_fr (zdis_fr hfm5 rfl) hRWDm0
  have hSm5 := zt_Sf (W := []) (fun p => zfr_ap (p := p) hfm5 zq_1 rfl) hSm0
  refine zw_if ⟨by omega, by omega⟩ ?_
  have r7 := hSm5 (zu_w32 (i + 1))
  refine zw_bd (zw_mono (zk_171 n hIm5 zq_190 ⟨by omega, by omega⟩) (fun v9 m8 hqm8 => ?_))
  obtain ⟨hIm8, hfm8, hvm8⟩ := hqm8
  have hFm8 := zfr_tr hFm5 hfm8 rfl
  have hRBNm8 := zR_BN_fr (zdis_fr hfm8 rfl) hRBNm5
  have hRC0m8 := zR_C0_fr (zdis_fr hfm8 rfl) hRC0m5
  have hRE115m8 := zR_E115_fr (zdis_fr hfm8 rfl) hRE115m5
  have hRE63m8 := zR_E63_fr (zdis_fr hfm8 rfl) hRE63m5
  have hRE89m8 := zR_E89_fr (zdis_fr hfm8 rfl) hRE89m5
  have hRG5m8 := zR_G5_fr (zdis_fr hfm8 rfl) hRG5m5
  have hRK10m8 := zR_K10_fr (zdis_fr hfm8 rfl) hRK10m5
  have hRK54m8 := zR_K54_fr (zdis_fr hfm8 rfl) hRK54m5
  have hRKNm8 := zR_KN_fr (zdis_fr hfm8 rfl) hRKNm5
  have hRLTm8 := zR_LT_fr (zdis_fr hfm8 rfl) hRLTm5
  have hRNSm8 := zR_NS_fr (zdis_fr hfm8 rfl) hRNSm5
  have hRRIm8 := zR_RI_fr (zdis_fr hfm8 rfl) hRRIm5
  have hRRUm8 := zR_RU_fr (zdis_fr hfm8 rfl) hRRUm5
  have hRSEm8 := zR_SE_fr (zdis_fr hfm8 rfl) hRSEm5
  have hRTEm8 := zR_TE_fr (zdis_fr hfm8 rfl) hRTEm5
  have hRUNm8 := zR_UN_fr (zdis_fr hfm8 rfl) hRUNm5
  have hRUWm8 := zR_UW_fr (zdis_fr hfm8 rfl) hRUWm5
  have hRWDm8 := zR_WD_fr (zdis_fr hfm8 rfl) hRWDm5
  have hSm8 := zt_Sf (W := []) (fun p => zfr_ap (p := p) hfm8 zq_1 rfl) hSm5
  have r10 : 0 ≤ (m8 3 1) ∧ (m8 3 1) ≤ 700 := zi_rd hIm8 zq_3 zb_2_1
  have e11 : (m8 3 1) = (m0 3 1) := (Eq.trans (zfr_ap hfm8 zq_3 rfl) (zfr_ap hfm5 zq_3 rfl))
  have r12 : 0 ≤ (m8 190 1) ∧ (m8 190 1) ≤ 700 := zi_rd hIm8 zq_190 zb_28_1
  have e13 : (m8 190 1) = (m0 190 1) := (Eq.trans (zfr_ap hfm8 zq_190 rfl) (zfr_ap hfm5 zq_190 rfl))
  exact zw_kex (ih _ ⟨hIm8, hRBNm8, hRC0m8, hRE115m8, hRE63m8, hRE89m8, hRG5m8, hRK10m8, hRK54m8, hRKNm8, hRLTm8, hRNSm8, hRRIm8, hRRUm8, hRSEm8, hRTEm8, hRUNm8, hRUWm8, hRWDm8, by omega, hSm8⟩)
theorem zlw_1002 {n : Nat} {K : Nat → Nat → Nat → List zu_v → List zu_v → zu_m → Prop} (hst : zt_HS n K) (hp2 : ∀ (cells slots pc : Nat) (i v : Int) (m : zu_m), pc ∈ [529, 552, 1012, 1023] → K cells slots (pc + 1) [(3, 1), (5, 3), (40, 190), (53, 233), (0, i), (2, 0), (2, 0)] [] m → K cells slots pc [(3, 1), (5, 3), (40, 190), (53, 233), (0, i), (2, 0), (2, 0)] [(1, v)] m) {cells slots : Nat} {i : Int} {m0 : zu_m} (hN : zt_INV m0) (hi0 : 0 ≤ i) (hi1 : i ≤ (n : Int) - 6) (hn : n ≤ 3072) (ih : ∀ m, zt_INV m → K cells slots 1453 [(3, 1), (5, 3), (40, 190), (53, 233), (0, i), (2, 0), (2, 0)] [] m) : K cells slots 1002 [(3, 1), (5, 3), (40, 190), (53, 233), (0, i), (2, 0), (2, 0)] [] m0 := by
  refine hst cells slots [23, 208, 281, 306, 331, 356, 370, 396, 433, 470, 507, 529, 552, 556, 605, 618, 655, 680, 705, 730, 755, 792, 865, 902, 939, 964, 977, 1002, 1012, 1023, 1027, 1040, 1077, 1102, 1127, 1204, 1229, 1254, 1279, 1340, 1389, 1402, 1415, 1428, 1453] 400 1002 _ _ _ ?_
  refine zw_eq (zlr_1002 n _ _ i m0) ?_
  obtain ⟨hIm0, hRBNm0, hRC0m0, hRE115m0, hRE63m0, hRE89m0, hRG5m0, hRK10m0, hRK54m0, hRKNm0, hRLTm0, hRNSm0, hRRIm0, hRRUm0, hRSEm0, hRTEm0, hRUNm0, hRUWm0, hRWDm0, hT, hSm0⟩ := hN
  have hFm0 : zfr zt_Wl m0 m0 := zfr_rf _ _
  have r1 : 0 ≤ (m0 3 1) ∧ (m0 3 1) ≤ 700 := zi_rd hIm0 zq_3 zb_2_1
  have r2 : 0 ≤ (m0 190 1) ∧ (m0 190 1) ≤ 700 := zi_rd hIm0 zq_190 zb_28_1
  have w3 := zu_w32_id (z := i + 1) (by omega) (by omega)
  refine zw_if ⟨by omega, by omega⟩ ?_
  have r4 := hSm0 (zu_w32 (i + 1))
  refine zw_bd (zw_mono (zk_67 n hIm0 zq_3 ⟨by omega, by omega⟩) (fun v6 m5 hqm5 => ?_))
  obtain ⟨hIm5, hfm5, hvm5⟩ := hqm5
  have hFm5 := zfr_tr hFm0 hfm5 rfl
  have hRBNm5 := zR_BN_fr (zdis_fr hfm5 rfl) hRBNm0
  have hRC0m5 := zR_C0_fr (zdis_fr hfm5 rfl) hRC0m0
  have hRE115m5 := zR_E115_fr (zdis_fr hfm5 rfl) hRE115m0
  have hRE63m5 := zR_E63_fr (zdis_fr hfm5 rfl) hRE63m0
  have hRE89m5 := zR_E89_fr (zdis_fr hfm5 rfl) hRE89m0
  have hRG5m5 := zR_G5_fr (zdis_fr hfm5 rfl) hRG5m0
  have hRK10m5 := zR_K10_fr (zdis_fr hfm5 rfl) hRK10m0
  have hRK54m5 := zR_K54_fr (zdis_fr hfm5 rfl) hRK54m0
  have hRKNm5 := zR_KN_fr (zdis_fr hfm5 rfl) hRKNm0
  have hRLTm5 := zR_LT_fr (zdis_fr hfm5 rfl) hRLTm0
  have hRNSm5 := zR_NS_fr (zdis_fr hfm5 rfl) hRNSm0
  have hRRIm5 := zR_RI_fr (zdis_fr hfm5 rfl) hRRIm0
  have hRRUm5 := zR_RU_fr (zdis_fr hfm5 rfl) hRRUm0
  have hRSEm5 := zR_SE_fr (zdis_fr hfm5 rfl) hRSEm0
  have hRTEm5 := zR_TE_fr (zdis_fr hfm5 rfl) hRTEm0
  have hRUNm5 := zR_UN_fr (zdis_fr hfm5 rfl) hRUNm0
  have hRUWm5 := zR_UW_fr (zdis_fr hfm5 rfl) hRUWm0
  have hRWDm5 := zR_WD_fr (zdis_fr hfm5 rfl) hRWDm0
  have hSm5 := zt_Sf (W := []) (fun p => zfr_ap (p := p) hfm5 zq_1 rfl) hSm0
  have r7 : 0 ≤ (m5 3 1) ∧ (m5 3 1) ≤ 700 := zi_rd hIm5 zq_3 zb_2_1
  have e8 : (m5 3 1) = (m0 3 1) := (zfr_ap hfm5 zq_3 rfl)
  have r9 : 0 ≤ (m5 190 1) ∧ (m5 190 1) ≤ 700 := zi_rd hIm5 zq_190 zb_28_1
  have e10 : (m5 190 1) = (m0 190 1) := (zfr_ap hfm5 zq_190 rfl)
  exact zw_kex (hp2 _ _ _ _ _ _ (by decide) (zlw_1013 hst hp2 ⟨hIm5, hRBNm5, hRC0m5, hRE115m5, hRE63m5, hRE89m5, hRG5m5, hRK10m5, hRK54m5, hRKNm5, hRLTm5, hRNSm5, hRRIm5, hRRUm5, hRSEm5, hRTEm5, hRUNm5, hRUWm5, hRWDm5, by omega, hSm5⟩ hi0 hi1 hn ih))
theorem zlw_1027 {n : Nat} {K : Nat → Nat → Nat → List zu_v → List zu_v → zu_m → Prop} (hst : zt_HS n K) (hp2 : ∀ (cells slots pc : Nat) (i v : Int) (m : zu_m), pc ∈ [529, 552, 1012, 1023] → K cells slots (pc + 1) [(3, 1), (5, 3), (40, 190), (53, 233), (0, i), (2, 0), (2, 0)] [] m → K cells slots pc [(3, 1), (5, 3), (40, 190), (53, 233), (0, i), (2, 0), (2, 0)] [(1, v)] m) {cells slots : Nat} {i : Int} {m0 : zu_m} (hN : zt_INV m0) (hi0 : 0 ≤ i) (hi1 : i ≤ (n : Int) - 6) (hn : n ≤ 3072) (ih : ∀ m, zt_INV m → K cells slots 1453 [(3, 1), (5, 3), (40, 190), (53, 233), (0, i), (2, 0), (2, 0)] [] m) : K cells slots 1027 [(3, 1), (5, 3), (40, 190), (53, 233), (0, i), (2, 0), (2, 0)] [] m0 := by
  refine hst cells slots [23, 208, 281, 306, 331, 356, 370, 396, 433, 470, 507, 529, 552, 556, 605, 618, 655, 680, 705, 730, 755, 792, 865, 902, 939, 964, 977, 1002, 1012, 1023, 1027, 1040, 1077, 1102, 1127, 1204, 1229, 1254, 1279, 1340, 1389, 1402, 1415, 1428, 1453] 400 1027 _ _ _ ?_
  refine zw_eq (zlr_1027 n _ _ i m0) ?_
  obtain ⟨hIm0, hRBNm0, hRC0m0, hRE115m0, hRE63m0, hRE89m0, hRG5m0, hRK10m0, hRK54m0, hRKNm0, hRLTm0, hRNSm0, hRRIm0, hRRUm0, hRSEm0, hRTEm0, hRUNm0, hRUWm0, hRWDm0, hT, hSm0⟩ := hN
  have hFm0 : zfr zt_Wl m0 m0 := zfr_rf _ _
  have r1 : 0 ≤ (m0 3 1) ∧ (m0 3 1) ≤ 700 := zi_rd hIm0 zq_3 zb_2_1
  have r2 : 0 ≤ (m0 190 1) ∧ (m0 190 1) ≤ 700 := zi_rd hIm0 zq_190 zb_28_1
  refine zw_bd (zw_mono (zk_68 n hIm0 zq_3 hRK54m0) (fun v4 m3 hqm3 => ?_))
  obtain ⟨hIm3, hfm3, hvm3⟩ := hqm3
  have hFm3 := zfr_tr hFm0 hfm3 rfl
  obtain ⟨hRK54m3, hvm3⟩ := hvm3
  have hRBNm3 := zR_BN_fr (zdis_fr hfm3 rfl) hRBNm0
  have hRC0m3 := zR_C0_fr (zdis_fr hfm3 rfl) hRC0m0
  have hRE115m3 := zR_E115_fr (zdis_fr hfm3 rfl) hRE115m0
  have hRE63m3 := zR_E63_fr (zdis_fr hfm3 rfl) hRE63m0
  have hRE89m3 := zR_E89_fr (zdis_fr hfm3 rfl) hRE89m0
  have hRG5m3 := zR_G5_fr (zdis_fr hfm3 rfl) hRG5m0
  have hRK10m3 := zR_K10_fr (zdis_fr hfm3 rfl) hRK10m0
  have hRKNm3 := zR_KN_fr (zdis_fr hfm3 rfl) hRKNm0
  have hRLTm3 := zR_LT_fr (zdis_fr hfm3 rfl) hRLTm0
  have hRNSm3 := zR_NS_fr (zdis_fr hfm3 rfl) hRNSm0
  have hRRIm3 := zR_RI_fr (zdis_fr hfm3 rfl) hRRIm0
  have hRRUm3 := zR_RU_fr (zdis_fr hfm3 rfl) hRRUm0
  have hRSEm3 := zR_SE_fr (zdis_fr hfm3 rfl) hRSEm0
  have hRTEm3 := zR_TE_fr (zdis_fr hfm3 rfl) hRTEm0
  have hRUNm3 := zR_UN_fr (zdis_fr hfm3 rfl) hRUNm0
  have hRUWm3 := zR_UW_fr (zdis_fr hfm3 rfl) hRUWm0
  have hRWDm3 := zR_WD_fr (zdis_fr hfm3 rfl) hRWDm0
  have hSm3 := zt_Sf (W := []) (fun p => zfr_ap (p := p) hfm3 zq_1 rfl) hSm0
  refine zw_bd (zw_mono (zk_173 n hIm3 zq_190 hRKNm3 hRLTm3) (fun v6 m5 hqm5 => ?_))
  obtain ⟨hIm5, hfm5, hvm5⟩ := hqm5
  have hFm5 := zfr_tr hFm3 hfm5 rfl
  obtain ⟨hRKNm5, hRLTm5, hvm5⟩ := hvm5
  have hRBNm5 := zR_BN_fr (zdis_fr hfm5 rfl) hRBNm3
  have hRC0m5 := zR_C0_fr (zdis_fr hfm5 rfl) hRC0m3
  have hRE115m5 := zR_E115_fr (zdis_fr hfm5 rfl) hRE115m3
  have hRE63m5 := zR_E63_fr (zdis_fr hfm5 rfl) hRE63m3
  have hRE89m5 := zR_E89_fr (zdis_fr hfm5 rfl) hRE89m3
  have hRG5m5 := zR_G5_fr (zdis_fr hfm5 rfl) hRG5m3
  have hRK10m5 := zR_K10_fr (zdis_fr hfm5 rfl) hRK10m3
  have hRK54m5 := zR_K54_fr (zdis_fr hfm5 rfl) hRK54m3
  have hRNSm5 := zR_NS_fr (zdis_fr hfm5 rfl) hRNSm3
  have hRRIm5 := zR_RI_fr (zdis_fr hfm5 rfl) hRRIm3
  have hRRUm5 := zR_RU_fr (zdis_fr hfm5 rfl) hRRUm3
  have hRSEm5 := zR_SE_fr (zdis_fr hfm5 rfl) hRSEm3
  have hRTEm5 := zR_TE_fr (zdis_fr hfm5 rfl) hRTEm3
  have hRUNm5 := zR_UN_fr (zdis_fr hfm5 rfl) hRUNm3
  have hRUWm5 := zR_UW_fr (zdis_fr hfm5 rfl) hRUWm3
  have hRWDm5 := zR_WD_fr (zdis_fr hfm5 rfl) hRWDm3
  have hSm5 := zt_Sf (W := []) (fun p => zfr_ap (p := p) hfm5 zq_1 rfl) hSm3
  have r7 : 0 ≤ (m5 3 1) ∧ (m5 3 1) ≤ 700 := zi_rd hIm5 zq_3 zb_2_1
  have e8 : (m5 3 1) = (m0 3 1) := (Eq.trans (zfr_ap hfm5 zq_3 rfl) (zfr_ap hfm3 zq_3 rfl))
  have r9 : 0 ≤ (m5 190 1) ∧ (m5 190 1) ≤ 700 := zi_rd hIm5 zq_190 zb_28_1
  have e10 : (m5 190 1) = (m0 190 1) := (Eq.trans (zfr_ap hfm5 zq_190 rfl) (zfr_ap hfm3 zq_190 rfl))
  exact zw_kex (ih _ ⟨hIm5, hRBNm5, hRC0m5, hRE115m5, hRE63m5, hRE89m5, hRG5m5, hRK10m5, hRK54m5, hRKNm5, hRLTm5, hRNSm5, hRRIm5, hRRUm5, hRSEm5, hRTEm5, hRUNm5, hRUWm5, hRWDm5, by omega, hSm5⟩)
theorem zlw_1040 {n : Nat} {K : Nat → Nat → Nat → List zu_v → List zu_v → zu_m → Prop} (hst : zt_HS n K) (hp2 : ∀ (cells slots pc : Nat) (i v : Int) (m : zu_m), pc ∈ [529, 552, 1012, 1023] → K cells slots (pc + 1) [(3, 1), (5, 3), (40, 190), (53, 233), (0, i), (2, 0), (2, 0)] [] m → K cells slots pc [(3, 1), (5, 3), (40, 190), (53, 233), (0, i), (2, 0), (2, 0)] [(1, v)] m) {cells slots : Nat} {i : Int} {m0 : zu_m} (hN : zt_INV m0) (hi0 : 0 ≤ i) (hi1 : i ≤ (n : Int) - 6) (hn : n ≤ 3072) (ih : ∀ m, zt_INV m → K cells slots 1453 [(3, 1), (5, 3), (40, 190), (53, 233), (0, i), (2, 0), (2, 0)] [] m) : K cells slots 1040 [(3, 1), (5, 3), (40, 190), (53, 233), (0, i), (2, 0), (2, 0)] [] m0 := by
  refine hst cells slots [23, 208, 281, 306, 331, 356, 370, 396, 433, 470, 507, 529, 552, 556, 605, 618, 655, 680, 705, 730, 755, 792, 865, 902, 939, 964, 977, 1002, 1012, 1023, 1027, 1040, 1077, 1102, 1127, 1204, 1229, 1254, 1279, 1340, 1389, 1402, 1415, 1428, 1453] 400 1040 _ _ _ ?_
  refine zw_eq (zlr_1040 n _ _ i m0) ?_
  obtain ⟨hIm0, hRBNm0, hRC0m0, hRE115m0, hRE63m0, hRE89m0, hRG5m0, hRK10m0, hRK54m0, hRKNm0, hRLTm0, hRNSm0, hRRIm0, hRRUm0, hRSEm0, hRTEm0, hRUNm0, hRUWm0, hRWDm0, hT, hSm0⟩ := hN
  have hFm0 : zfr zt_Wl m0 m0 := zfr_rf _ _
  have r1 : 0 ≤ (m0 3 1) ∧ (m0 3 1) ≤ 700 := zi_rd hIm0 zq_3 zb_2_1
  have r2 : 0 ≤ (m0 190 1) ∧ (m0 190 1) ≤ 700 := zi_rd hIm0 zq_190 zb_28_1
  have w3 := zu_w32_id (z := i + 1) (by omega) (by omega)
  refine zw_if ⟨by omega, by omega⟩ ?_
  have r4 := hSm0 (zu_w32 (i + 1))
  have w5 := zu_w32_id (z := i + 2) (by omega) (by omega)
  refine zw_if ⟨by omega, by omega⟩ ?_
  have r6 := hSm0 (zu_w32 (i + 2))
  refine zw_bd (zw_mono (zk_69 n hIm0 zq_3 ⟨by omega, by omega⟩ ⟨by omega, by omega⟩ hRK54m0) (fun v8 m7 hqm7 => ?_))
  obtain ⟨hIm7, hfm7, hvm7⟩ := hqm7
  have hFm7 := zfr_tr hFm0 hfm7 rfl
  obtain ⟨hRK54m7, hvm7⟩ := hvm7
  have hRBNm7 := zR_BN_fr (zdis_fr hfm7 rfl) hRBNm0
  have hRC0m7 := zR_C0_fr (zdis_fr hfm7 rfl) hRC0m0
  have hRE115m7 := zR_E115_fr (zdis_fr hfm7 rfl) hRE115m0
  have hRE63m7 := zR_E63_fr (zdis_fr hfm7 rfl) hRE63m0
  have hRE89m7 := zR_E89_fr (zdis_fr hfm7 rfl) hRE89m0
  have hRG5m7 := zR_G5_fr (zdis_fr hfm7 rfl) hRG5m0
  have hRK10m7 := zR_K10_fr (zdis_fr hfm7 rfl) hRK10m0
  have hRKNm7 := zR_KN_fr (zdis_fr hfm7 rfl) hRKNm0
  have hRLTm7 := zR_LT_fr (zdis_fr hfm7 rfl) hRLTm0
  have hRNSm7 := zR_NS_fr (zdis_fr hfm7 rfl) hRNSm0
  have hRRIm7 := zR_RI_fr (zdis_fr hfm7 rfl) hRRIm0
  have hRRUm7 := zR_RU_fr (zdis_fr hfm7 rfl) hRRUm0
  have hRSEm7 := zR_SE_fr (zdis_fr hfm7 rfl) hRSEm0
  have hRTEm7 := zR_TE_fr (zdis_fr hfm7 rfl) hRTEm0
  have hRUNm7 := zR_UN_fr (zdis_fr hfm7 rfl) hRUNm0
  have hRUWm7 := zR_UW_fr (zdis_fr hfm7 rfl) hRUWm0
  have hRWDm7 := zR_WD_fr (zdis_fr hfm7 rfl) hRWDm0
  have hSm7 := zt_Sf (W := []) (fun p => zfr_ap (p := p) hfm7 zq_1 rfl) hSm0
  refine zw_if ⟨by omega, by omega⟩ ?_
  have r9 := hSm7 (zu_w32 (i + 1))
  refine zw_if ⟨by omega, by omega⟩ ?_
  have r10 := hSm7 (zu_w32 (i + 2))
  refine zw_bd (zw_mono (zk_174 n hIm7 zq_190 ⟨by omega, by omega⟩ ⟨by omega, by omega⟩ hRKNm7 hRLTm7) (fun v12 m11 hqm11 => ?_))
  obtain ⟨hIm11, hfm11, hvm11⟩ := hqm11
  have hFm11 := zfr_tr hFm7 hfm11 rfl
  obtain ⟨hRKNm11, hRLTm11, hvm11⟩ := hvm11
  have hRBNm11 := zR_BN_fr (zdis_fr hfm11 rfl) hRBNm7
  have hRC0m11 := zR_C0_fr (zdis_fr hfm11 rfl) hRC0m7
  have hRE115m11 := zR_E115_fr (zdis_fr hfm11 rfl) hRE115m7
  have hRE63m11 := zR_E63_fr (zdis_fr hfm11 rfl) hRE63m7
  have hRE89m11 := zR_E89_fr (zdis_fr hfm11 rfl) hRE89m7
  have hRG5m11 := zR_G5_fr (zdis_fr hfm11 rfl) hRG5m7
  have hRK10m11 := zR_K10_fr (zdis_fr hfm11 rfl) hRK10m7
  have hRK54m11 := zR_K54_fr (zdis_fr hfm11 rfl) hRK54m7
  have hRNSm11 := zR_NS_fr (zdis_fr hfm11 rfl) hRNSm7
  have hRRIm11 := zR_RI_fr (zdis_fr hfm11 rfl) hRRIm7
  have hRRUm11 := zR_RU_fr (zdis_fr hfm11 rfl) hRRUm7
  have hRSEm11 := zR_SE_fr (zdis_fr hfm11 rfl) hRSEm7
  have hRTEm11 := zR_TE_fr (zdis_fr hfm11 rfl) hRTEm7
  have hRUNm11 := zR_UN_fr (zdis_fr hfm11 rfl) hRUNm7
  have hRUWm11 := zR_UW_fr (zdis_fr hfm11 rfl) hRUWm7
  have hRWDm11 := zR_WD_fr (zdis_fr hfm11 rfl) hRWDm7
  have hSm11 := zt_Sf (W := []) (fun p => zfr_ap (p := p) hfm11 zq_1 rfl) hSm7
  have r13 : 0 ≤ (m11 3 1) ∧ (m11 3 1) ≤ 700 := zi_rd hIm11 zq_3 zb_2_1
  have e14 : (m11 3 1) = (m0 3 1) := (Eq.trans (zfr_ap hfm11 zq_3 rfl) (zfr_ap hfm7 zq_3 rfl))
  have r15 : 0 ≤ (m11 190 1) ∧ (m11 190 1) ≤ 700 := zi_rd hIm11 zq_190 zb_28_1
  have e16 : (m11 190 1) = (m0 190 1) := (Eq.trans (zfr_ap hfm11 zq_190 rfl) (zfr_ap hfm7 zq_190 rfl))
  exact zw_kex (ih _ ⟨hIm11, hRBNm11, hRC0m11, hRE115m11, hRE63m11, hRE89m11, hRG5m11, hRK10m11, hRK54m11, hRKNm11, hRLTm11, hRNSm11, hRRIm11, hRRUm11, hRSEm11, hRTEm11, hRUNm11, hRUWm11, hRWDm11, by omega, hSm11⟩)
theorem zlw_1077 {n : Nat} {K : Nat → Nat → Nat → List zu_v → List zu_v → zu_m → Prop} (hst : zt_HS n K) (hp2 : ∀ (cells slots pc : Nat) (i v : Int) (m : zu_m), pc ∈ [529, 552, 1012, 1023] → K cells slots (pc + 1) [(3, 1), (5, 3), (40, 190), (53, 233), (0, i), (2, 0), (2, 0)] [] m → K cells slots pc [(3, 1), (5, 3), (40, 190), (53, 233), (0, i), (2, 0), (2, 0)] [(1, v)] m) {cells slots : Nat} {i : Int} {m0 : zu_m} (hN : zt_INV m0) (hi0 : 0 ≤ i) (hi1 : i ≤ (n : Int) - 6) (hn : n ≤ 3072) (ih : ∀ m, zt_INV m → K cells slots 1453 [(3, 1), (5, 3), (40, 190), (53, 233), (0, i), (2, 0), (2, 0)] [] m) : K cells slots 1077 [(3, 1), (5, 3), (40, 190), (53, 233), (0, i), (2, 0), (2, 0)] [] m0 := by
  refine hst cells slots [23, 208, 281, 306, 331, 356, 370, 396, 433, 470, 507, 529, 552, 556, 605, 618, 655, 680, 705, 730, 755, 792, 865, 902, 939, 964, 977, 1002, 1012, 1023, 1027, 1040, 1077, 1102, 1127, 1204, 1229, 1254, 1279, 1340, 1389, 1402, 1415, 1428, 1453] 400 1077 _ _ _ ?_
  refine zw_eq (zlr_1077 n _ _ i m0) ?_
  obtain ⟨hIm0, hRBNm0, hRC0m0, hRE115m0, hRE63m0, hRE89m0, hRG5m0, hRK10m0, hRK54m0, hRKNm0, hRLTm0, hRNSm0, hRRIm0, hRRUm0, hRSEm0, hRTEm0, hRUNm0, hRUWm0, hRWDm0, hT, hSm0⟩ := hN
  have hFm0 : zfr zt_Wl m0 m0 := zfr_rf _ _
  have r1 : 0 ≤ (m0 3 1) ∧ (m0 3 1) ≤ 700 := zi_rd hIm0 zq_3 zb_2_1
  have r2 : 0 ≤ (m0 190 1) ∧ (m0 190 1) ≤ 700 := zi_rd hIm0 zq_190 zb_28_1
  have w3 := zu_w32_id (z := i + 1) (by omega) (by omega)
  refine zw_if ⟨by omega, by omega⟩ ?_
  have r4 := hSm0 (zu_w32 (i + 1))
  refine zw_bd (zw_mono (zk_70 n hIm0 zq_3 ⟨by omega, by omega⟩ hRK54m0) (fun v6 m5 hqm5 => ?_))
  obtain ⟨hIm5, hfm5, hvm5⟩ := hqm5
  have hFm5 := zfr_tr hFm0 hfm5 rfl
  obtain ⟨hRK54m5, hvm5⟩ := hvm5
  have hRBNm5 := zR_BN_fr (zdis_fr hfm5 rfl) hRBNm0
  have hRC0m5 := zR_C0_fr (zdis_fr hfm5 rfl) hRC0m0
  have hRE115m5 := zR_E115_fr (zdis_fr hfm5 rfl) hRE115m0
  have hRE63m5 := zR_E63_fr (zdis_fr hfm5 rfl) hRE63m0
  have hRE89m5 := zR_E89_fr (zdis_fr hfm5 rfl) hRE89m0
  have hRG5m5 := zR_G5_fr (zdis_fr hfm5 rfl) hRG5m0
  have hRK10m5 := zR_K10_fr (zdis_fr hfm5 rfl) hRK10m0
  have hRKNm5 := zR_KN_fr (zdis_fr hfm5 rfl) hRKNm0
  have hRLTm5 := zR_LT_fr (zdis_fr hfm5 rfl) hRLTm0
  have hRNSm5 := zR_NS_fr (zdis_fr hfm5 rfl) hRNSm0
  have hRRIm5 := zR_RI_fr (zdis_fr hfm5 rfl) hRRIm0
  have hRRUm5 := zR_RU_fr (zdis_fr hfm5 rfl) hRRUm0
  have hRSEm5 := zR_SE_fr (zdis_fr hfm5 rfl) hRSEm0
  have hRTEm5 := zR_TE_fr (zdis_fr hfm5 rfl) hRTEm0
  have hRUNm5 := zR_UN_fr (zdis_fr hfm5 rfl) hRUNm0
  have hRUWm5 := zR_UW_fr (zdis_fr hfm5 rfl) hRUWm0
  have hRWDm5 := zR_WD_fr (zdis_fr hfm5 rfl) hRWDm0
  have hSm5 := zt_Sf (W := []) (fun p => zfr_ap (p := p) hfm5 zq_1 rfl) hSm0
  refine zw_if ⟨by omega, by omega⟩ ?_
  have r7 := hSm5 (zu_w32 (i + 1))
  refine zw_bd (zw_mono (zk_176 n hIm5 zq_190 ⟨by omega, by omega⟩ hRKNm5 hRLTm5) (fun v9 m8 hqm8 => ?_))
  obtain ⟨hIm8, hfm8, hvm8⟩ := hqm8
  have hFm8 := zfr_tr hFm5 hfm8 rfl
  obtain ⟨hRKNm8, hRLTm8, hvm8⟩ := hvm8
  have hRBNm8 := zR_BN_fr (zdis_fr hfm8 rfl) hRBNm5
  have hRC0m8 := zR_C0_fr (zdis_fr hfm8 rfl) hRC0m5
  have hRE115m8 := zR_E115_fr (zdis_fr hfm8 rfl) hRE115m5
  have hRE63m8 := zR_E63_fr (zdis_fr hfm8 rfl) hRE63m5
  have hRE89m8 := zR_E89_fr (zdis_fr hfm8 rfl) hRE89m5
  have hRG5m8 := zR_G5_fr (zdis_fr hfm8 rfl) hRG5m5
  have hRK10m8 := zR_K10_fr (zdis_fr hfm8 rfl) hRK10m5
  have hRK54m8 := zR_K54_fr (zdis_fr hfm8 rfl) hRK54m5
  have hRNSm8 := zR_NS_fr (zdis_fr hfm8 rfl) hRNSm5
  have hRRIm8 := zR_RI_fr (zdis_fr hfm8 rfl) hRRIm5
  have hRRUm8 := zR_RU_fr (zdis_fr hfm8 rfl) hRRUm5
  have hRSEm8 := zR_SE_fr (zdis_fr hfm8 rfl) hRSEm5
  have hRTEm8 := zR_TE_fr (zdis_fr hfm8 rfl) hRTEm5
  have hRUNm8 := zR_UN_fr (zdis_fr hfm8 rfl) hRUNm5
  have hRUWm8 := zR_UW_fr (zdis_fr hfm8 rfl) hRUWm5
  have hRWDm8 := zR_WD_fr (zdis_fr hfm8 rfl) hRWDm5
  have hSm8 := zt_Sf (W := []) (fun p => zfr_ap (p := p) hfm8 zq_1 rfl) hSm5
  have r10 : 0 ≤ (m8 3 1) ∧ (m8 3 1) ≤ 700 := zi_rd hIm8 zq_3 zb_2_1
  have e11 : (m8 3 1) = (m0 3 1) := (Eq.trans (zfr_ap hfm8 zq_3 rfl) (zfr_ap hfm5 zq_3 rfl))
  have r12 : 0 ≤ (m8 190 1) ∧ (m8 190 1) ≤ 700 := zi_rd hIm8 zq_190 zb_28_1
  have e13 : (m8 190 1) = (m0 190 1) := (Eq.trans (zfr_ap hfm8 zq_190 rfl) (zfr_ap hfm5 zq_190 rfl))
  exact zw_kex (ih _ ⟨hIm8, hRBNm8, hRC0m8, hRE115m8, hRE63m8, hRE89m8, hRG5m8, hRK10m8, hRK54m8, hRKNm8, hRLTm8, hRNSm8, hRRIm8, hRRUm8, hRSEm8, hRTEm8, hRUNm8, hRUWm8, hRWDm8, by omega, hSm8⟩)
theorem zlw_1102 {n : Nat} {K : Nat → Nat → Nat → List zu_v → List zu_v → zu_m → Prop} (hst : zt_HS n K) (hp2 : ∀ (cells slots pc : Nat) (i v : Int) (m : zu_m), pc ∈ [529, 552, 1012, 1023] → K cells slots (pc + 1) [(3, 1), (5, 3), (40, 190), (53, 233), (0, i), (2, 0), (2, 0)] [] m → K cells slots pc [(3, 1), (5, 3), (40, 190), (53, 233), (0, i), (2, 0), (2, 0)] [(1, v)] m) {cells slots : Nat} {i : Int} {m0 : zu_m} (hN : zt_INV m0) (hi0 : 0 ≤ i) (hi1 : i ≤ (n : Int) - 6) (hn : n ≤ 3072) (ih : ∀ m, zt_INV m → K cells slots 1453 [(3, 1), (5, 3), (40, 190), (53, 233), (0, i), (2, 0), (2, 0)] [] m) : K cells slots 1102 [(3, 1), (5, 3), (40, 190), (53, 233), (0, i), (2, 0), (2, 0)] [] m0 := by
  refine hst cells slots [23, 208, 281, 306, 331, 356, 370, 396, 433, 470, 507, 529, 552, 556, 605, 618, 655, 680, 705, 730, 755, 792, 865, 902, 939, 964, 977, 1002, 1012, 1023, 1027, 1040, 1077, 1102, 1127, 1204, 1229, 1254, 1279, 1340, 1389, 1402, 1415, 1428, 1453] 400 1102 _ _ _ ?_
  refine zw_eq (zlr_1102 n _ _ i m0) ?_
  obtain ⟨hIm0, hRBNm0, hRC0m0, hRE115m0, hRE63m0, hRE89m0, hRG5m0, hRK10m0, hRK54m0, hRKNm0, hRLTm0, hRNSm0, hRRIm0, hRRUm0, hRSEm0, hRTEm0, hRUNm0, hRUWm0, hRWDm0, hT, hSm0⟩ := hN
  have hFm0 : zfr zt_Wl m0 m0 := zfr_rf _ _
  have r1 : 0 ≤ (m0 3 1) ∧ (m0 3 1) ≤ 700 := zi_rd hIm0 zq_3 zb_2_1
  have r2 : 0 ≤ (m0 190 1) ∧ (m0 190 1) ≤ 700 := zi_rd hIm0 zq_190 zb_28_1
  have w3 := zu_w32_id (z := i + 1) (by omega) (by omega)
  refine zw_if ⟨by omega, by omega⟩ ?_
  have r4 := hSm0 (zu_w32 (i + 1))
  refine zw_bd (zw_mono (zk_71 n hIm0 zq_3 ⟨by omega, by omega⟩ hRK54m0) (fun v6 m5 hqm5 => ?_))
  obtain ⟨hIm5, hfm5, hvm5⟩ := hqm5
  have hFm5 := zfr_tr hFm0 hfm5 rfl
  obtain ⟨hRK54m5, hvm5⟩ := hvm5
  have hRBNm5 := zR_BN_fr (zdis_fr hfm5 rfl) hRBNm0
  have hRC0m5 := zR_C0_fr (zdis_fr hfm5 rfl) hRC0m0
  have hRE115m5 := zR_E115_fr (zdis_fr hfm5 rfl) hRE115m0
  have hRE63m5 := zR_E63_fr (zdis_fr hfm5 rfl) hRE63m0
  have hRE89m5 := zR_E89_fr (zdis_fr hfm5 rfl) hRE89m0
  have hRG5m5 := zR_G5_fr (zdis_fr hfm5 rfl) hRG5m0
  have hRK10m5 := zR_K10_fr (zdis_fr hfm5 rfl) hRK10m0
  have hRKNm5 := zR_KN_fr (zdis_fr hfm5 rfl) hRKNm0
  have hRLTm5 := zR_LT_fr (zdis_fr hfm5 rfl) hRLTm0
  have hRNSm5 := zR_NS_fr (zdis_fr hfm5 rfl) hRNSm0
  have hRRIm5 := zR_RI_fr (zdis_fr hfm5 rfl) hRRIm0
  have hRRUm5 := zR_RU_fr (zdis_fr hfm5 rfl) hRRUm0
  have hRSEm5 := zR_SE_fr (zdis_fr hfm5 rfl) hRSEm0
  have hRTEm5 := zR_TE_fr (zdis_fr hfm5 rfl) hRTEm0
  have hRUNm5 := zR_UN_fr (zdis_fr hfm5 rfl) hRUNm0
  have hRUWm5 := zR_UW_fr (zdis_fr hfm5 rfl) hRUWm0
  have hRWDm5 := zR_WD_fr (zdis_fr hfm5 rfl) hRWDm0
  have hSm5 := zt_Sf (W := []) (fun p => zfr_ap (p := p) hfm5 zq_1 rfl) hSm0
  refine zw_if ⟨by omega, by omega⟩ ?_
  have r7 := hSm5 (zu_w32 (i + 1))
  refine zw_bd (zw_mono (zk_177 n hIm5 zq_190 ⟨by omega, by omega⟩ hRKNm5 hRLTm5) (fun v9 m8 hqm8 => ?_))
  obtain ⟨hIm8, hfm8, hvm8⟩ := hqm8
  have hFm8 := zfr_tr hFm5 hfm8 rfl
  obtain ⟨hRKNm8, hRLTm8, hvm8⟩ := hvm8
  have hRBNm8 := zR_BN_fr (zdis_fr hfm8 rfl) hRBNm5
  have hRC0m8 := zR_C0_fr (zdis_fr hfm8 rfl) hRC0m5
  have hRE115m8 := zR_E115_fr (zdis_fr hfm8 rfl) hRE115m5
  have hRE63m8 := zR_E63_fr (zdis_fr hfm8 rfl) hRE63m5
  have hRE89m8 := zR_E89_fr (zdis_fr hfm8 rfl) hRE89m5
  have hRG5m8 := zR_G5_fr (zdis_fr hfm8 rfl) hRG5m5
  have hRK10m8 := zR_K10_fr (zdis_fr hfm8 rfl) hRK10m5
  have hRK54m8 := zR_K54_fr (zdis_fr hfm8 rfl) hRK54m5
  have hRNSm8 := zR_NS_fr (zdis_fr hfm8 rfl) hRNSm5
  have hRRIm8 := zR_RI_fr (zdis_fr hfm8 rfl) hRRIm5
  have hRRUm8 := zR_RU_fr (zdis_fr hfm8 rfl) hRRUm5
  have hRSEm8 := zR_SE_fr (zdis_fr hfm8 rfl) hRSEm5
  have hRTEm8 := zR_TE_fr (zdis_fr hfm8 rfl) hRTEm5
  have hRUNm8 := zR_UN_fr (zdis_fr hfm8 rfl) hRUNm5
  have hRUWm8 := zR_UW_fr (zdis_fr hfm8 rfl) hRUWm5
  have hRWDm8 := zR_WD_fr (zdis_fr hfm8 rfl) hRWDm5
  have hSm8 := zt_Sf (W := []) (fun p => zfr_ap (p := p) hfm8 zq_1 rfl) hSm5
  have r10 : 0 ≤ (m8 3 1) ∧ (m8 3 1) ≤ 700 := zi_rd hIm8 zq_3 zb_2_1
  have e11 : (m8 3 1) = (m0 3 1) := (Eq.trans (zfr_ap hfm8 zq_3 rfl) (zfr_ap hfm5 zq_3 rfl))
  have r12 : 0 ≤ (m8 190 1) ∧ (m8 190 1) ≤ 700 := zi_rd hIm8 zq_190 zb_28_1
  have e13 : (m8 190 1) = (m0 190 1) := (Eq.trans (zfr_ap hfm8 zq_190 rfl) (zfr_ap hfm5 zq_190 rfl))
  exact zw_kex (ih _ ⟨hIm8, hRBNm8, hRC0m8, hRE115m8, hRE63m8, hRE89m8, hRG5m8, hRK10m8, hRK54m8, hRKNm8, hRLTm8, hRNSm8, hRRIm8, hRRUm8, hRSEm8, hRTEm8, hRUNm8, hRUWm8, hRWDm8, by omega, hSm8⟩)
theorem zlw_1127 {n : Nat} {K : Nat → Nat → Nat → List zu_v → List zu_v → zu_m → Prop} (hst : zt_HS n K) (hp2 : ∀ (cells slots pc : Nat) (i v : Int) (m : zu_m), pc ∈ [529, 552, 1012, 1023] → K cells slots (pc + 1) [(3, 1), (5, 3), (40, 190), (53, 233), (0, i), (2, 0), (2, 0)] [] m → K cells slots pc [(3, 1), (5, 3), (40, 190), (53, 233), (0, i), (2, 0), (2, 0)] [(1, v)] m) {cells slots : Nat} {i : Int} {m0 : zu_m} (hN : zt_INV m0) (hi0 : 0 ≤ i) (hi1 : i ≤ (n : Int) - 6) (hn : n ≤ 3072) (ih : ∀ m, zt_INV m → K cells slots 1453 [(3, 1), (5, 3), (40, 190), (53, 233), (0, i), (2, 0), (2, 0)] [] m) : K cells slots 1127 [(3, 1), (5, 3), (40, 190), (53, 233), (0, i), (2, 0), (2, 0)] [] m0 := by
  refine hst cells slots [23, 208, 281, 306, 331, 356, 370, 396, 433, 470, 507, 529, 552, 556, 605, 618, 655, 680, 705, 730, 755, 792, 865, 902, 939, 964, 977, 1002, 1012, 1023, 1027, 1040, 1077, 1102, 1127, 1204, 1229, 1254, 1279, 1340, 1389, 1402, 1415, 1428, 1453] 400 1127 _ _ _ ?_
  refine zw_eq (zlr_1127 n _ _ i m0) ?_
  obtain ⟨hIm0, hRBNm0, hRC0m0, hRE115m0, hRE63m0, hRE89m0, hRG5m0, hRK10m0, hRK54m0, hRKNm0, hRLTm0, hRNSm0, hRRIm0, hRRUm0, hRSEm0, hRTEm0, hRUNm0, hRUWm0, hRWDm0, hT, hSm0⟩ := hN
  have hFm0 : zfr zt_Wl m0 m0 := zfr_rf _ _
  have r1 : 0 ≤ (m0 3 1) ∧ (m0 3 1) ≤ 700 := zi_rd hIm0 zq_3 zb_2_1
  have r2 : 0 ≤ (m0 190 1) ∧ (m0 190 1) ≤ 700 := zi_rd hIm0 zq_190 zb_28_1
  have w3 := zu_w32_id (z := i + 1) (by omega) (by omega)
  refine zw_if ⟨by omega, by omega⟩ ?_
  have r4 := hSm0 (zu_w32 (i + 1))
  have w5 := zu_w32_id (z := i + 2) (by omega) (by omega)
  refine zw_if ⟨by omega, by omega⟩ ?_
  have r6 := hSm0 (zu_w32 (i + 2))
  have w7 := zu_w32_id (z := i + 3) (by omega) (by omega)
  refine zw_if ⟨by omega, by omega⟩ ?_
  have r8 := hSm0 (zu_w32 (i + 3))
  have w9 := zu_w32_id (z := i + 4) (by omega) (by omega)
  refine zw_if ⟨by omega, by omega⟩ ?_
  have r10 := hSm0 (zu_w32 (i + 4))
  refine zw_ite (fun h11 => ?_) (fun h11 => ?_)
  · refine zw_bd (zw_mono (zk_72 n hIm0 zq_3 ⟨by omega, by omega⟩ ⟨by omega, by omega⟩ ⟨by omega, by omega⟩ ⟨by omega, by omega⟩) (fun v13 m12 hqm12 => ?_))
    obtain ⟨hIm12, hfm12, hvm12⟩ := hqm12
    have hFm12 := zfr_tr hFm0 hfm12 rfl
    have hRBNm12 := zR_BN_fr (zdis_fr hfm12 rfl) hRBNm0
    have hRC0m12 := zR_C0_fr (zdis_fr hfm12 rfl) hRC0m0
    have hRE115m12 := zR_E115_fr (zdis_fr hfm12 rfl) hRE115m0
    have hRE63m12 := zR_E63_fr (zdis_fr hfm12 rfl) hRE63m0
    have hRE89m12 := zR_E89_fr (zdis_fr hfm12 rfl) hRE89m0
    have hRG5m12 := zR_G5_fr (zdis_fr hfm12 rfl) hRG5m0
    have hRK10m12 := zR_K10_fr (zdis_fr hfm12 rfl) hRK10m0
    have hRK54m12 := zR_K54_fr (zdis_fr hfm12 rfl) hRK54m0
    have hRKNm12 := zR_KN_fr (zdis_fr hfm12 rfl) hRKNm0
    have hRLTm12 := zR_LT_fr (zdis_fr hfm12 rfl) hRLTm0
    have hRNSm12 := zR_NS_fr (zdis_fr hfm12 rfl) hRNSm0
    have hRRIm12 := zR_RI_fr (zdis_fr hfm12 rfl) hRRIm0
    have hRRUm12 := zR_RU_fr (zdis_fr hfm12 rfl) hRRUm0
    have hRSEm12 := zR_SE_fr (zdis_fr hfm12 rfl) hRSEm0
    have hRTEm12 := zR_TE_fr (zdis_fr hfm12 rfl) hRTEm0
    have hRUNm12 := zR_UN_fr (zdis_fr hfm12 rfl) hRUNm0
    have hRUWm12 := zR_UW_fr (zdis_fr hfm12 rfl) hRUWm0
    have hRWDm12 := zR_WD_fr (zdis_fr hfm12 rfl) hRWDm0
    have hSm12 := zt_Sf (W := []) (fun p => zfr_ap (p := p) hfm12 zq_1 rfl) hSm0
    refine zw_if ⟨by omega, by omega⟩ ?_
    have r14 := hSm12 (zu_w32 (i + 1))
    refine zw_if ⟨by omega, by omega⟩ ?_
    have r15 := hSm12 (zu_w32 (i + 2))
    refine zw_if ⟨by omega, by omega⟩ ?_
    have r16 := hSm12 (zu_w32 (i + 3))
    refine zw_if ⟨by omega, by omega⟩ ?_
    have r17 := hSm12 (zu_w32 (i + 4))
    refine zw_ite (fun h18 => ?_) (fun h18 => ?_)
    · refine zw_bd (zw_mono (zk_179 n hIm12 zq_190 ⟨by omega, by omega⟩ ⟨by omega, by omega⟩ ⟨by omega, by omega⟩ ⟨by omega, by omega⟩) (fun v20 m19 hqm19 => ?_))
      obtain ⟨hIm19, hfm19, hvm19⟩ := hqm19
      have hFm19 := zfr_tr hFm12 hfm19 rfl
      have hRBNm19 := zR_BN_fr (zdis_fr hfm19 rfl) hRBNm12
      have hRC0m19 := zR_C0_fr (zdis_fr hfm19 rfl) hRC0m12
      have hRE115m19 := zR_E115_fr (zdis_fr hfm19 rfl) hRE115m12
      have hRE63m19 := zR_E63_fr (zdis_fr hfm19 rfl) hRE63m12
      have hRE89m19 := zR_E89_fr (zdis_fr hfm19 rfl) hRE89m12
      have hRG5m19 := zR_G5_fr (zdis_fr hfm19 rfl) hRG5m12
      have hRK10m19 := zR_K10_fr (zdis_fr hfm19 rfl) hRK10m12
      have hRK54m19 := zR_K54_fr (zdis_fr hfm19 rfl) hRK54m12
      have hRKNm19 := zR_KN_fr (zdis_fr hfm19 rfl) hRKNm12
      have hRLTm19 := zR_LT_fr (zdis_fr hfm19 rfl) hRLTm12
      have hRNSm19 := zR_NS_fr (zdis_fr hfm19 rfl) hRNSm12
      have hRRIm19 := zR_RI_fr (zdis_fr hfm19 rfl) hRRIm12
      have hRRUm19 := zR_RU_fr (zdis_fr hfm19 rfl) hRRUm12
      have hRSEm19 := zR_SE_fr (zdis_fr hfm19 rfl) hRSEm12
      have hRTEm19 := zR_TE_fr (zdis_fr hfm19 rfl) hRTEm12
      have hRUNm19 := zR_UN_fr (zdis_fr hfm19 rfl) hRUNm12
      have hRUWm19 := zR_UW_fr (zdis_fr hfm19 rfl) hRUWm12
      have hRWDm19 := zR_WD_fr (zdis_fr hfm19 rfl) hRWDm12
      have hSm19 := zt_Sf (W := []) (fun p => zfr_ap (p := p) hfm19 zq_1 rfl) hSm12
      have r21 : 0 ≤ (m19 3 1) ∧ (m19 3 1) ≤ 700 := zi_rd hIm19 zq_3 zb_2_1
      have e22 : (m19 3 1) = (m0 3 1) := (Eq.trans (zfr_ap hfm19 zq_3 rfl) (zfr_ap hfm12 zq_3 rfl))
      have r23 : 0 ≤ (m19 190 1) ∧ (m19 190 1) ≤ 700 := zi_rd hIm19 zq_190 zb_28_1
      have e24 : (m19 190 1) = (m0 190 1) := (Eq.trans (zfr_ap hfm19 zq_190 rfl) (zfr_ap hfm12 zq_190 rfl))
      exact zw_kex (ih _ ⟨hIm19, hRBNm19, hRC0m19, hRE115m19, hRE63m19, hRE89m19, hRG5m19, hRK10m19, hRK54m19, hRKNm19, hRLTm19, hRNSm19, hRRIm19, hRRUm19, hRSEm19, hRTEm19, hRUNm19, hRUWm19, hRWDm19, by omega, hSm19⟩)
    · refine zw_bd (zw_mono (zk_179 n hIm12 zq_190 ⟨by omega, by omega⟩ ⟨by omega, by omega⟩ ⟨by omega, by omega⟩ ⟨by omega, by omega⟩) (fun v26 m25 hqm25 => ?_))
      obtain ⟨hIm25, hfm25, hvm25⟩ := hqm25
      have hFm25 := zfr_tr hFm12 hfm25 rfl
      have hRBNm25 := zR_BN_fr (zdis_fr hfm25 rfl) hRBNm12
      have hRC0m25 := zR_C0_fr (zdis_fr hfm25 rfl) hRC0m12
      have hRE115m25 := zR_E115_fr (zdis_fr hfm25 rfl) hRE115m12
      have hRE63m25 := zR_E63_fr (zdis_fr hfm25 rfl) hRE63m12
      have hRE89m25 := zR_E89_fr (zdis_fr hfm25 rfl) hRE89m12
      have hRG5m25 := zR_G5_fr (zdis_fr hfm25 rfl) hRG5m12
      have hRK10m25 := zR_K10_fr (zdis_fr hfm25 rfl) hRK10m12
      have hRK54m25 := zR_K54_fr (zdis_fr hfm25 rfl) hRK54m12
      have hRKNm25 := zR_KN_fr (zdis_fr hfm25 rfl) hRKNm12
      have hRLTm25 := zR_LT_fr (zdis_fr hfm25 rfl) hRLTm12
      have hRNSm25 := zR_NS_fr (zdis_fr hfm25 rfl) hRNSm12
      have hRRIm25 := zR_RI_fr (zdis_fr hfm25 rfl) hRRIm12
      have hRRUm25 := zR_RU_fr (zdis_fr hfm25 rfl) hRRUm12
      have hRSEm25 := zR_SE_fr (zdis_fr hfm25 rfl) hRSEm12
      have hRTEm25 := zR_TE_fr (zdis_fr hfm25 rfl) hRTEm12
      have hRUNm25 := zR_UN_fr (zdis_fr hfm25 rfl) hRUNm12
      have hRUWm25 := zR_UW_fr (zdis_fr hfm25 rfl) hRUWm12
      have hRWDm25 := zR_WD_fr (zdis_fr hfm25 rfl) hRWDm12
      have hSm25 := zt_Sf (W := []) (fun p => zfr_ap (p := p) hfm25 zq_1 rfl) hSm12
      have r27 : 0 ≤ (m25 3 1) ∧ (m25 3 1) ≤ 700 := zi_rd hIm25 zq_3 zb_2_1
      have e28 : (m25 3 1) = (m0 3 1) := (Eq.trans (zfr_ap hfm25 zq_3 rfl) (zfr_ap hfm12 zq_3 rfl))
      have r29 : 0 ≤ (m25 190 1) ∧ (m25 190 1) ≤ 700 := zi_rd hIm25 zq_190 zb_28_1
      have e30 : (m25 190 1) = (m0 190 1) := (Eq.trans (zfr_ap hfm25 zq_190 rfl) (zfr_ap hfm12 zq_190 rfl))
      exact zw_kex (ih _ ⟨hIm25, hRBNm25, hRC0m25, hRE115m25, hRE63m25, hRE89m25, hRG5m25, hRK10m25, hRK54m25, hRKNm25, hRLTm25, hRNSm25, hRRIm25, hRRUm25, hRSEm25, hRTEm25, hRUNm25, hRUWm25, hRWDm25, by omega, hSm25⟩)
  · refine zw_bd (zw_mono (zk_72 n hIm0 zq_3 ⟨by omega, by omega⟩ ⟨by omega, by omega⟩ ⟨by omega, by omega⟩ ⟨by omega, by omega⟩) (fun v32 m31 hqm31 => ?_))
    obtain ⟨hIm31, hfm31, hvm31⟩ := hqm31
    have hFm31 := zfr_tr hFm0 hfm31 rfl
    have hRBNm31 := zR_BN_fr (zdis_fr hfm31 rfl) hRBNm0
    have hRC0m31 := zR_C0_fr (zdis_fr hfm31 rfl) hRC0m0
    have hRE115m31 := zR_E115_fr (zdis_fr hfm31 rfl) hRE115m0
    have hRE63m31 := zR_E63_fr (zdis_fr hfm31 rfl) hRE63m0
    have hRE89m31 := zR_E89_fr (zdis_fr hfm31 rfl) hRE89m0
    have hRG5m31 := zR_G5_fr (zdis_fr hfm31 rfl) hRG5m0
    have hRK10m31 := zR_K10_fr (zdis_fr hfm31 rfl) hRK10m0
    have hRK54m31 := zR_K54_fr (zdis_fr hfm31 rfl) hRK54m0
    have hRKNm31 := zR_KN_fr (zdis_fr hfm31 rfl) hRKNm0
    have hRLTm31 := zR_LT_fr (zdis_fr hfm31 rfl) hRLTm0
    have hRNSm31 := zR_NS_fr (zdis_fr hfm31 rfl) hRNSm0
    have hRRIm31 := zR_RI_fr (zdis_fr hfm31 rfl) hRRIm0
    have hRRUm31 := zR_RU_fr (zdis_fr hfm31 rfl) hRRUm0
    have hRSEm31 := zR_SE_fr (zdis_fr hfm31 rfl) hRSEm0
    have hRTEm31 := zR_TE_fr (zdis_fr hfm31 rfl) hRTEm0
    have hRUNm31 := zR_UN_fr (zdis_fr hfm31 rfl) hRUNm0
    have hRUWm31 := zR_UW_fr (zdis_fr hfm31 rfl) hRUWm0
    have hRWDm31 := zR_WD_fr (zdis_fr hfm31 rfl) hRWDm0
    have hSm31 := zt_Sf (W := []) (fun p => zfr_ap (p := p) hfm31 zq_1 rfl) hSm0
    refine zw_if ⟨by omega, by omega⟩ ?_
    have r33 := hSm31 (zu_w32 (i + 1))
    refine zw_if ⟨by omega, by omega⟩ ?_
    have r34 := hSm31 (zu_w32 (i + 2))
    refine zw_if ⟨by omega, by omega⟩ ?_
    have r35 := hSm31 (zu_w32 (i + 3))
    refine zw_if ⟨by omega, by omega⟩ ?_
    have r36 := hSm31 (zu_w32 (i + 4))
    refine zw_ite (fun h37 => ?_) (fun h37 => ?_)
    · refine zw_bd (zw_mono (zk_179 n hIm31 zq_190 ⟨by omega, by omega⟩ ⟨by omega, by omega⟩ ⟨by omega, by omega⟩ ⟨by omega, by omega⟩) (fun v39 m38 hqm38 => ?_))
      obtain ⟨hIm38, hfm38, hvm38⟩ := hqm38
      have hFm38 := zfr_tr hFm31 hfm38 rfl
      have hRBNm38 := zR_BN_fr (zdis_fr hfm38 rfl) hRBNm31
      have hRC0m38 := zR_C0_fr (zdis_fr hfm38 rfl) hRC0m31
      have hRE115m38 := zR_E115_fr (zdis_fr hfm38 rfl) hRE115m31
      have hRE63m38 := zR_E63_fr (zdis_fr hfm38 rfl) hRE63m31
      have hRE89m38 := zR_E89_fr (zdis_fr hfm38 rfl) hRE89m31
      have hRG5m38 := zR_G5_fr (zdis_fr hfm38 rfl) hRG5m31
      have hRK10m38 := zR_K10_fr (zdis_fr hfm38 rfl) hRK10m31
      have hRK54m38 := zR_K54_fr (zdis_fr hfm38 rfl) hRK54m31
      have hRKNm38 := zR_KN_fr (zdis_fr hfm38 rfl) hRKNm31
      have hRLTm38 := zR_LT_fr (zdis_fr hfm38 rfl) hRLTm31
      have hRNSm38 := zR_NS_fr (zdis_fr hfm38 rfl) hRNSm31
      have hRRIm38 := zR_RI_fr (zdis_fr hfm38 rfl) hRRIm31
      have hRRUm38 := zR_RU_fr (zdis_fr hfm38 rfl) hRRUm31
      have hRSEm38 := zR_SE_fr (zdis_fr hfm38 rfl) hRSEm31
      have hRTEm38 := zR_TE_fr (zdis_fr hfm38 rfl) hRTEm31
      have hRUNm38 := zR_UN_fr (zdis_fr hfm38 rfl) hRUNm31
      have hRUWm38 := zR_UW_fr (zdis_fr hfm38 rfl) hRUWm31
      have hRWDm38 := zR_WD_fr (zdis_fr hfm38 rfl) hRWDm31
      have hSm38 := zt_Sf (W := []) (fun p => zfr_ap (p := p) hfm38 zq_1 rfl) hSm31
      have r40 : 0 ≤ (m38 3 1) ∧ (m38 3 1) ≤ 700 := zi_rd hIm38 zq_3 zb_2_1
      have e41 : (m38 3 1) = (m0 3 1) := (Eq.trans (zfr_ap hfm38 zq_3 rfl) (zfr_ap hfm31 zq_3 rfl))
      have r42 : 0 ≤ (m38 190 1) ∧ (m38 190 1) ≤ 700 := zi_rd hIm38 zq_190 zb_28_1
      have e43 : (m38 190 1) = (m0 190 1) := (Eq.trans (zfr_ap hfm38 zq_190 rfl) (zfr_ap hfm31 zq_190 rfl))
      exact zw_kex (ih _ ⟨hIm38, hRBNm38, hRC0m38, hRE115m38, hRE63m38, hRE89m38, hRG5m38, hRK10m38, hRK54m38, hRKNm38, hRLTm38, hRNSm38, hRRIm38, hRRUm38, hRSEm38, hRTEm38, hRUNm38, hRUWm38, hRWDm38, by omega, hSm38⟩)
    · refine zw_bd (zw_mono (zk_179 n hIm31 zq_190 ⟨by omega, by omega⟩ ⟨by omega, by omega⟩ ⟨by omega, by omega⟩ ⟨by omega, by omega⟩) (fun v45 m44 hqm44 => ?_))
      obtain ⟨hIm44, hfm44, hvm44⟩ := hqm44
      have hFm44 := zfr_tr hFm31 hfm44 rfl
      have hRBNm44 := zR_BN_fr (zdis_fr hfm44 rfl) hRBNm31
      have hRC0m44 := zR_C0_fr (zdis_fr hfm44 rfl) hRC0m31
      have hRE115m44 := zR_E115_fr (zdis_fr hfm44 rfl) hRE115m31
      have hRE63m44 := zR_E63_fr (zdis_fr hfm44 rfl) hRE63m31
      have hRE89m44 := zR_E89_fr (zdis_fr hfm44 rfl) hRE89m31
      have hRG5m44 := zR_G5_fr (zdis_fr hfm44 rfl) hRG5m31
      have hRK10m44 := zR_K10_fr (zdis_fr hfm44 rfl) hRK10m31
      have hRK54m44 := zR_K54_fr (zdis_fr hfm44 rfl) hRK54m31
      have hRKNm44 := zR_KN_fr (zdis_fr hfm44 rfl) hRKNm31
      have hRLTm44 := zR_LT_fr (zdis_fr hfm44 rfl) hRLTm31
      have hRNSm44 := zR_NS_fr (zdis_fr hfm44 rfl) hRNSm31
      have hRRIm44 := zR_RI_fr (zdis_fr hfm44 rfl) hRRIm31
      have hRRUm44 := zR_RU_fr (zdis_fr hfm44 rfl) hRRUm31
      have hRSEm44 := zR_SE_fr (zdis_fr hfm44 rfl) hRSEm31
      have hRTEm44 := zR_TE_fr (zdis_fr hfm44 rfl) hRTEm31
      have hRUNm44 := zR_UN_fr (zdis_fr hfm44 rfl) hRUNm31
      have hRUWm44 := zR_UW_fr (zdis_fr hfm44 rfl) hRUWm31
      have hRWDm44 := zR_WD_fr (zdis_fr hfm44 rfl) hRWDm31
      have hSm44 := zt_Sf (W := []) (fun p => zfr_ap (p := p) hfm44 zq_1 rfl) hSm31
      have r46 : 0 ≤ (m44 3 1) ∧ (m44 3 1) ≤ 700 := zi_rd hIm44 zq_3 zb_2_1
      have e47 : (m44 3 1) = (m0 3 1) := (Eq.trans (zfr_ap hfm44 zq_3 rfl) (zfr_ap hfm31 zq_3 rfl))
      have r48 : 0 ≤ (m44 190 1) ∧ (m44 190 1) ≤ 700 := zi_rd hIm44 zq_190 zb_28_1
      have e49 : (m44 190 1) = (m0 190 1) := (Eq.trans (zfr_ap hfm44 zq_190 rfl) (zfr_ap hfm31 zq_190 rfl))
      exact zw_kex (ih _ ⟨hIm44, hRBNm44, hRC0m44, hRE115m44, hRE63m44, hRE89m44, hRG5m44, hRK10m44, hRK54m44, hRKNm44, hRLTm44, hRNSm44, hRRIm44, hRRUm44, hRSEm44, hRTEm44, hRUNm44, hRUWm44, hRWDm44, by omega, hSm44⟩)
theorem zlw_1204 {n : Nat} {K : Nat → Nat → Nat → List zu_v → List zu_v → zu_m → Prop} (hst : zt_HS n K) (hp2 : ∀ (cells slots pc : Nat) (i v : Int) (m : zu_m), pc ∈ [529, 552, 1012, 1023] → K cells slots (pc + 1) [(3, 1), (5, 3), (40, 190), (53, 233), (0, i), (2, 0), (2, 0)] [] m → K cells slots pc [(3, 1), (5, 3), (40, 190), (53, 233), (0, i), (2, 0), (2, 0)] [(1, v)] m) {cells slots : Nat} {i : Int} {m0 : zu_m} (hN : zt_INV m0) (hi0 : 0 ≤ i) (hi1 : i ≤ (n : Int) - 6) (hn : n ≤ 3072) (ih : ∀ m, zt_INV m → K cells slots 1453 [(3, 1), (5, 3), (40, 190), (53, 233), (0, i), (2, 0), (2, 0)] [] m) : K cells slots 1204 [(3, 1), (5, 3), (40, 190), (53, 233), (0, i), (2, 0), (2, 0)] [] m0 := by
  refine hst cells slots [23, 208, 281, 306, 331, 356, 370, 396, 433, 470, 507, 529, 552, 556, 605, 618, 655, 680, 705, 730, 755, 792, 865, 902, 939, 964, 977, 1002, 1012, 1023, 1027, 1040, 1077, 1102, 1127, 1204, 1229, 1254, 1279, 1340, 1389, 1402, 1415, 1428, 1453] 400 1204 _ _ _ ?_
  refine zw_eq (zlr_1204 n _ _ i m0) ?_
  obtain ⟨hIm0, hRBNm0, hRC0m0, hRE115m0, hRE63m0, hRE89m0, hRG5m0, hRK10m0, hRK54m0, hRKNm0, hRLTm0, hRNSm0, hRRIm0, hRRUm0, hRSEm0, hRTEm0, hRUNm0, hRUWm0, hRWDm0, hT, hSm0⟩ := hN
  have hFm0 : zfr zt_Wl m0 m0 := zfr_rf _ _
  have r1 : 0 ≤ (m0 3 1) ∧ (m0 3 1) ≤ 700 := zi_rd hIm0 zq_3 zb_2_1
  have r2 : 0 ≤ (m0 190 1) ∧ (m0 190 1) ≤ 700 := zi_rd hIm0 zq_190 zb_28_1
  have w3 := zu_w32_id (z := i + 1) (by omega) (by omega)
  refine zw_if ⟨by omega, by omega⟩ ?_
  have r4 := hSm0 (zu_w32 (i + 1))
  refine zw_bd (zw_mono (zk_73 n hIm0 zq_3 ⟨by omega, by omega⟩) (fun v6 m5 hqm5 => ?_))
  obtain ⟨hIm5, hfm5, hvm5⟩ := hqm5
  have hFm5 := zfr_tr hFm0 hfm5 rfl
  have hRBNm5 := zR_BN_fr (zdis_fr hfm5 rfl) hRBNm0
  have hRC0m5 := zR_C0_fr (zdis_fr hfm5 rfl) hRC0m0
  have hRE115m5 := zR_E115_fr (zdis_fr hfm5 rfl) hRE115m0
  have hRE63m5 := zR_E63_fr (zdis_fr hfm5 rfl) hRE63m0
  have hRE89m5 := zR_E89_fr (zdis_fr hfm5 rfl) hRE89m0
  have hRG5m5 := zR_G5_fr (zdis_fr hfm5 rfl) hRG5m0
  have hRK10m5 := zR_K10_fr (zdis_fr hfm5 rfl) hRK10m0
  have hRK54m5 := zR_K54_fr (zdis_fr hfm5 rfl) hRK54m0
  have hRKNm5 := zR_KN_fr (zdis_fr hfm5 rfl) hRKNm0
  have hRLTm5 := zR_LT_fr (zdis_fr hfm5 rfl) hRLTm0
  have hRNSm5 := zR_NS_fr (zdis_fr hfm5 rfl) hRNSm0
  have hRRIm5 := zR_RI_fr (zdis_fr hfm5 rfl) hRRIm0
  have hRRUm5 := zR_RU_fr (zdis_fr hfm5 rfl) hRRUm0
  have hRSEm5 := zR_SE_fr (zdis_fr hfm5 rfl) hRSEm0
  have hRTEm5 := zR_TE_fr (zdis_fr hfm5 rfl) hRTEm0
  have hRUNm5 := zR_UN_fr (zdis_fr hfm5 rfl) hRUNm0
  have hRUWm5 := zR_UW_fr (zdis_fr hfm5 rfl) hRUWm0
  have hRWDm5 := zR_WD_fr (zdis_fr hfm5 rfl) hRWDm0
  have hSm5 := zt_Sf (W := []) (fun p => zfr_ap (p := p) hfm5 zq_1 rfl) hSm0
  refine zw_if ⟨by omega, by omega⟩ ?_
  have r7 := hSm5 (zu_w32 (i + 1))
  refine zw_bd (zw_mono (zk_180 n hIm5 zq_190 ⟨by omega, by omega⟩) (fun v9 m8 hqm8 => ?_))
  obtain ⟨hIm8, hfm8, hvm8⟩ := hqm8
  have hFm8 := zfr_tr hFm5 hfm8 rfl
  have hRBNm8 := zR_BN_fr (zdis_fr hfm8 rfl) hRBNm5
  have hRC0m8 := zR_C0_fr (zdis_fr hfm8 rfl) hRC0m5
  have hRE115m8 := zR_E115_fr (zdis_fr hfm8 rfl) hRE115m5
  have hRE63m8 := zR_E63_fr (zdis_fr hfm8 rfl) hRE63m5
  have hRE89m8 := zR_E89_fr (zdis_fr hfm8 rfl) hRE89m5
  have hRG5m8 := zR_G5_fr (zdis_fr hfm8 rfl) hRG5m5
  have hRK10m8 := zR_K10_fr (zdis_fr hfm8 rfl) hRK10m5
  have hRK54m8 := zR_K54_fr (zdis_fr hfm8 rfl) hRK54m5
  have hRKNm8 := zR_KN_fr (zdis_fr hfm8 rfl) hRKNm5
  have hRLTm8 := zR_LT_fr (zdis_fr hfm8 rfl) hRLTm5
  have hRNSm8 := zR_NS_fr (zdis_fr hfm8 rfl) hRNSm5
  have hRRIm8 := zR_RI_fr (zdis_fr hfm8 rfl) hRRIm5
  have hRRUm8 := zR_RU_fr (zdis_fr hfm8 rfl) hRRUm5
  have hRSEm8 := zR_SE_fr (zdis_fr hfm8 rfl) hRSEm5
  have hRTEm8 := zR_TE_fr (zdis_fr hfm8 rfl) hRTEm5
  have hRUNm8 := zR_UN_fr (zdis_fr hfm8 rfl) hRUNm5
  have hRUWm8 := zR_UW_fr (zdis_fr hfm8 rfl) hRUWm5
  have hRWDm8 := zR_WD_fr (zdis_fr hfm8 rfl) hRWDm5
  have hSm8 := zt_Sf (W := []) (fun p => zfr_ap (p := p) hfm8 zq_1 rfl) hSm5
  have r10 : 0 ≤ (m8 3 1) ∧ (m8 3 1) ≤ 700 := zi_rd hIm8 zq_3 zb_2_1
  have e11 : (m8 3 1) = (m0 3 1) := (Eq.trans (zfr_ap hfm8 zq_3 rfl) (zfr_ap hfm5 zq_3 rfl))
  have r12 : 0 ≤ (m8 190 1) ∧ (m8 190 1) ≤ 700 := zi_rd hIm8 zq_190 zb_28_1
  have e13 : (m8 190 1) = (m0 190 1) := (Eq.trans (zfr_ap hfm8 zq_190 rfl) (zfr_ap hfm5 zq_190 rfl))
  exact zw_kex (ih _ ⟨hIm8, hRBNm8, hRC0m8, hRE115m8, hRE63m8, hRE89m8, hRG5m8, hRK10m8, hRK54m8, hRKNm8, hRLTm8, hRNSm8, hRRIm8, hRRUm8, hRSEm8, hRTEm8, hRUNm8, hRUWm8, hRWDm8, by omega, hSm8⟩)
theorem zlw_1229 {n : Nat} {K : Nat → Nat → Nat → List zu_v → List zu_v → zu_m → Prop} (hst : zt_HS n K) (hp2 : ∀ (cells slots pc : Nat) (i v : Int) (m : zu_m), pc ∈ [529, 552, 1012, 1023] → K cells slots (pc + 1) [(3, 1), (5, 3), (40, 190), (53, 233), (0, i), (2, 0), (2, 0)] [] m → K cells slots pc [(3, 1), (5, 3), (40, 190), (53, 233), (0, i), (2, 0), (2, 0)] [(1, v)] m) {cells slots : Nat} {i : Int} {m0 : zu_m} (hN : zt_INV m0) (hi0 : 0 ≤ i) (hi1 : i ≤ (n : Int) - 6) (hn : n ≤ 3072) (ih : ∀ m, zt_INV m → K cells slots 1453 [(3, 1), (5, 3), (40, 190), (53, 233), (0, i), (2, 0), (2, 0)] [] m) : K cells slots 1229 [(3, 1), (5, 3), (40, 190), (53, 233), (0, i), (2, 0), (2, 0)] [] m0 := by
  refine hst cells slots [23, 208, 281, 306, 331, 356, 370, 396, 433, 470, 507, 529, 552, 556, 605, 618, 655, 680, 705, 730, 755, 792, 865, 902, 939, 964, 977, 1002, 1012, 1023, 1027, 1040, 1077, 1102, 1127, 1204, 1229, 1254, 1279, 1340, 1389, 1402, 1415, 1428, 1453] 400 1229 _ _ _ ?_
  refine zw_eq (zlr_1229 n _ _ i m0) ?_
  obtain ⟨hIm0, hRBNm0, hRC0m0, hRE115m0, hRE63m0, hRE89m0, hRG5m0, hRK10m0, hRK54m0, hRKNm0, hRLTm0, hRNSm0, hRRIm0, hRRUm0, hRSEm0, hRTEm0, hRUNm0, hRUWm0, hRWDm0, hT, hSm0⟩ := hN
  have hFm0 : zfr zt_Wl m0 m0 := zfr_rf _ _
  have r1 : 0 ≤ (m0 3 1) ∧ (m0 3 1) ≤ 700 := zi_rd hIm0 zq_3 zb_2_1
  have r2 : 0 ≤ (m0 190 1) ∧ (m0 190 1) ≤ 700 := zi_rd hIm0 zq_190 zb_28_1
  have w3 := zu_w32_id (z := i + 1) (by omega) (by omega)
  refine zw_if ⟨by omega, by omega⟩ ?_
  have r4 := hSm0 (zu_w32 (i + 1))
  refine zw_bd (zw_mono (zk_74 n hIm0 zq_3 ⟨by omega, by omega⟩) (fun v6 m5 hqm5 => ?_))
  obtain ⟨hIm5, hfm5, hvm5⟩ := hqm5
  have hFm5 := zfr_tr hFm0 hfm5 rfl
  have hRBNm5 := zR_BN_fr (zdis_fr hfm5 rfl) hRBNm0
  have hRC0m5 := zR_C0_fr (zdis_fr hfm5 rfl) hRC0m0
  have hRE115m5 := zR_E115_fr (zdis_fr hfm5 rfl) hRE115m0
  have hRE63m5 := zR_E63_fr (zdis_fr hfm5 rfl) hRE63m0
  have hRE89m5 := zR_E89_fr (zdis_fr hfm5 rfl) hRE89m0
  have hRG5m5 := zR_G5_fr (zdis_fr hfm5 rfl) hRG5m0
  have hRK10m5 := zR_K10_fr (zdis_fr hfm5 rfl) hRK10m0
  have hRK54m5 := zR_K54_fr (zdis_fr hfm5 rfl) hRK54m0
  have hRKNm5 := zR_KN_fr (zdis_fr hfm5 rfl) hRKNm0
  have hRLTm5 := zR_LT_fr (zdis_fr hfm5 rfl) hRLTm0
  have hRNSm5 := zR_NS_fr (zdis_fr hfm5 rfl) hRNSm0
  have hRRIm5 := zR_RI_fr (zdis_fr hfm5 rfl) hRRIm0
  have hRRUm5 := zR_RU_fr (zdis_fr hfm5 rfl) hRRUm0
  have hRSEm5 := zR_SE_fr (zdis_fr hfm5 rfl) hRSEm0
  have hRTEm5 := zR_TE_fr (zdis_fr hfm5 rfl) hRTEm0
  have hRUNm5 := zR_UN_fr (zdis_fr hfm5 rfl) hRUNm0
  have hRUWm5 := zR_UW_fr (zdis_fr hfm5 rfl) hRUWm0
  have hRWDm5 := zR_WD_fr (zdis_fr hfm5 rfl) hRWDm0
  have hSm5 := zt_Sf (W := []) (fun p => zfr_ap (p := p) hfm5 zq_1 rfl) hSm0
  refine zw_if ⟨by omega, by omega⟩ ?_
  have r7 := hSm5 (zu_w32 (i + 1))
  refine zw_bd (zw_mono (zk_181 n hIm5 zq_190 ⟨by omega, by omega⟩) (fun v9 m8 hqm8 => ?_))
  obtain ⟨hIm8, hfm8, hvm8⟩ := hqm8
  have hFm8 := zfr_tr hFm5 hfm8 rfl
  have hRBNm8 := zR_BN_fr (zdis_fr hfm8 rfl) hRBNm5
  have hRC0m8 := zR_C0_fr (zdis_fr hfm8 rfl) hRC0m5
  have hRE115m8 := zR_E115_fr (zdis_fr hfm8 rfl) hRE115m5
  have hRE63m8 := zR_E63_fr (zdis_fr hfm8 rfl) hRE63m5
  have hRE89m8 := zR_E89_fr (zdis_fr hfm8 rfl) hRE89m5
  have hRG5m8 := zR_G5_fr (zdis_fr hfm8 rfl) hRG5m5
  have hRK10m8 := zR_K10_fr (zdis_fr hfm8 rfl) hRK10m5
  have hRK54m8 := zR_K54_fr (zdis_fr hfm8 rfl) hRK54m5
  have hRKNm8 := zR_KN_fr (zdis_fr hfm8 rfl) hRKNm5
  have hRLTm8 := zR_LT_fr (zdis_fr hfm8 rfl) hRLTm5
  have hRNSm8 := zR_NS_fr (zdis_fr hfm8 rfl) hRNSm5
  have hRRIm8 := zR_RI_fr (zdis_fr hfm8 rfl) hRRIm5
  have hRRUm8 := zR_RU_fr (zdis_fr hfm8 rfl) hRRUm5
  have hRSEm8 := zR_SE_fr (zdis_fr hfm8 rfl) hRSEm5
  have hRTEm8 := zR_TE_fr (zdis_fr hfm8 rfl) hRTEm5
  have hRUNm8 := zR_UN_fr (zdis_fr hfm8 rfl) hRUNm5
  have hRUWm8 := zR_UW_fr (zdis_fr hfm8 rfl) hRUWm5
  have hRWDm8 := zR_WD_fr (zdis_fr hfm8 rfl) hRWDm5
  have hSm8 := zt_Sf (W := []) (fun p => zfr_ap (p := p) hfm8 zq_1 rfl) hSm5
  have r10 : 0 ≤ (m8 3 1) ∧ (m8 3 1) ≤ 700 := zi_rd hIm8 zq_3 zb_2_1
  have e11 : (m8 3 1) = (m0 3 1) := (Eq.trans (zfr_ap hfm8 zq_3 rfl) (zfr_ap hfm5 zq_3 rfl))
  have r12 : 0 ≤ (m8 190 1) ∧ (m8 190 1) ≤ 700 := zi_rd hIm8 zq_190 zb_28_1
  have e13 : (m8 190 1) = (m0 190 1) := (Eq.trans (zfr_ap hfm8 zq_190 rfl) (zfr_ap hfm5 zq_190 rfl))
  exact zw_kex (ih _ ⟨hIm8, hRBNm8, hRC0m8, hRE115m8, hRE63m8, hRE89m8, hRG5m8, hRK10m8, hRK54m8, hRKNm8, hRLTm8, hRNSm8, hRRIm8, hRRUm8, hRSEm8, hRTEm8, hRUNm8, hRUWm8, hRWDm8, by omega, hSm8⟩)
theorem zlw_1254 {n : Nat} {K : Nat → Nat → Nat → List zu_v → List zu_v → zu_m → Prop} (hst : zt_HS n K) (hp2 : ∀ (cells slots pc : Nat) (i v : Int) (m : zu_m), pc ∈ [529, 552, 1012, 1023] → K cells slots (pc + 1) [(3, 1), (5, 3), (40, 190), (53, 233), (0, i), (2, 0), (2, 0)] [] m → K cells slots pc [(3, 1), (5, 3), (40, 190), (53, 233), (0, i), (2, 0), (2, 0)] [(1, v)] m) {cells slots : Nat} {i : Int} {m0 : zu_m} (hN : zt_INV m0) (hi0 : 0 ≤ i) (hi1 : i ≤ (n : Int) - 6) (hn : n ≤ 3072) (ih : ∀ m, zt_INV m → K cells slots 1453 [(3, 1), (5, 3), (40, 190), (53, 233), (0, i), (2, 0), (2, 0)] [] m) : K cells slots 1254 [(3, 1), (5, 3), (40, 190), (53, 233), (0, i), (2, 0), (2, 0)] [] m0 := by
  refine hst cells slots [23, 208, 281, 306, 331, 356, 370, 396, 433, 470, 507, 529, 552, 556, 605, 618, 655, 680, 705, 730, 755, 792, 865, 902, 939, 964, 977, 1002, 1012, 1023, 1027, 1040, 1077, 1102, 1127, 1204, 1229, 1254, 1279, 1340, 1389, 1402, 1415, 1428, 1453] 400 1254 _ _ _ ?_
  refine zw_eq (zlr_1254 n _ _ i m0) ?_
  obtain ⟨hIm0, hRBNm0, hRC0m0, hRE115m0, hRE63m0, hRE89m0, hRG5m0, hRK10m0, hRK54m0, hRKNm0, hRLTm0, hRNSm0, hRRIm0, hRRUm0, hRSEm0, hRTEm0, hRUNm0, hRUWm0, hRWDm0, hT, hSm0⟩ := hN
  have hFm0 : zfr zt_Wl m0 m0 := zfr_rf _ _
  have r1 : 0 ≤ (m0 3 1) ∧ (m0 3 1) ≤ 700 := zi_rd hIm0 zq_3 zb_2_1
  have r2 : 0 ≤ (m0 190 1) ∧ (m0 190 1) ≤ 700 := zi_rd hIm0 zq_190 zb_28_1
  have w3 := zu_w32_id (z := i + 1) (by omega) (by omega)
  refine zw_if ⟨by omega, by omega⟩ ?_
  have r4 := hSm0 (zu_w32 (i + 1))
  refine zw_bd (zw_mono (zk_75 n hIm0 zq_3 ⟨by omega, by omega⟩ hRE63m0 hRG5m0 hRK54m0) (fun v6 m5 hqm5 => ?_))
  obtain ⟨hIm5, hfm5, hvm5⟩ := hqm5
  have hFm5 := zfr_tr hFm0 hfm5 rfl
  obtain ⟨hRE63m5, hRG5m5, hRK54m5, hvm5⟩ := hvm5
  have hRBNm5 := zR_BN_fr (zdis_fr hfm5 rfl) hRBNm0
  have hRC0m5 := zR_C0_fr (zdis_fr hfm5 rfl) hRC0m0
  have hRE115m5 := zR_E115_fr (zdis_fr hfm5 rfl) hRE115m0
  have hRE89m5 := zR_E89_fr (zdis_fr hfm5 rfl) hRE89m0
  have hRK10m5 := zR_K10_fr (zdis_fr hfm5 rfl) hRK10m0
  have hRKNm5 := zR_KN_fr (zdis_fr hfm5 rfl) hRKNm0
  have hRLTm5 := zR_LT_fr (zdis_fr hfm5 rfl) hRLTm0
  have hRNSm5 := zR_NS_fr (zdis_fr hfm5 rfl) hRNSm0
  have hRRIm5 := zR_RI_fr (zdis_fr hfm5 rfl) hRRIm0
  have hRRUm5 := zR_RU_fr (zdis_fr hfm5 rfl) hRRUm0
  have hRSEm5 := zR_SE_fr (zdis_fr hfm5 rfl) hRSEm0
  have hRTEm5 := zR_TE_fr (zdis_fr hfm5 rfl) hRTEm0
  have hRUNm5 := zR_UN_fr (zdis_fr hfm5 rfl) hRUNm0
  have hRUWm5 := zR_UW_fr (zdis_fr hfm5 rfl) hRUWm0
  have hRWDm5 := zR_WD_fr (zdis_fr hfm5 rfl) hRWDm0
  have hSm5 := zt_Sf (W := []) (fun p => zfr_ap (p := p) hfm5 zq_1 rfl) hSm0
  refine zw_if ⟨by omega, by omega⟩ ?_
  have r7 := hSm5 (zu_w32 (i + 1))
  refine zw_bd (zw_mono (zk_184 n hIm5 zq_190 ⟨by omega, by omega⟩ hRC0m5 hRKNm5 hRLTm5 hRSEm5 hRTEm5) (fun v9 m8 hqm8 => ?_))
  obtain ⟨hIm8, hfm8, hvm8⟩ := hqm8
  have hFm8 := zfr_tr hFm5 hfm8 rfl
  obtain ⟨hRC0m8, hRKNm8, hRLTm8, hRSEm8, hRTEm8, hvm8⟩ := hvm8
  have hRBNm8 := zR_BN_fr (zdis_fr hfm8 rfl) hRBNm5
  have hRE115m8 := zR_E115_fr (zdis_fr hfm8 rfl) hRE115m5
  have hRE63m8 := zR_E63_fr (zdis_fr hfm8 rfl) hRE63m5
  have hRE89m8 := zR_E89_fr (zdis_fr hfm8 rfl) hRE89m5
  have hRG5m8 := zR_G5_fr (zdis_fr hfm8 rfl) hRG5m5
  have hRK10m8 := zR_K10_fr (zdis_fr hfm8 rfl) hRK10m5
  have hRK54m8 := zR_K54_fr (zdis_fr hfm8 rfl) hRK54m5
  have hRNSm8 := zR_NS_fr (zdis_fr hfm8 rfl) hRNSm5
  have hRRIm8 := zR_RI_fr (zdis_fr hfm8 rfl) hRRIm5
  have hRRUm8 := zR_RU_fr (zdis_fr hfm8 rfl) hRRUm5
  have hRUNm8 := zR_UN_fr (zdis_fr hfm8 rfl) hRUNm5
  have hRUWm8 := zR_UW_fr (zdis_fr hfm8 rfl) hRUWm5
  have hRWDm8 := zR_WD_fr (zdis_fr hfm8 rfl) hRWDm5
  have hSm8 := zt_Sf (W := []) (fun p => zfr_ap (p := p) hfm8 zq_1 rfl) hSm5
  have r10 : 0 ≤ (m8 3 1) ∧ (m8 3 1) ≤ 700 := zi_rd hIm8 zq_3 zb_2_1
  have e11 : (m8 3 1) = (m0 3 1) := (Eq.trans (zfr_ap hfm8 zq_3 rfl) (zfr_ap hfm5 zq_3 rfl))
  have r12 : 0 ≤ (m8 190 1) ∧ (m8 190 1) ≤ 700 := zi_rd hIm8 zq_190 zb_28_1
  have e13 : (m8 190 1) = (m0 190 1) := (Eq.trans (zfr_ap hfm8 zq_190 rfl) (zfr_ap hfm5 zq_190 rfl))
  exact zw_kex (ih _ ⟨hIm8, hRBNm8, hRC0m8, hRE115m8, hRE63m8, hRE89m8, hRG5m8, hRK10m8, hRK54m8, hRKNm8, hRLTm8, hRNSm8, hRRIm8, hRRUm8, hRSEm8, hRTEm8, hRUNm8, hRUWm8, hRWDm8, by omega, hSm8⟩)
theorem zlw_1279 {n : Nat} {K : Nat → Nat → Nat → List zu_v → List zu_v → zu_m → Prop} (hst : zt_HS n K) (hp2 : ∀ (cells slots pc : Nat) (i v : Int) (m : zu_m), pc ∈ [529, 552, 1012, 1023] → K cells slots (pc + 1) [(3, 1), (5, 3), (40, 190), (53, 233), (0, i), (2, 0), (2, 0)] [] m → K cells slots pc [(3, 1), (5, 3), (40, 190), (53, 233), (0, i), (2, 0), (2, 0)] [(1, v)] m) {cells slots : Nat} {i : Int} {m0 : zu_m} (hN : zt_INV m0) (hi0 : 0 ≤ i) (hi1 : i ≤ (n : Int) - 6) (hn : n ≤ 3072) (ih : ∀ m, zt_INV m → K cells slots 1453 [(3, 1), (5, 3), (40, 190), (53, 233), (0, i), (2, 0), (2, 0)] [] m) : K cells slots 1279 [(3, 1), (5, 3), (40, 190), (53, 233), (0, i), (2, 0), (2, 0)] [] m0 := by
  refine hst cells slots [23, 208, 281, 306, 331, 356, 370, 396, 433, 470, 507, 529, 552, 556, 605, 618, 655, 680, 705, 730, 755, 792, 865, 902, 939, 964, 977, 1002, 1012, 1023, 1027, 1040, 1077, 1102, 1127, 1204, 1229, 1254, 1279, 1340, 1389, 1402, 1415, 1428, 1453] 400 1279 _ _ _ ?_
  refine zw_eq (zlr_1279 n _ _ i m0) ?_
  obtain ⟨hIm0, hRBNm0, hRC0m0, hRE115m0, hRE63m0, hRE89m0, hRG5m0, hRK10m0, hRK54m0, hRKNm0, hRLTm0, hRNSm0, hRRIm0, hRRUm0, hRSEm0, hRTEm0, hRUNm0, hRUWm0, hRWDm0, hT, hSm0⟩ := hN
  have hFm0 : zfr zt_Wl m0 m0 := zfr_rf _ _
  have r1 : 0 ≤ (m0 3 1) ∧ (m0 3 1) ≤ 700 := zi_rd hIm0 zq_3 zb_2_1
  have r2 : 0 ≤ (m0 190 1) ∧ (m0 190 1) ≤ 700 := zi_rd hIm0 zq_190 zb_28_1
  have w3 := zu_w32_id (z := i + 1) (by omega) (by omega)
  refine zw_if ⟨by omega, by omega⟩ ?_
  have r4 := hSm0 (zu_w32 (i + 1))
  have w5 := zu_w32_id (z := i + 2) (by omega) (by omega)
  refine zw_if ⟨by omega, by omega⟩ ?_
  have r6 := hSm0 (zu_w32 (i + 2))
  have w7 := zu_w32_id (z := i + 3) (by omega) (by omega)
  refine zw_if ⟨by omega, by omega⟩ ?_
  have r8 := hSm0 (zu_w32 (i + 3))
  have w9 := zu_w32_id (z := i + 4) (by omega) (by omega)
  refine zw_if ⟨by omega, by omega⟩ ?_
  have r10 := hSm0 (zu_w32 (i + 4))
  refine zw_bd (zw_mono (zk_76 n hIm0 zq_3 ⟨by omega, by omega⟩ ⟨by omega, by omega⟩ ⟨by omega, by omega⟩ ⟨by omega, by omega⟩ hRE89m0 hRG5m0 hRK54m0) (fun v12 m11 hqm11 => ?_))
  obtain ⟨hIm11, hfm11, hvm11⟩ := hqm11
  have hFm11 := zfr_tr hFm0 hfm11 rfl
  obtain ⟨hRE89m11, hRG5m11, hRK54m11, hvm11⟩ := hvm11
  have hRBNm11 := zR_BN_fr (zdis_fr hfm11 rfl) hRBNm0
  have hRC0m11 := zR_C0_fr (zdis_fr hfm11 rfl) hRC0m0
  have hRE115m11 := zR_E115_fr (zdis_fr hfm11 rfl) hRE115m0
  have hRE63m11 := zR_E63_fr (zdis_fr hfm11 rfl) hRE63m0
  have hRK10m11 := zR_K10_fr (zdis_fr hfm11 rfl) hRK10m0
  have hRKNm11 := zR_KN_fr (zdis_fr hfm11 rfl) hRKNm0
  have hRLTm11 := zR_LT_fr (zdis_fr hfm11 rfl) hRLTm0
  have hRNSm11 := zR_NS_fr (zdis_fr hfm11 rfl) hRNSm0
  have hRRIm11 := zR_RI_fr (zdis_fr hfm11 rfl) hRRIm0
  have hRRUm11 := zR_RU_fr (zdis_fr hfm11 rfl) hRRUm0
  have hRSEm11 := zR_SE_fr (zdis_fr hfm11 rfl) hRSEm0
  have hRTEm11 := zR_TE_fr (zdis_fr hfm11 rfl) hRTEm0
  have hRUNm11 := zR_UN_fr (zdis_fr hfm11 rfl) hRUNm0
  have hRUWm11 := zR_UW_fr (zdis_fr hfm11 rfl) hRUWm0
  have hRWDm11 := zR_WD_fr (zdis_fr hfm11 rfl) hRWDm0
  have hSm11 := zt_Sf (W := []) (fun p => zfr_ap (p := p) hfm11 zq_1 rfl) hSm0
  refine zw_if ⟨by omega, by omega⟩ ?_
  have r13 := hSm11 (zu_w32 (i + 1))
  refine zw_if ⟨by omega, by omega⟩ ?_
  have r14 := hSm11 (zu_w32 (i + 2))
  refine zw_if ⟨by omega, by omega⟩ ?_
  have r15 := hSm11 (zu_w32 (i + 3))
  refine zw_if ⟨by omega, by omega⟩ ?_
  have r16 := hSm11 (zu_w32 (i + 4))
  refine zw_bd (zw_mono (zk_185 n hIm11 zq_190 ⟨by omega, by omega⟩ ⟨by omega, by omega⟩ ⟨by omega, by omega⟩ ⟨by omega, by omega⟩ hRKNm11 hRLTm11 hRSEm11) (fun v18 m17 hqm17 => ?_))
  obtain ⟨hIm17, hfm17, hvm17⟩ := hqm17
  have hFm17 := zfr_tr hFm11 hfm17 rfl
  obtain ⟨hRKNm17, hRLTm17, hRSEm17, hvm17⟩ := hvm17
  have hRBNm17 := zR_BN_fr (zdis_fr hfm17 rfl) hRBNm11
  have hRC0m17 := zR_C0_fr (zdis_fr hfm17 rfl) hRC0m11
  have hRE115m17 := zR_E115_fr (zdis_fr hfm17 rfl) hRE115m11
  have hRE63m17 := zR_E63_fr (zdis_fr hfm17 rfl) hRE63m11
  have hRE89m17 := zR_E89_fr (zdis_fr hfm17 rfl) hRE89m11
  have hRG5m17 := zR_G5_fr (zdis_fr hfm17 rfl) hRG5m11
  have hRK10m17 := zR_K10_fr (zdis_fr hfm17 rfl) hRK10m11
  have hRK54m17 := zR_K54_fr (zdis_fr hfm17 rfl) hRK54m11
  have hRNSm17 := zR_NS_fr (zdis_fr hfm17 rfl) hRNSm11
  have hRRIm17 := zR_RI_fr (zdis_fr hfm17 rfl) hRRIm11
  have hRRUm17 := zR_RU_fr (zdis_fr hfm17 rfl) hRRUm11
  have hRTEm17 := zR_TE_fr (zdis_fr hfm17 rfl) hRTEm11
  have hRUNm17 := zR_UN_fr (zdis_fr hfm17 rfl) hRUNm11
  have hRUWm17 := zR_UW_fr (zdis_fr hfm17 rfl) hRUWm11
  have hRWDm17 := zR_WD_fr (zdis_fr hfm17 rfl) hRWDm11
  have hSm17 := zt_Sf (W := []) (fun p => zfr_ap (p := p) hfm17 zq_1 rfl) hSm11
  have r19 : 0 ≤ (m17 3 1) ∧ (m17 3 1) ≤ 700 := zi_rd hIm17 zq_3 zb_2_1
  have e20 : (m17 3 1) = (m0 3 1) := (Eq.trans (zfr_ap hfm17 zq_3 rfl) (zfr_ap hfm11 zq_3 rfl))
  have r21 : 0 ≤ (m17 190 1) ∧ (m17 190 1) ≤ 700 := zi_rd hIm17 zq_190 zb_28_1
  have e22 : (m17 190 1) = (m0 190 1) := (Eq.trans (zfr_ap hfm17 zq_190 rfl) (zfr_ap hfm11 zq_190 rfl))
  exact zw_kex (ih _ ⟨hIm17, hRBNm17, hRC0m17, hRE115m17, hRE63m17, hRE89m17, hRG5m17, hRK10m17, hRK54m17, hRKNm17, hRLTm17, hRNSm17, hRRIm17, hRRUm17, hRSEm17, hRTEm17, hRUNm17, hRUWm17, hRWDm17, by omega, hSm17⟩)
theorem zlw_1340 {n : Nat} {K : Nat → Nat → Nat → List zu_v → List zu_v → zu_m → Prop} (hst : zt_HS n K) (hp2 : ∀ (cells slots pc : Nat) (i v : Int) (m : zu_m), pc ∈ [529, 552, 1012, 1023] → K cells slots (pc + 1) [(3, 1), (5, 3), (40, 190), (53, 233), (0, i), (2, 0), (2, 0)] [] m → K cells slots pc [(3, 1), (5, 3), (40, 190), (53, 233), (0, i), (2, 0), (2, 0)] [(1, v)] m) {cells slots : Nat} {i : Int} {m0 : zu_m} (hN : zt_INV m0) (hi0 : 0 ≤ i) (hi1 : i ≤ (n : Int) - 6) (hn : n ≤ 3072) (ih : ∀ m, zt_INV m → K cells slots 1453 [(3, 1), (5, 3), (40, 190), (53, 233), (0, i), (2, 0), (2, 0)] [] m) : K cells slots 1340 [(3, 1), (5, 3), (40, 190), (53, 233), (0, i), (2, 0), (2, 0)] [] m0 := by
  refine hst cells slots [23, 208, 281, 306, 331, 356, 370, 396, 433, 470, 507, 529, 552, 556, 605, 618, 655, 680, 705, 730, 755, 792, 865, 902, 939, 964, 977, 1002, 1012, 1023, 1027, 1040, 1077, 1102, 1127, 1204, 1229, 1254, 1279, 1340, 1389, 1402, 1415, 1428, 1453] 400 1340 _ _ _ ?_
  refine zw_eq (zlr_1340 n _ _ i m0) ?_
  obtain ⟨hIm0, hRBNm0, hRC0m0, hRE115m0, hRE63m0, hRE89m0, hRG5m0, hRK10m0, hRK54m0, hRKNm0, hRLTm0, hRNSm0, hRRIm0, hRRUm0, hRSEm0, hRTEm0, hRUNm0, hRUWm0, hRWDm0, hT, hSm0⟩ := hN
  have hFm0 : zfr zt_Wl m0 m0 := zfr_rf _ _
  have r1 : 0 ≤ (m0 3 1) ∧ (m0 3 1) ≤ 700 := zi_rd hIm0 zq_3 zb_2_1
  have r2 : 0 ≤ (m0 190 1) ∧ (m0 190 1) ≤ 700 := zi_rd hIm0 zq_190 zb_28_1
  have w3 := zu_w32_id (z := i + 1) (by omega) (by omega)
  refine zw_if ⟨by omega, by omega⟩ ?_
  have r4 := hSm0 (zu_w32 (i + 1))
  have w5 := zu_w32_id (z := i + 2) (by omega) (by omega)
  refine zw_if ⟨by omega, by omega⟩ ?_
  have r6 := hSm0 (zu_w32 (i + 2))
  have w7 := zu_w32_id (z := i + 3) (by omega) (by omega)
  refine zw_if ⟨by omega, by omega⟩ ?_
  have r8 := hSm0 (zu_w32 (i + 3))
  refine zw_bd (zw_mono (zk_77 n hIm0 zq_3 ⟨by omega, by omega⟩ ⟨by omega, by omega⟩ ⟨by omega, by omega⟩ hRE89m0 hRG5m0 hRK54m0) (fun v10 m9 hqm9 => ?_))
  obtain ⟨hIm9, hfm9, hvm9⟩ := hqm9
  have hFm9 := zfr_tr hFm0 hfm9 rfl
  obtain ⟨hRE89m9, hRG5m9, hRK54m9, hvm9⟩ := hvm9
  have hRBNm9 := zR_BN_fr (zdis_fr hfm9 rfl) hRBNm0
  have hRC0m9 := zR_C0_fr (zdis_fr hfm9 rfl) hRC0m0
  have hRE115m9 := zR_E115_fr (zdis_fr hfm9 rfl) hRE115m0
  have hRE63m9 := zR_E63_fr (zdis_fr hfm9 rfl) hRE63m0
  have hRK10m9 := zR_K10_fr (zdis_fr hfm9 rfl) hRK10m0
  have hRKNm9 := zR_KN_fr (zdis_fr hfm9 rfl) hRKNm0
  have hRLTm9 := zR_LT_fr (zdis_fr hfm9 rfl) hRLTm0
  have hRNSm9 := zR_NS_fr (zdis_fr hfm9 rfl) hRNSm0
  have hRRIm9 := zR_RI_fr (zdis_fr hfm9 rfl) hRRIm0
  have hRRUm9 := zR_RU_fr (zdis_fr hfm9 rfl) hRRUm0
  have hRSEm9 := zR_SE_fr (zdis_fr hfm9 rfl) hRSEm0
  have hRTEm9 := zR_TE_fr (zdis_fr hfm9 rfl) hRTEm0
  have hRUNm9 := zR_UN_fr (zdis_fr hfm9 rfl) hRUNm0
  have hRUWm9 := zR_UW_fr (zdis_fr hfm9 rfl) hRUWm0
  have hRWDm9 := zR_WD_fr (zdis_fr hfm9 rfl) hRWDm0
  have hSm9 := zt_Sf (W := []) (fun p => zfr_ap (p := p) hfm9 zq_1 rfl) hSm0
  refine zw_if ⟨by omega, by omega⟩ ?_
  have r11 := hSm9 (zu_w32 (i + 1))
  refine zw_if ⟨by omega, by omega⟩ ?_
  have r12 := hSm9 (zu_w32 (i + 2))
  refine zw_if ⟨by omega, by omega⟩ ?_
  have r13 := hSm9 (zu_w32 (i + 3))
  refine zw_bd (zw_mono (zk_187 n hIm9 zq_190 ⟨by omega, by omega⟩ ⟨by omega, by omega⟩ ⟨by omega, by omega⟩ hRKNm9 hRLTm9 hRSEm9) (fun v15 m14 hqm14 => ?_))
  obtain ⟨hIm14, hfm14, hvm14⟩ := hqm14
  have hFm14 := zfr_tr hFm9 hfm14 rfl
  obtain ⟨hRKNm14, hRLTm14, hRSEm14, hvm14⟩ := hvm14
  have hRBNm14 := zR_BN_fr (zdis_fr hfm14 rfl) hRBNm9
  have hRC0m14 := zR_C0_fr (zdis_fr hfm14 rfl) hRC0m9
  have hRE115m14 := zR_E115_fr (zdis_fr hfm14 rfl) hRE115m9
  have hRE63m14 := zR_E63_fr (zdis_fr hfm14 rfl) hRE63m9
  have hRE89m14 := zR_E89_fr (zdis_fr hfm14 rfl) hRE89m9
  have hRG5m14 := zR_G5_fr (zdis_fr hfm14 rfl) hRG5m9
  have hRK10m14 := zR_K10_fr (zdis_fr hfm14 rfl) hRK10m9
  have hRK54m14 := zR_K54_fr (zdis_fr hfm14 rfl) hRK54m9
  have hRNSm14 := zR_NS_fr (zdis_fr hfm14 rfl) hRNSm9
  have hRRIm14 := zR_RI_fr (zdis_fr hfm14 rfl) hRRIm9
  have hRRUm14 := zR_RU_fr (zdis_fr hfm14 rfl) hRRUm9
  have hRTEm14 := zR_TE_fr (zdis_fr hfm14 rfl) hRTEm9
  have hRUNm14 := zR_UN_fr (zdis_fr hfm14 rfl) hRUNm9
  have hRUWm14 := zR_UW_fr (zdis_fr hfm14 rfl) hRUWm9
  have hRWDm14 := zR_WD_fr (zdis_fr hfm14 rfl) hRWDm9
  have hSm14 := zt_Sf (W := []) (fun p => zfr_ap (p := p) hfm14 zq_1 rfl) hSm9
  have r16 : 0 ≤ (m14 3 1) ∧ (m14 3 1) ≤ 700 := zi_rd hIm14 zq_3 zb_2_1
  have e17 : (m14 3 1) = (m0 3 1) := (Eq.trans (zfr_ap hfm14 zq_3 rfl) (zfr_ap hfm9 zq_3 rfl))
  have r18 : 0 ≤ (m14 190 1) ∧ (m14 190 1) ≤ 700 := zi_rd hIm14 zq_190 zb_28_1
  have e19 : (m14 190 1) = (m0 190 1) := (Eq.trans (zfr_ap hfm14 zq_190 rfl) (zfr_ap hfm9 zq_190 rfl))
  exact zw_kex (ih _ ⟨hIm14, hRBNm14, hRC0m14, hRE115m14, hRE63m14, hRE89m14, hRG5m14, hRK10m14, hRK54m14, hRKNm14, hRLTm14, hRNSm14, hRRIm14, hRRUm14, hRSEm14, hRTEm14, hRUNm14, hRUWm14, hRWDm14, by omega, hSm14⟩)
theorem zlw_1389 {n : Nat} {K : Nat → Nat → Nat → List zu_v → List zu_v → zu_m → Prop} (hst : zt_HS n K) (hp2 : ∀ (cells slots pc : Nat) (i v : Int) (m : zu_m), pc ∈ [529, 552, 1012, 1023] → K cells slots (pc + 1) [(3, 1), (5, 3), (40, 190), (53, 233), (0, i), (2, 0), (2, 0)] [] m → K cells slots pc [(3, 1), (5, 3), (40, 190), (53, 233), (0, i), (2, 0), (2, 0)] [(1, v)] m) {cells slots : Nat} {i : Int} {m0 : zu_m} (hN : zt_INV m0) (hi0 : 0 ≤ i) (hi1 : i ≤ (n : Int) - 6) (hn : n ≤ 3072) (ih : ∀ m, zt_INV m → K cells slots 1453 [(3, 1), (5, 3), (40, 190), (53, 233), (0, i), (2, 0), (2, 0)] [] m) : K cells slots 1389 [(3, 1), (5, 3), (40, 190), (53, 233), (0, i), (2, 0), (2, 0)] [] m0 := by
  refine hst cells slots [23, 208, 281, 306, 331, 356, 370, 396, 433, 470, 507, 529, 552, 556, 605, 618, 655, 680, 705, 730, 755, 792, 865, 902, 939, 964, 977, 1002, 1012, 1023, 1027, 1040, 1077, 1102, 1127, 1204, 1229, 1254, 1279, 1340, 1389, 1402, 1415, 1428, 1453] 400 1389 _ _ _ ?_
  refine zw_eq (zlr_1389 n _ _ i m0) ?_
  obtain ⟨hIm0, hRBNm0, hRC0m0, hRE115m0, hRE63m0, hRE89m0, hRG5m0, hRK10m0, hRK54m0, hRKNm0, hRLTm0, hRNSm0, hRRIm0, hRRUm0, hRSEm0, hRTEm0, hRUNm0, hRUWm0, hRWDm0, hT, hSm0⟩ := hN
  have hFm0 : zfr zt_Wl m0 m0 := zfr_rf _ _
  have r1 : 0 ≤ (m0 3 1) ∧ (m0 3 1) ≤ 700 := zi_rd hIm0 zq_3 zb_2_1
  have r2 : 0 ≤ (m0 190 1) ∧ (m0 190 1) ≤ 700 := zi_rd hIm0 zq_190 zb_28_1
  refine zw_bd (zw_mono (zk_78 n hIm0 zq_3 hRE89m0 hRUNm0 hRUWm0) (fun v4 m3 hqm3 => ?_))
  obtain ⟨hIm3, hfm3, hvm3⟩ := hqm3
  have hFm3 := zfr_tr hFm0 hfm3 rfl
  obtain ⟨hRE89m3, hRUNm3, hRUWm3, hvm3⟩ := hvm3
  have hRBNm3 := zR_BN_fr (zdis_fr hfm3 rfl) hRBNm0
  have hRC0m3 := zR_C0_fr (zdis_fr hfm3 rfl) hRC0m0
  have hRE115m3 := zR_E115_fr (zdis_fr hfm3 rfl) hRE115m0
  have hRE63m3 := zR_E63_fr (zdis_fr hfm3 rfl) hRE63m0
  have hRG5m3 := zR_G5_fr (zdis_fr hfm3 rfl) hRG5m0
  have hRK10m3 := zR_K10_fr (zdis_fr hfm3 rfl) hRK10m0
  have hRK54m3 := zR_K54_fr (zdis_fr hfm3 rfl) hRK54m0
  have hRKNm3 := zR_KN_fr (zdis_fr hfm3 rfl) hRKNm0
  have hRLTm3 := zR_LT_fr (zdis_fr hfm3 rfl) hRLTm0
  have hRNSm3 := zR_NS_fr (zdis_fr hfm3 rfl) hRNSm0
  have hRRIm3 := zR_RI_fr (zdis_fr hfm3 rfl) hRRIm0
  have hRRUm3 := zR_RU_fr (zdis_fr hfm3 rfl) hRRUm0
  have hRSEm3 := zR_SE_fr (zdis_fr hfm3 rfl) hRSEm0
  have hRTEm3 := zR_TE_fr (zdis_fr hfm3 rfl) hRTEm0
  have hRWDm3 := zR_WD_fr (zdis_fr hfm3 rfl) hRWDm0
  have hSm3 := zt_Sf (W := []) (fun p => zfr_ap (p := p) hfm3 zq_1 rfl) hSm0
  refine zw_bd (zw_mono (zk_191 n hIm3 zq_190 hRRUm3 hRSEm3 hRTEm3) (fun v6 m5 hqm5 => ?_))
  obtain ⟨hIm5, hfm5, hvm5⟩ := hqm5
  have hFm5 := zfr_tr hFm3 hfm5 rfl
  obtain ⟨hRRUm5, hRSEm5, hRTEm5, hvm5⟩ := hvm5
  have hRBNm5 := zR_BN_fr (zdis_fr hfm5 rfl) hRBNm3
  have hRC0m5 := zR_C0_fr (zdis_fr hfm5 rfl) hRC0m3
  have hRE115m5 := zR_E115_fr (zdis_fr hfm5 rfl) hRE115m3
  have hRE63m5 := zR_E63_fr (zdis_fr hfm5 rfl) hRE63m3
  have hRE89m5 := zR_E89_fr (zdis_fr hfm5 rfl) hRE89m3
  have hRG5m5 := zR_G5_fr (zdis_fr hfm5 rfl) hRG5m3
  have hRK10m5 := zR_K10_fr (zdis_fr hfm5 rfl) hRK10m3
  have hRK54m5 := zR_K54_fr (zdis_fr hfm5 rfl) hRK54m3
  have hRKNm5 := zR_KN_fr (zdis_fr hfm5 rfl) hRKNm3
  have hRLTm5 := zR_LT_fr (zdis_fr hfm5 rfl) hRLTm3
  have hRNSm5 := zR_NS_fr (zdis_fr hfm5 rfl) hRNSm3
  have hRRIm5 := zR_RI_fr (zdis_fr hfm5 rfl) hRRIm3
  have hRUNm5 := zR_UN_fr (zdis_fr hfm5 rfl) hRUNm3
  have hRUWm5 := zR_UW_fr (zdis_fr hfm5 rfl) hRUWm3
  have hRWDm5 := zR_WD_fr (zdis_fr hfm5 rfl) hRWDm3
  have hSm5 := zt_Sf (W := []) (fun p => zfr_ap (p := p) hfm5 zq_1 rfl) hSm3
  have r7 : 0 ≤ (m5 3 1) ∧ (m5 3 1) ≤ 700 := zi_rd hIm5 zq_3 zb_2_1
  have e8 : (m5 3 1) = (m0 3 1) := (Eq.trans (zfr_ap hfm5 zq_3 rfl) (zfr_ap hfm3 zq_3 rfl))
  have r9 : 0 ≤ (m5 190 1) ∧ (m5 190 1) ≤ 700 := zi_rd hIm5 zq_190 zb_28_1
  have e10 : (m5 190 1) = (m0 190 1) := (Eq.trans (zfr_ap hfm5 zq_190 rfl) (zfr_ap hfm3 zq_190 rfl))
  exact zw_kex (ih _ ⟨hIm5, hRBNm5, hRC0m5, hRE115m5, hRE63m5, hRE89m5, hRG5m5, hRK10m5, hRK54m5, hRKNm5, hRLTm5, hRNSm5, hRRIm5, hRRUm5, hRSEm5, hRTEm5, hRUNm5, hRUWm5, hRWDm5, by omega, hSm5⟩)
theorem zlw_1402 {n : Nat} {K : Nat → Nat → Nat → List zu_v → List zu_v → zu_m → Prop} (hst : zt_HS n K) (hp2 : ∀ (cells slots pc : Nat) (i v : Int) (m : zu_m), pc ∈ [529, 552, 1012, 1023] → K cells slots (pc + 1) [(3, 1), (5, 3), (40, 190), (53, 233), (0, i), (2, 0), (2, 0)] [] m → K cells slots pc [(3, 1), (5, 3), (40, 190), (53, 233), (0, i), (2, 0), (2, 0)] [(1, v)] m) {cells slots : Nat} {i : Int} {m0 : zu_m} (hN : zt_INV m0) (hi0 : 0 ≤ i) (hi1 : i ≤ (n : Int) - 6) (hn : n ≤ 3072) (ih : ∀ m, zt_INV m → K cells slots 1453 [(3, 1), (5, 3), (40, 190), (53, 233), (0, i), (2, 0), (2, 0)] [] m) : K cells slots 1402 [(3, 1), (5, 3), (40, 190), (53, 233), (0, i), (2, 0), (2, 0)] [] m0 := by
  refine hst cells slots [23, 208, 281, 306, 331, 356, 370, 396, 433, 470, 507, 529, 552, 556, 605, 618, 655, 680, 705, 730, 755, 792, 865, 902, 939, 964, 977, 1002, 1012, 1023, 1027, 1040, 1077, 1102, 1127, 1204, 1229, 1254, 1279, 1340, 1389, 1402, 1415, 1428, 1453] 400 1402 _ _ _ ?_
  refine zw_eq (zlr_1402 n _ _ i m0) ?_
  obtain ⟨hIm0, hRBNm0, hRC0m0, hRE115m0, hRE63m0, hRE89m0, hRG5m0, hRK10m0, hRK54m0, hRKNm0, hRLTm0, hRNSm0, hRRIm0, hRRUm0, hRSEm0, hRTEm0, hRUNm0, hRUWm0, hRWDm0, hT, hSm0⟩ := hN
  have hFm0 : zfr zt_Wl m0 m0 := zfr_rf _ _
  have r1 : 0 ≤ (m0 3 1) ∧ (m0 3 1) ≤ 700 := zi_rd hIm0 zq_3 zb_2_1
  have r2 : 0 ≤ (m0 190 1) ∧ (m0 190 1) ≤ 700 := zi_rd hIm0 zq_190 zb_28_1
  refine zw_bd (zw_mono (zk_79 n hIm0 zq_3 hRE89m0) (fun v4 m3 hqm3 => ?_))
  obtain ⟨hIm3, hfm3, hvm3⟩ := hqm3
  have hFm3 := zfr_tr hFm0 hfm3 rfl
  obtain ⟨hRE115m3, hRE89m3, hRESm3, hvm3⟩ := hvm3
  have hRBNm3 := zR_BN_fr (zdis_fr hfm3 rfl) hRBNm0
  have hRC0m3 := zR_C0_fr (zdis_fr hfm3 rfl) hRC0m0
  have hRE63m3 := zR_E63_fr (zdis_fr hfm3 rfl) hRE63m0
  have hRG5m3 := zR_G5_fr (zdis_fr hfm3 rfl) hRG5m0
  have hRK10m3 := zR_K10_fr (zdis_fr hfm3 rfl) hRK10m0
  have hRK54m3 := zR_K54_fr (zdis_fr hfm3 rfl) hRK54m0
  have hRKNm3 := zR_KN_fr (zdis_fr hfm3 rfl) hRKNm0
  have hRLTm3 := zR_LT_fr (zdis_fr hfm3 rfl) hRLTm0
  have hRNSm3 := zR_NS_fr (zdis_fr hfm3 rfl) hRNSm0
  have hRRIm3 := zR_RI_fr (zdis_fr hfm3 rfl) hRRIm0
  have hRRUm3 := zR_RU_fr (zdis_fr hfm3 rfl) hRRUm0
  have hRSEm3 := zR_SE_fr (zdis_fr hfm3 rfl) hRSEm0
  have hRTEm3 := zR_TE_fr (zdis_fr hfm3 rfl) hRTEm0
  have hRUNm3 := zR_UN_fr (zdis_fr hfm3 rfl) hRUNm0
  have hRUWm3 := zR_UW_fr (zdis_fr hfm3 rfl) hRUWm0
  have hRWDm3 := zR_WD_fr (zdis_fr hfm3 rfl) hRWDm0
  have hSm3 := zt_Sf (W := []) (fun p => zfr_ap (p := p) hfm3 zq_1 rfl) hSm0
  refine zw_bd (zw_mono (zk_192 n hIm3 zq_190 hRSEm3 hRTEm3) (fun v6 m5 hqm5 => ?_))
  obtain ⟨hIm5, hfm5, hvm5⟩ := hqm5
  have hFm5 := zfr_tr hFm3 hfm5 rfl
  obtain ⟨hRRIm5, hRSEm5, hRTEm5, hvm5⟩ := hvm5
  have hRBNm5 := zR_BN_fr (zdis_fr hfm5 rfl) hRBNm3
  have hRC0m5 := zR_C0_fr (zdis_fr hfm5 rfl) hRC0m3
  have hRE115m5 := zR_E115_fr (zdis_fr hfm5 rfl) hRE115m3
  have hRE63m5 := zR_E63_fr (zdis_fr hfm5 rfl) hRE63m3
  have hRE89m5 := zR_E89_fr (zdis_fr hfm5 rfl) hRE89m3
  have hRESm5 := zR_ES_fr (zdis_fr hfm5 rfl) hRESm3
  have hRG5m5 := zR_G5_fr (zdis_fr hfm5 rfl) hRG5m3
  have hRK10m5 := zR_K10_fr (zdis_fr hfm5 rfl) hRK10m3
  have hRK54m5 := zR_K54_fr (zdis_fr hfm5 rfl) hRK54m3
  have hRKNm5 := zR_KN_fr (zdis_fr hfm5 rfl) hRKNm3
  have hRLTm5 := zR_LT_fr (zdis_fr hfm5 rfl) hRLTm3
  have hRNSm5 := zR_NS_fr (zdis_fr hfm5 rfl) hRNSm3
  have hRRUm5 := zR_RU_fr (zdis_fr hfm5 rfl) hRRUm3
  have hRUNm5 := zR_UN_fr (zdis_fr hfm5 rfl) hRUNm3
  have hRUWm5 := zR_UW_fr (zdis_fr hfm5 rfl) hRUWm3
  have hRWDm5 := zR_WD_fr (zdis_fr hfm5 rfl) hRWDm3
  have hSm5 := zt_Sf (W := []) (fun p => zfr_ap (p := p) hfm5 zq_1 rfl) hSm3
  have r7 : 0 ≤ (m5 3 1) ∧ (m5 3 1) ≤ 700 := zi_rd hIm5 zq_3 zb_2_1
  have e8 : (m5 3 1) = (m0 3 1) := (Eq.trans (zfr_ap hfm5 zq_3 rfl) (zfr_ap hfm3 zq_3 rfl))
  have r9 : 0 ≤ (m5 190 1) ∧ (m5 190 1) ≤ 700 := zi_rd hIm5 zq_190 zb_28_1
  have e10 : (m5 190 1) = (m0 190 1) := (Eq.trans (zfr_ap hfm5 zq_190 rfl) (zfr_ap hfm3 zq_190 rfl))
  exact zw_kex (ih _ ⟨hIm5, hRBNm5, hRC0m5, hRE115m5, hRE63m5, hRE89m5, hRG5m5, hRK10m5, hRK54m5, hRKNm5, hRLTm5, hRNSm5, hRRIm5, hRRUm5, hRSEm5, hRTEm5, hRUNm5, hRUWm5, hRWDm5, by omega, hSm5⟩)
theorem zlw_1415 {n : Nat} {K : Nat → Nat → Nat → List zu_v → List zu_v → zu_m → Prop} (hst : zt_HS n K) (hp2 : ∀ (cells slots pc : Nat) (i v : Int) (m : zu_m), pc ∈ [529, 552, 1012, 1023] → K cells slots (pc + 1) [(3, 1), (5, 3), (40, 190), (53, 233), (0, i), (2, 0), (2, 0)] [] m → K cells slots pc [(3, 1), (5, 3), (40, 190), (53, 233), (0, i), (2, 0), (2, 0)] [(1, v)] m) {cells slots : Nat} {i : Int} {m0 : zu_m} (hN : zt_INV m0) (hi0 : 0 ≤ i) (hi1 : i ≤ (n : Int) - 6) (hn : n ≤ 3072) (ih : ∀ m, zt_INV m → K cells slots 1453 [(3, 1), (5, 3), (40, 190), (53, 233), (0, i), (2, 0), (2, 0)] [] m) : K cells slots 1415 [(3, 1), (5, 3), (40, 190), (53, 233), (0, i), (2, 0), (2, 0)] [] m0 := by
  refine hst cells slots [23, 208, 281, 306, 331, 356, 370, 396, 433, 470, 507, 529, 552, 556, 605, 618, 655, 680, 705, 730, 755, 792, 865, 902, 939, 964, 977, 1002, 1012, 1023, 1027, 1040, 1077, 1102, 1127, 1204, 1229, 1254, 1279, 1340, 1389, 1402, 1415, 1428, 1453] 400 1415 _ _ _ ?_
  refine zw_eq (zlr_1415 n _ _ i m0) ?_
  obtain ⟨hIm0, hRBNm0, hRC0m0, hRE115m0, hRE63m0, hRE89m0, hRG5m0, hRK10m0, hRK54m0, hRKNm0, hRLTm0, hRNSm0, hRRIm0, hRRUm0, hRSEm0, hRTEm0, hRUNm0, hRUWm0, hRWDm0, hT, hSm0⟩ := hN
  have hFm0 : zfr zt_Wl m0 m0 := zfr_rf _ _
  have r1 : 0 ≤ (m0 3 1) ∧ (m0 3 1) ≤ 700 := zi_rd hIm0 zq_3 zb_2_1
  have r2 : 0 ≤ (m0 190 1) ∧ (m0 190 1) ≤ 700 := zi_rd hIm0 zq_190 zb_28_1
  refine zw_bd (zw_mono (zk_80 n hIm0 zq_3 hRE115m0 hRE89m0 hRUNm0 hRUWm0) (fun v4 m3 hqm3 => ?_))
  obtain ⟨hIm3, hfm3, hvm3⟩ := hqm3
  have hFm3 := zfr_tr hFm0 hfm3 rfl
  obtain ⟨hRE115m3, hRE89m3, hRUNm3, hRUWm3, hvm3⟩ := hvm3
  have hRBNm3 := zR_BN_fr (zdis_fr hfm3 rfl) hRBNm0
  have hRC0m3 := zR_C0_fr (zdis_fr hfm3 rfl) hRC0m0
  have hRE63m3 := zR_E63_fr (zdis_fr hfm3 rfl) hRE63m0
  have hRG5m3 := zR_G5_fr (zdis_fr hfm3 rfl) hRG5m0
  have hRK10m3 := zR_K10_fr (zdis_fr hfm3 rfl) hRK10m0
  have hRK54m3 := zR_K54_fr (zdis_fr hfm3 rfl) hRK54m0
  have hRKNm3 := zR_KN_fr (zdis_fr hfm3 rfl) hRKNm0
  have hRLTm3 := zR_LT_fr (zdis_fr hfm3 rfl) hRLTm0
  have hRNSm3 := zR_NS_fr (zdis_fr hfm3 rfl) hRNSm0
  have hRRIm3 := zR_RI_fr (zdis_fr hfm3 rfl) hRRIm0
  have hRRUm3 := zR_RU_fr (zdis_fr hfm3 rfl) hRRUm0
  have hRSEm3 := zR_SE_fr (zdis_fr hfm3 rfl) hRSEm0
  have hRTEm3 := zR_TE_fr (zdis_fr hfm3 rfl) hRTEm0
  have hRWDm3 := zR_WD_fr (zdis_fr hfm3 rfl) hRWDm0
  have hSm3 := zt_Sf (W := []) (fun p => zfr_ap (p := p) hfm3 zq_1 rfl) hSm0
  refine zw_bd (zw_mono (zk_193 n hIm3 zq_190 hRRIm3 hRRUm3 hRSEm3 hRTEm3) (fun v6 m5 hqm5 => ?_))
  obtain ⟨hIm5, hfm5, hvm5⟩ := hqm5
  have hFm5 := zfr_tr hFm3 hfm5 rfl
  obtain ⟨hRRIm5, hRRUm5, hRSEm5, hRTEm5, hvm5⟩ := hvm5
  have hRBNm5 := zR_BN_fr (zdis_fr hfm5 rfl) hRBNm3
  have hRC0m5 := zR_C0_fr (zdis_fr hfm5 rfl) hRC0m3
  have hRE115m5 := zR_E115_fr (zdis_fr hfm5 rfl) hRE115m3
  have hRE63m5 := zR_E63_fr (zdis_fr hfm5 rfl) hRE63m3
  have hRE89m5 := zR_E89_fr (zdis_fr hfm5 rfl) hRE89m3
  have hRG5m5 := zR_G5_fr (zdis_fr hfm5 rfl) hRG5m3
  have hRK10m5 := zR_K10_fr (zdis_fr hfm5 rfl) hRK10m3
  have hRK54m5 := zR_K54_fr (zdis_fr hfm5 rfl) hRK54m3
  have hRKNm5 := zR_KN_fr (zdis_fr hfm5 rfl) hRKNm3
  have hRLTm5 := zR_LT_fr (zdis_fr hfm5 rfl) hRLTm3
  have hRNSm5 := zR_NS_fr (zdis_fr hfm5 rfl) hRNSm3
  have hRUNm5 := zR_UN_fr (zdis_fr hfm5 rfl) hRUNm3
  have hRUWm5 := zR_UW_fr (zdis_fr hfm5 rfl) hRUWm3
  have hRWDm5 := zR_WD_fr (zdis_fr hfm5 rfl) hRWDm3
  have hSm5 := zt_Sf (W := []) (fun p => zfr_ap (p := p) hfm5 zq_1 rfl) hSm3
  have r7 : 0 ≤ (m5 3 1) ∧ (m5 3 1) ≤ 700 := zi_rd hIm5 zq_3 zb_2_1
  have e8 : (m5 3 1) = (m0 3 1) := (Eq.trans (zfr_ap hfm5 zq_3 rfl) (zfr_ap hfm3 zq_3 rfl))
  have r9 : 0 ≤ (m5 190 1) ∧ (m5 190 1) ≤ 700 := zi_rd hIm5 zq_190 zb_28_1
  have e10 : (m5 190 1) = (m0 190 1) := (Eq.trans (zfr_ap hfm5 zq_190 rfl) (zfr_ap hfm3 zq_190 rfl))
  exact zw_kex (ih _ ⟨hIm5, hRBNm5, hRC0m5, hRE115m5, hRE63m5, hRE89m5, hRG5m5, hRK10m5, hRK54m5, hRKNm5, hRLTm5, hRNSm5, hRRIm5, hRRUm5, hRSEm5, hRTEm5, hRUNm5, hRUWm5, hRWDm5, by omega, hSm5⟩)
theorem zlw_1428 {n : Nat} {K : Nat → Nat → Nat → List zu_v → List zu_v → zu_m → Prop} (hst : zt_HS n K) (hp2 : ∀ (cells slots pc : Nat) (i v : Int) (m : zu_m), pc ∈ [529, 552, 1012, 1023] → K cells slots (pc + 1) [(3, 1), (5, 3), (40, 190), (53, 233), (0, i), (2, 0), (2, 0)] [] m → K cells slots pc [(3, 1), (5, 3), (40, 190), (53, 233), (0, i), (2, 0), (2, 0)] [(1, v)] m) {cells slots : Nat} {i : Int} {m0 : zu_m} (hN : zt_INV m0) (hi0 : 0 ≤ i) (hi1 : i ≤ (n : Int) - 6) (hn : n ≤ 3072) (ih : ∀ m, zt_INV m → K cells slots 1453 [(3, 1), (5, 3), (40, 190), (53, 233), (0, i), (2, 0), (2, 0)] [] m) : K cells slots 1428 [(3, 1), (5, 3), (40, 190), (53, 233), (0, i), (2, 0), (2, 0)] [] m0 := by
  refine hst cells slots [23, 208, 281, 306, 331, 356, 370, 396, 433, 470, 507, 529, 552, 556, 605, 618, 655, 680, 705, 730, 755, 792, 865, 902, 939, 964, 977, 1002, 1012, 1023, 1027, 1040, 1077, 1102, 1127, 1204, 1229, 1254, 1279, 1340, 1389, 1402, 1415, 1428, 1453] 400 1428 _ _ _ ?_
  refine zw_eq (zlr_1428 n _ _ i m0) ?_
  obtain ⟨hIm0, hRBNm0, hRC0m0, hRE115m0, hRE63m0, hRE89m0, hRG5m0, hRK10m0, hRK54m0, hRKNm0, hRLTm0, hRNSm0, hRRIm0, hRRUm0, hRSEm0, hRTEm0, hRUNm0, hRUWm0, hRWDm0, hT, hSm0⟩ := hN
  have hFm0 : zfr zt_Wl m0 m0 := zfr_rf _ _
  have r1 : 0 ≤ (m0 3 1) ∧ (m0 3 1) ≤ 700 := zi_rd hIm0 zq_3 zb_2_1
  have r2 : 0 ≤ (m0 190 1) ∧ (m0 190 1) ≤ 700 := zi_rd hIm0 zq_190 zb_28_1
  have w3 := zu_w32_id (z := i + 1) (by omega) (by omega)
  refine zw_if ⟨by omega, by omega⟩ ?_
  have r4 := hSm0 (zu_w32 (i + 1))
  refine zw_bd (zw_mono (zk_81 n hIm0 zq_3 ⟨by omega, by omega⟩) (fun v6 m5 hqm5 => ?_))
  obtain ⟨hIm5, hfm5, hvm5⟩ := hqm5
  have hFm5 := zfr_tr hFm0 hfm5 rfl
  have hRBNm5 := zR_BN_fr (zdis_fr hfm5 rfl) hRBNm0
  have hRC0m5 := zR_C0_fr (zdis_fr hfm5 rfl) hRC0m0
  have hRE115m5 := zR_E115_fr (zdis_fr hfm5 rfl) hRE115m0
  have hRE63m5 := zR_E63_fr (zdis_fr hfm5 rfl) hRE63m0
  have hRE89m5 := zR_E89_fr (zdis_fr hfm5 rfl) hRE89m0
  have hRG5m5 := zR_G5_fr (zdis_fr hfm5 rfl) hRG5m0
  have hRK10m5 := zR_K10_fr (zdis_fr hfm5 rfl) hRK10m0
  have hRK54m5 := zR_K54_fr (zdis_fr hfm5 rfl) hRK54m0
  have hRKNm5 := zR_KN_fr (zdis_fr hfm5 rfl) hRKNm0
  have hRLTm5 := zR_LT_fr (zdis_fr hfm5 rfl) hRLTm0
  have hRNSm5 := zR_NS_fr (zdis_fr hfm5 rfl) hRNSm0
  have hRRIm5 := zR_RI_fr (zdis_fr hfm5 rfl) hRRIm0
  have hRRUm5 := zR_RU_fr (zdis_fr hfm5 rfl) hRRUm0
  have hRSEm5 := zR_SE_fr (zdis_fr hfm5 rfl) hRSEm0
  have hRTEm5 := zR_TE_fr (zdis_fr hfm5 rfl) hRTEm0
  have hRUNm5 := zR_UN_fr (zdis_fr hfm5 rfl) hRUNm0
  have hRUWm5 := zR_UW_fr (zdis_fr hfm5 rfl) hRUWm0
  have hRWDm5 := zR_WD_fr (zdis_fr hfm5 rfl) hRWDm0
  have hSm5 := zt_Sf (W := []) (fun p => zfr_ap (p := p) hfm5 zq_1 rfl) hSm0
  refine zw_if ⟨by omega, by omega⟩ ?_
  have r7 := hSm5 (zu_w32 (i + 1))
  refine zw_bd (zw_mono (zk_195 n hIm5 zq_190 ⟨by omega, by omega⟩) (fun v9 m8 hqm8 => ?_))
  obtain ⟨hIm8, hfm8, hvm8⟩ := hqm8
  have hFm8 := zfr_tr hFm5 hfm8 rfl
  have hRBNm8 := zR_BN_fr (zdis_fr hfm8 rfl) hRBNm5
  have hRC0m8 := zR_C0_fr (zdis_fr hfm8 rfl) hRC0m5
  have hRE115m8 := zR_E115_fr (zdis_fr hfm8 rfl) hRE115m5
  have hRE63m8 := zR_E63_fr (zdis_fr hfm8 rfl) hRE63m5
  have hRE89m8 := zR_E89_fr (zdis_fr hfm8 rfl) hRE89m5
  have hRG5m8 := zR_G5_fr (zdis_fr hfm8 rfl) hRG5m5
  have hRK10m8 := zR_K10_fr (zdis_fr hfm8 rfl) hRK10m5
  have hRK54m8 := zR_K54_fr (zdis_fr hfm8 rfl) hRK54m5
  have hRKNm8 := zR_KN_fr (zdis_fr hfm8 rfl) hRKNm5
  have hRLTm8 := zR_LT_fr (zdis_fr hfm8 rfl) hRLTm5
  have hRNSm8 := zR_NS_fr (zdis_fr hfm8 rfl) hRNSm5
  have hRRIm8 := zR_RI_fr (zdis_fr hfm8 rfl) hRRIm5
  have hRRUm8 := zR_RU_fr (zdis_fr hfm8 rfl) hRRUm5
  have hRSEm8 := zR_SE_fr (zdis_fr hfm8 rfl) hRSEm5
  have hRTEm8 := zR_TE_fr (zdis_fr hfm8 rfl) hRTEm5
  have hRUNm8 := zR_UN_fr (zdis_fr hfm8 rfl) hRUNm5
  have hRUWm8 := zR_UW_fr (zdis_fr hfm8 rfl) hRUWm5
  have hRWDm8 := zR_WD_fr (zdis_fr hfm8 rfl) hRWDm5
  have hSm8 := zt_Sf (W := []) (fun p => zfr_ap (p := p) hfm8 zq_1 rfl) hSm5
  have r10 : 0 ≤ (m8 3 1) ∧ (m8 3 1) ≤ 700 := zi_rd hIm8 zq_3 zb_2_1
  have e11 : (m8 3 1) = (m0 3 1) := (Eq.trans (zfr_ap hfm8 zq_3 rfl) (zfr_ap hfm5 zq_3 rfl))
  have r12 : 0 ≤ (m8 190 1) ∧ (m8 190 1) ≤ 700 := zi_rd hIm8 zq_190 zb_28_1
  have e13 : (m8 190 1) = (m0 190 1) := (Eq.trans (zfr_ap hfm8 zq_190 rfl) (zfr_ap hfm5 zq_190 rfl))
  exact zw_kex (ih _ ⟨hIm8, hRBNm8, hRC0m8, hRE115m8, hRE63m8, hRE89m8, hRG5m8, hRK10m8, hRK54m8, hRKNm8, hRLTm8, hRNSm8, hRRIm8, hRRUm8, hRSEm8, hRTEm8, hRUNm8, hRUWm8, hRWDm8, by omega, hSm8⟩)
theorem zlw_373 {n : Nat} {K : Nat → Nat → Nat → List zu_v → List zu_v → zu_m → Prop} (hst : zt_HS n K) (hp2 : ∀ (cells slots pc : Nat) (i v : Int) (m : zu_m), pc ∈ [529, 552, 1012, 1023] → K cells slots (pc + 1) [(3, 1), (5, 3), (40, 190), (53, 233), (0, i), (2, 0), (2, 0)] [] m → K cells slots pc [(3, 1), (5, 3), (40, 190), (53, 233), (0, i), (2, 0), (2, 0)] [(1, v)] m) {cells slots : Nat} {i r : Int} {m0 : zu_m} (hN : zt_INV m0) (hi0 : 0 ≤ i) (hi1 : i ≤ (n : Int) - 6) (hn : n ≤ 3072) (ih : ∀ m, zt_INV m → K cells slots 1453 [(3, 1), (5, 3), (40, 190), (53, 233), (0, i), (2, 0), (2, 0)] [] m) (ihf : ∀ (r v : Int) (m : zu_m), K cells slots 1453 [(3, 1), (5, 3), (40, 190), (53, 233), (0, i), (2, 0), (2, 0)] [] m → K cells slots 1453 [(3, 1), (5, 3), (40, 190), (53, 233), (0, i), (0, r), (0, v)] [] m) : K cells slots 373 [(3, 1), (5, 3), (40, 190), (53, 233), (0, i), (2, 0), (2, 0)] [(0, r)] m0 := by
  refine hst cells slots [23, 208, 281, 306, 331, 356, 370, 396, 433, 470, 507, 529, 552, 556, 605, 618, 655, 680, 705, 730, 755, 792, 865, 902, 939, 964, 977, 1002, 1012, 1023, 1027, 1040, 1077, 1102, 1127, 1204, 1229, 1254, 1279, 1340, 1389, 1402, 1415, 1428, 1453] 400 373 _ _ _ ?_
  refine zw_eq (zlr_373 n _ _ i r m0) ?_
  obtain ⟨hIm0, hRBNm0, hRC0m0, hRE115m0, hRE63m0, hRE89m0, hRG5m0, hRK10m0, hRK54m0, hRKNm0, hRLTm0, hRNSm0, hRRIm0, hRRUm0, hRSEm0, hRTEm0, hRUNm0, hRUWm0, hRWDm0, hT, hSm0⟩ := hN
  have hFm0 : zfr zt_Wl m0 m0 := zfr_rf _ _
  have r1 : 0 ≤ (m0 3 1) ∧ (m0 3 1) ≤ 700 := zi_rd hIm0 zq_3 zb_2_1
  have r2 : 0 ≤ (m0 190 1) ∧ (m0 190 1) ≤ 700 := zi_rd hIm0 zq_190 zb_28_1
  have w3 := zu_w32_id (z := i + 1) (by omega) (by omega)
  refine zw_if ⟨by omega, by omega⟩ ?_
  have r4 := hSm0 (zu_w32 (i + 1))
  have w5 := zu_w32_id (z := i + 2) (by omega) (by omega)
  refine zw_if ⟨by omega, by omega⟩ ?_
  have r6 := hSm0 (zu_w32 (i + 2))
  refine zw_bd (zw_mono (zk_143 n hIm0 zq_190 ⟨by omega, by omega⟩ ⟨by omega, by omega⟩) (fun v8 m7 hqm7 => ?_))
  obtain ⟨hIm7, hfm7, hvm7⟩ := hqm7
  have hFm7 := zfr_tr hFm0 hfm7 rfl
  have hRBNm7 := zR_BN_fr (zdis_fr hfm7 rfl) hRBNm0
  have hRC0m7 := zR_C0_fr (zdis_fr hfm7 rfl) hRC0m0
  have hRE115m7 := zR_E115_fr (zdis_fr hfm7 rfl) hRE115m0
  have hRE63m7 := zR_E63_fr (zdis_fr hfm7 rfl) hRE63m0
  have hRE89m7 := zR_E89_fr (zdis_fr hfm7 rfl) hRE89m0
  have hRG5m7 := zR_G5_fr (zdis_fr hfm7 rfl) hRG5m0
  have hRK10m7 := zR_K10_fr (zdis_fr hfm7 rfl) hRK10m0
  have hRK54m7 := zR_K54_fr (zdis_fr hfm7 rfl) hRK54m0
  have hRKNm7 := zR_KN_fr (zdis_fr hfm7 rfl) hRKNm0
  have hRLTm7 := zR_LT_fr (zdis_fr hfm7 rfl) hRLTm0
  have hRNSm7 := zR_NS_fr (zdis_fr hfm7 rfl) hRNSm0
  have hRRIm7 := zR_RI_fr (zdis_fr hfm7 rfl) hRRIm0
  have hRRUm7 := zR_RU_fr (zdis_fr hfm7 rfl) hRRUm0
  have hRSEm7 := zR_SE_fr (zdis_fr hfm7 rfl) hRSEm0
  have hRTEm7 := zR_TE_fr (zdis_fr hfm7 rfl) hRTEm0
  have hRUNm7 := zR_UN_fr (zdis_fr hfm7 rfl) hRUNm0
  have hRUWm7 := zR_UW_fr (zdis_fr hfm7 rfl) hRUWm0
  have hRWDm7 := zR_WD_fr (zdis_fr hfm7 rfl) hRWDm0
  have hSm7 := zt_Sf (W := []) (fun p => zfr_ap (p := p) hfm7 zq_1 rfl) hSm0
  have r9 : 0 ≤ (m7 3 1) ∧ (m7 3 1) ≤ 700 := zi_rd hIm7 zq_3 zb_2_1
  have e10 : (m7 3 1) = (m0 3 1) := (zfr_ap hfm7 zq_3 rfl)
  have r11 : 0 ≤ (m7 190 1) ∧ (m7 190 1) ≤ 700 := zi_rd hIm7 zq_190 zb_28_1
  have e12 : (m7 190 1) = (m0 190 1) := (zfr_ap hfm7 zq_190 rfl)
  exact zw_kex (ihf _ _ _ (ih _ ⟨hIm7, hRBNm7, hRC0m7, hRE115m7, hRE63m7, hRE89m7, hRG5m7, hRK10m7, hRK54m7, hRKNm7, hRLTm7, hRNSm7, hRRIm7, hRRUm7, hRSEm7, hRTEm7, hRUNm7, hRUWm7, hRWDm7, by omega, hSm7⟩))
