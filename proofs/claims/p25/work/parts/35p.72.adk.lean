/-! adoptText: the laws in force, what a CELL is liked -/
theorem zcp_in {s s' : zu_m} {a b k j : Int} (hm : zu_cp s a 0 b 0 k = s') (h0 : 0 ≤ j) (h1 : j < k) : s' b j = s a j := by
  rw [← hm]
  show (if b = b ∧ 0 ≤ j ∧ j < 0 + k then s a (0 + (j - 0)) else s b j) = s a j
  rw [if_pos ⟨rfl, h0, by omega⟩, show (0 : Int) + (j - 0) = j by omega]
theorem zcp_ne {s s' : zu_m} {a b c k j : Int} (hm : zu_cp s a 0 b 0 k = s') (h : c ≠ b) : s' c j = s c j := by
  rw [← hm]
  exact if_neg (fun q => h q.1)
theorem zy_21 (n : Nat) {m : zu_m} : zl (zu_call (zt_T n) 21 [(10, 54), (10, 10)] m) (fun _ m' => (∀ j, 0 ≤ j → j < 64 → m' 55 j = m 11 j ∧ m' 56 j = m 12 j) ∧ ∀ L, 0 ≤ L → L < 4 → m' 57 L = m 13 L ∧ m' 58 L = m 14 L) := by
  refine zl_eq (zu_call_at (zt_T n) (zm_21 n) (zdp_21 n) _ _ _ _ _ rfl (zr_21_0 n _ _ 54 10 m)) ?_
  refine zl_if (fun _ => ?_)
  generalize hm1 : zu_cp m (10 + 1) 0 (54 + 1) 0 64 = m1
  refine zl_if (fun _ => ?_)
  generalize hm2 : zu_cp m1 (10 + 2) 0 (54 + 2) 0 64 = m2
  refine zl_if (fun _ => ?_)
  generalize hm3 : zu_cp m2 (10 + 3) 0 (54 + 3) 0 4 = m3
  refine zl_if (fun _ => ?_)
  generalize hm4 : zu_cp m3 (10 + 4) 0 (54 + 4) 0 4 = m4
  have up : ∀ d p, d ≠ 54 → (zu_up (zu_up m4 54 5 (m4 10 5)) 54 6 ((zu_up m4 54 5 (m4 10 5)) 10 6)) d p = m4 d p := fun d p hd => by
    rw [zu_up_ne (Or.inl hd), zu_up_ne (Or.inl hd)]
  refine zl_some ⟨fun j j0 j1 => ⟨?_, ?_⟩, fun L l0 l1 => ⟨?_, ?_⟩⟩
  · exact (up 55 j (by decide)).trans ((zcp_ne hm4 (show (55 : Int) ≠ 54 + 4 by decide)).trans ((zcp_ne hm3 (show (55 : Int) ≠ 54 + 3 by decide)).trans ((zcp_ne hm2 (show (55 : Int) ≠ 54 + 2 by decide)).trans (zcp_in hm1 j0 j1))))
  · exact (up 56 j (by decide)).trans ((zcp_ne hm4 (show (56 : Int) ≠ 54 + 4 by decide)).trans ((zcp_ne hm3 (show (56 : Int) ≠ 54 + 3 by decide)).trans ((zcp_in hm2 j0 j1).trans (zcp_ne hm1 (show (12 : Int) ≠ 54 + 1 by decide)))))
  · exact (up 57 L (by decide)).trans ((zcp_ne hm4 (show (57 : Int) ≠ 54 + 4 by decide)).trans ((zcp_in hm3 l0 l1).trans ((zcp_ne hm2 (show (13 : Int) ≠ 54 + 2 by decide)).trans (zcp_ne hm1 (show (13 : Int) ≠ 54 + 1 by decide)))))
  · exact (up 58 L (by decide)).trans ((zcp_in hm4 l0 l1).trans ((zcp_ne hm3 (show (14 : Int) ≠ 54 + 3 by decide)).trans ((zcp_ne hm2 (show (14 : Int) ≠ 54 + 2 by decide)).trans (zcp_ne hm1 (show (14 : Int) ≠ 54 + 1 by decide)))))
theorem zy_20 (n : Nat) {m : zu_m} (hI : zi_I m) (hG : m 6 2 = m 6 0 * m 6 1) (hK : zR_K10 m) : zl (zu_call (zt_T n) 20 [(8, 50), (8, 6)] m) (fun _ m' => (∀ j, 0 ≤ j → j < 64 → m' 55 j = m 11 j ∧ m' 56 j = m 12 j) ∧ (∀ L, 0 ≤ L → L < 4 → m' 57 L = m 13 L ∧ m' 58 L = m 14 L) ∧ (∀ c, 0 ≤ c → c < 48 → m' 53 c = m 9 c) ∧ m' 50 0 = m 6 0 ∧ m' 50 1 = m 6 1) := by
  refine zl_eq (zu_call_at (zt_T n) (zm_20 n) (zdp_20 n) _ _ _ _ _ rfl (zr_20_0 n _ _ 50 6 m)) ?_
  have r1 := zi_rd hI zq_6 zb_4_3
  generalize hm2 : zu_up m 50 3 (m 6 3) = m2
  have I2 := zi_up hm2 hI zq_50 zb_11_3 r1.1 r1.2
  have r3 := zi_rd I2 zq_6 zb_4_4
  generalize hm4 : zu_up m2 50 4 (m2 6 4) = m4
  have I4 := zi_up hm4 I2 zq_50 zb_11_4 r3.1 r3.2
  have r5 := zi_rd I4 zq_6 zb_4_5
  generalize hm6 : zu_up m4 50 5 (m4 6 5) = m6
  have I6 := zi_up hm6 I4 zq_50 zb_11_5 r5.1 r5.2
  have F6 : zfr [(11, 4), (11, 5), (11, 6)] m m6 := zfr_up hm6 (zfr_up hm4 (zfr_up hm2 (zfr_rf _ _) zq_50 rfl) zq_50 rfl) zq_50 rfl
  have hK6 : zR_K10 m6 := zR_K10_fr (zdis_fr F6 rfl) hK
  refine zl_bd (zl_mono (zl_both (zl_of (zk_21 n I6 (show zcls (50 + 4) = 12 from zq_54) (show zcls (6 + 4) = 5 from zq_10) hK6)) (zy_21 n)) (fun _ m7 hs => ?_))
  obtain ⟨⟨I7, F7, -⟩, y1, y2⟩ := hs
  refine zl_if (fun _ => ?_)
  generalize hm9 : zu_cp m7 (6 + 3) 0 (50 + 3) 0 48 = m9
  have I9 := zi_cp hm9 I7 (show zcls (6 + 3) = 32 from zq_9) (show zcls (50 + 3) = 51 from zq_53) zb_32 zb_51 (by decide) (by decide)
  have F9 : zfr [(51, 0)] m7 m9 := zfr_cp hm9 (zfr_rf _ _) (show zcls (50 + 3) = 51 from zq_53) (fun _ => rfl)
  have r10 := zi_rd I9 zq_6 zb_4_0
  have r11 := zi_rd I9 zq_6 zb_4_1
  refine zl_bd (zl_mono (zl_of (zk_15_11 n I9 zq_50 r10 r11)) (fun _ m14 hs => zl_some ?_))
  obtain ⟨I14, F14, -, -, g0, g1, g2⟩ := hs
  refine ⟨fun j j0 j1 => ?_, fun L l0 l1 => ?_, fun c c0 c1 => ?_, ?_, ?_⟩
  · obtain ⟨a, b⟩ := y1 j j0 j1
    exact ⟨(zfr_ap F14 zq_55 rfl).trans ((zfr_ap F9 zq_55 rfl).trans (a.trans (zfr_ap F6 zq_11 rfl))), (zfr_ap F14 zq_56 rfl).trans ((zfr_ap F9 zq_56 rfl).trans (b.trans (zfr_ap F6 zq_12 rfl)))⟩
  · obtain ⟨a, b⟩ := y2 L l0 l1
    exact ⟨(zfr_ap F14 zq_57 rfl).trans ((zfr_ap F9 zq_57 rfl).trans (a.trans (zfr_ap F6 zq_13 rfl))), (zfr_ap F14 zq_58 rfl).trans ((zfr_ap F9 zq_58 rfl).trans (b.trans (zfr_ap F6 zq_14 rfl)))⟩
  · exact (zfr_ap F14 zq_53 rfl).trans ((zcp_in hm9 c0 c1).trans ((zfr_ap F7 zq_9 rfl).trans (zfr_ap F6 zq_9 rfl)))
  · exact g0.trans ((zfr_ap F9 zq_6 rfl).trans ((zfr_ap F7 zq_6 rfl).trans (zfr_ap F6 zq_6 rfl)))
  · exact g1.trans ((zfr_ap F9 zq_6 rfl).trans ((zfr_ap F7 zq_6 rfl).trans (zfr_ap F6 zq_6 rfl)))
def zNA (m t : zu_m) : Prop := ∀ L, 0 ≤ L → L < 4 → zNW m t L
theorem zNA_LT {m t : zu_m} (h : zNA m t) : zLT2 t := fun L l0 l1 h5 => by
  obtain ⟨n1, n2⟩ := h L l0 l1
  have h0 : 0 ≤ m 57 L := Int.not_lt.mp (fun q => h5 (n1.mp q))
  obtain ⟨p1, p2, p3, p4, -⟩ := n2 h0
  omega
theorem zNA_of {m m1 t1 t2 : zu_m} (hl : zDl m t1) (hN : zDN m t1) (hT : zKT 190 t1 t2) (y1 : ∀ j, 0 ≤ j → j < 64 → m1 55 j = m 11 j ∧ m1 56 j = m 12 j) (y2 : ∀ L, 0 ≤ L → L < 4 → m1 57 L = m 13 L ∧ m1 58 L = m 14 L) : zNA m1 t2 := by
  intro L l0 l1
  obtain ⟨k1, k2, -⟩ := hT
  obtain ⟨a5, a6, a7⟩ := k1 L l0 l1
  obtain ⟨e57, e58⟩ := y2 L l0 l1
  obtain ⟨N1, N2, N3, N4⟩ := hN
  unfold zNW
  rw [e57, e58, a5, a6, a7]
  refine ⟨hl L l0 l1, fun h0 => ?_⟩
  obtain ⟨b1, b2, b3, b4, b5, b6⟩ := N4 L l0 l1 h0
  have cg : ∀ k : Nat, m 13 L + (k : Int) ≤ m 14 L → zstk (fun q => t2 208 q) (m 13 L) k = zstk (fun q => t1 208 (64 + q)) (m 13 L) k := fun k hk => zstk_cg k (fun j hj => (k2 _ (by omega) (by omega)).1)
  refine ⟨b1, b2, b3, by omega, fun i hi => ?_, ?_⟩
  · obtain ⟨c1, c2⟩ := y1 (m 13 L + (i : Int)) (by omega) (by omega)
    obtain ⟨d1, d2, d3⟩ := k2 (m 13 L + (i : Int)) (by omega) (by omega)
    rw [c1, c2, d1, d2, d3, cg i (by omega)]
    exact b5 i hi
  · rw [cg _ (by omega)]
    exact b6
theorem zNG_of {m m1 t1 t2 : zu_m} (hI1 : zi_I m1) (hI2 : zi_I t2) (hg : zgeo m1 50) (hw : zDw m t1) (hk : zDk m t1) (hT : zKT 190 t1 t2) (y3 : ∀ c, 0 ≤ c → c < 48 → m1 53 c = m 9 c) (y4 : m1 50 0 = m 6 0) : zNG m1 t2 := by
  have b2 := zi_rd hI1 zq_50 zb_11_2
  have b12 := zi_rd hI2 zq_190 zb_28_12
  refine ⟨b2.2, b12.1, fun c c0 c1 => ?_⟩
  obtain ⟨-, -, k3, k4, -⟩ := hT
  have e195 : m1 53 c = t2 195 c := by rw [y3 c c0 (by omega), k3 c c0 (by omega)]; exact (hk c c0 (by omega)).1
  have b195 := zi_rd hI2 zq_195 (zb_104 c)
  obtain ⟨-, hg⟩ := hg
  obtain ⟨g1, g2, g3, g4, g5⟩ := hg c c0 c1
  have g1 : 0 ≤ m1 51 c := g1
  have g2 : m1 51 c < m1 50 0 := g2
  have g3 : 0 ≤ m1 52 c := g3
  have g4 : m1 52 c < m1 50 1 := g4
  have g5 : c = m1 52 c * m1 50 0 + m1 51 c := g5
  have e12 : m1 50 0 = t2 190 12 := by rw [y4, k4]; exact hw.1
  have b1 := zi_rd hI1 zq_50 zb_11_1
  refine ⟨e195, by omega, by omega, ?_, g3, by omega⟩
  rw [← e12, Int.tdiv_eq_ediv_of_nonneg c0]
  have h := Int.add_mul_ediv_right (m1 51 c) (m1 52 c) (show m1 50 0 ≠ 0 by omega)
  rw [Int.add_comm, ← g5, Int.ediv_eq_zero_of_lt g1 g2] at h
  omega
theorem zz_adoptK (n : Nat) {m t1 t2 : zu_m} (hI : zi_I m) (hG : m 6 2 = m 6 0 * m 6 1) (hK : zR_K10 m) (hI2 : zi_I t2) (hD : zRD m t1) (hN : zDN m t1) (hT : zKT 190 t1 t2) : zl (zu_call (zt_T n) 19 [(5, 3)] m) (fun _ m' => zLK m' t2 ∧ zNA m' t2 ∧ zNG m' t2 ∧ m' 50 2 = t2 190 12 * t2 190 13) := by
  obtain ⟨dw, -, dk, -, -, -, dl⟩ := hD
  refine zl_eq (zu_call_at (zt_T n) (zm_19 n) (zdp_19 n) _ _ _ _ _ rfl (zr_19_0 n _ _ 3 m)) ?_
  refine zl_bd (zl_mono (zl_both (zl_of (zk_20 n hI zq_50 zq_6 hG hK)) (zy_20 n hI hG hK)) (fun _ m1 hs => ?_))
  obtain ⟨⟨I1, f1, g50, -, -, k54, -⟩, y1, y2, y3, y4, y5⟩ := hs
  have hA1 := zNA_of dl hN hT y1 y2
  have hG1 := zNG_of I1 hI2 g50 dw dk hT y3 y4
  have hC1 : m1 50 2 = t2 190 12 * t2 190 13 := by
    have e0 : m1 50 0 = t2 190 12 := by rw [y4, hT.2.2.2.1]; exact dw.1
    have e1 : m1 50 1 = t2 190 13 := by rw [y5, hT.2.2.2.2]; exact dw.2.1
    rw [← e0, ← e1]
    exact g50.1
  refine zl_bd (zl_mono (zl_of (zk_22_13_6 n I1 zq_63 zq_19)) (fun _ m2 hs => ?_))
  obtain ⟨I2, f2, -⟩ := hs
  have k54' := zR_K54_fr (zdis_fr f2 rfl) k54
  have mvA : ∀ {W : List (Nat × Nat)} {a b : zu_m}, zfr W a b → zdis W [(52, 0), (53, 0), (54, 0), (55, 0)] = true → zNA a t2 → zNA b t2 := fun hf hd h L l0 l1 => by
    have e := zdis_fr hf hd
    unfold zNW
    rw [e 57 L (by rw [zq_57]; rfl), e 58 L (by rw [zq_58]; rfl), funext (fun q => e 55 q (by rw [zq_55]; rfl)), funext (fun q => e 56 q (by rw [zq_56]; rfl))]
    exact h L l0 l1
  have mvG : ∀ {W : List (Nat × Nat)} {a b : zu_m}, zfr W a b → zdis W [(11, 3), (50, 0), (51, 0)] = true → zNG a t2 → zNG b t2 := fun hf hd h => by
    have e := zdis_fr hf hd
    unfold zNG
    rw [e 50 2 (by rw [zq_50]; rfl), funext (fun q => e 52 q (by rw [zq_52]; rfl)), funext (fun q => e 53 q (by rw [zq_53]; rfl))]
    exact h
  have hA2 := mvA f2 rfl hA1
  have hG2 := mvG f2 rfl hG1
  refine zl_bd (zl_mono (zl_both (zl_of (zk_23 n I2 zq_50 zq_63 k54')) (zz_23 n I2 k54' (hA2 1 (by decide) (by decide)) hG2)) (fun _ m3 hs => ?_))
  obtain ⟨⟨I3, f3, -⟩, hL3⟩ := hs
  refine zl_bd (zl_mono (zl_of (zk_22_16_13 n I3 zq_89 zq_63)) (fun _ m4 hs => ?_))
  obtain ⟨I4, f4, -⟩ := hs
  rw [zu_b0]
  generalize hm5 : zu_up m4 3 9 0 = m5
  refine zl_bd (zl_mono (zc_27 n m5) (fun _ m6 hs => ?_))
  obtain ⟨-, c2⟩ := hs
  refine zl_bd (zl_mono (zc_28 n m6) (fun _ m7 d1 => zl_some ?_))
  have e7 : ∀ d, 50 ≤ d → d < 63 → ∀ p, m7 d p = m4 d p := fun d h0 h1 p => (d1 d (by omega) p).trans ((c2 d (by omega) p).trans (zs_ne hm5 (Or.inl (by omega))))
  have hA4 := mvA f4 rfl (mvA f3 rfl hA2)
  have hG4 := mvG f4 rfl (mvG f3 rfl hG2)
  have e502 : m4 50 2 = m1 50 2 := (zfr_ap f4 zq_50 rfl).trans ((zfr_ap f3 zq_50 rfl).trans (zfr_ap f2 zq_50 rfl))
  refine ⟨fun c c0 c1 V0 => ?_, fun L l0 l1 => ?_, ?_, ?_⟩
  · rw [e7 50 (by decide) (by decide) 2, show m4 50 2 = m3 50 2 from zfr_ap f4 zq_50 rfl] at c1
    rw [e7 60 (by decide) (by decide) c, show m4 60 c = m3 60 c from zfr_ap f4 zq_60 rfl]
    exact hL3 c c0 c1 V0
  · unfold zNW
    rw [e7 57 (by decide) (by decide) L, e7 58 (by decide) (by decide) L, funext (e7 55 (by decide) (by decide)), funext (e7 56 (by decide) (by decide))]
    exact hA4 L l0 l1
  · unfold zNG
    rw [e7 50 (by decide) (by decide) 2, funext (e7 52 (by decide) (by decide)), funext (e7 53 (by decide) (by decide))]
    exact hG4
  · rw [e7 50 (by decide) (by decide) 2, e502]
    exact hC1
