/-! second[0] and the methods that try -/
def zs2 (m0 m : zu_m) : Prop := m 221 0 = m0 221 0
def zs3 (b : Int) (m0 m : zu_m) : Prop := (b = 0 → m 221 0 = zu_w32 (m0 221 0 + 1)) ∧ (b ≠ 0 → m 221 0 = m0 221 0)
def zs4 (b : Int) (m0 m : zu_m) : Prop := (b = 0 → m 221 0 = 0) ∧ (b ≠ 0 → m 221 0 = m0 221 0)
theorem zs2_tr {W : List (Nat × Nat)} {m0 m m' : zu_m} (h : zs2 m0 m) (hf : zfr W m m') (hd : zdis W [(130, 0)] = true) : zs2 m0 m' := (zdis_fr hf hd 221 0 (by rw [zq_221]; rfl)).trans h
theorem zs2_go {m0 m m' : zu_m} (h : zs2 m0 m) (hl : m' 221 0 = m 221 0) : zs2 m0 m' := hl.trans h
theorem zs2_ne {m0 m m' : zu_m} {a p v : Int} {c : Nat} (hm : zu_up m a p v = m') (h : zs2 m0 m) (hc : zcls a = c) (hn : 130 ≠ c) : zs2 m0 m' := (zs_ne hm (Or.inl (zc_ne zq_221 hc hn))).trans h
theorem zs2_i {m0 m m' : zu_m} {p v : Int} (hm : zu_up m 221 p v = m') (h : zs2 m0 m) (hp : p ≠ 0) : zs2 m0 m' := (zs_ne hm (Or.inr (fun q => hp q.symm))).trans h
theorem zs3_mk {m0 m m' : zu_m} {b : Int} (hm : zu_up m 221 b (zu_w32 (m 221 b + 1)) = m') (h : zs2 m0 m) : zs3 b m0 m' := by
  refine ⟨fun e => ?_, fun e => (zs_ne hm (Or.inr (fun q => e q.symm))).trans h⟩
  subst e
  rw [zs_eq hm, show m 221 0 = m0 221 0 from h]
theorem zs3_of {m0 m m' m'' : zu_m} {b : Int} (hm : zu_up m' 221 b (zu_w32 (m 221 b + 1)) = m'') (h : zs2 m0 m') (e : m 221 b = m' 221 b) : zs3 b m0 m'' := by
  rw [e] at hm
  exact zs3_mk hm h
theorem zs4_mk {m0 m m' : zu_m} {b : Int} (hm : zu_up m 221 b 0 = m') (h : zs2 m0 m) : zs4 b m0 m' := by
  refine ⟨fun e => ?_, fun e => (zs_ne hm (Or.inr (fun q => e q.symm))).trans h⟩
  subst e
  exact zs_eq hm
set_option maxHeartbeats 4000000 in
theorem zl_34k (n : Nat) {a0 a1 : Int} {m0 : zu_m} (hc0 : zcls a0 = 28)   : ∀ k : Nat, (∀ (x2 : Int) (mh : zu_m), zi_I mh → zfr [(124, 0), (125, 0), (126, 0), (127, 0), (129, 0), (130, 0)] m0 mh → zs2 m0 mh → (0 ≤ a1 ∧ a1 ≤ 1) → (0 ≤ x2 ∧ x2 ≤ 18) → (∀ p, mh 217 p = m0 217 p) → (∀ p, mh 216 p = m0 216 p) → (zR_C0 mh) → (18 - x2) * 1 + 5 < (k : Int) → zw (zu_ex (zt_T n) 34 2 [(40, a0), (0, a1), (0, x2)] [] mh) (fun v m => zi_I m ∧ zfr [(124, 0), (125, 0), (126, 0), (127, 0), (129, 0), (130, 0)] m0 m ∧ zs4 a1 m0 m ∧ zR_C0 m ∧ zE1 m a1 ∧ True ∧ (zE1 m0 0 → zE1 m 0) ∧ ((m0 a0 14 ≤ m0 216 0 ∨ a1 = 0) → (m a0 14) ≤ (m 216 0)))) ∧ (∀ (x2 : Int) (mh : zu_m), zi_I mh → zfr [(124, 0), (125, 0), (126, 0), (127, 0), (129, 0), (130, 0)] m0 mh → zs2 m0 mh → (0 ≤ a1 ∧ a1 ≤ 1) → (0 ≤ x2 ∧ x2 ≤ 4) → (zE1p mh a1 x2) → (zE1 m0 0 → zE1 mh 0) → ((m0 a0 14 ≤ m0 216 0 ∨ a1 = 0) → (mh a0 14) ≤ (mh 216 0)) → (zR_C0 mh) → (4 - x2) * 1 + 0 < (k : Int) → zw (zu_ex (zt_T n) 34 38 [(40, a0), (0, a1), (0, x2)] [] mh) (fun v m => zi_I m ∧ zfr [(124, 0), (125, 0), (126, 0), (127, 0), (129, 0), (130, 0)] m0 m ∧ zs4 a1 m0 m ∧ zR_C0 m ∧ zE1 m a1 ∧ True ∧ (zE1 m0 0 → zE1 m 0) ∧ ((m0 a0 14 ≤ m0 216 0 ∨ a1 = 0) → (m a0 14) ≤ (m 216 0)))) := by
  intro k
  induction k with
  | zero => exact ⟨fun x2 mh hImh hFmh hLmh hba1 hbx2 hH0 hH1 hRC0mh hM => by exfalso; omega, fun x2 mh hImh hFmh hLmh hba1 hbx2 hH0 hH1 hH2 hRC0mh hM => by exfalso; omega⟩
  | succ k ih =>
    refine ⟨?_, ?_⟩
    · intro x2 mh hImh hFmh hLmh hba1 hbx2 hH0 hH1 hRC0mh hM
      refine zw_eq (zu_rega_at (zt_T n) (zm_34 n) (zdp_34 n) _ _ _ _ _ _ (zr_34_2 n _ _ a0 a1 x2 mh)) ?_
      refine zw_ite (fun h1 => ?_) (fun h1 => ?_)
      · have r2 : 0 ≤ (mh a0 14) ∧ (mh a0 14) ≤ 12 := zi_rd hImh hc0 zb_28_14
        have b3 : 0 ≤ a1 ∧ a1 < 2 := by omega
        refine zw_if b3 ?_
        generalize hmm4 : zu_up mh 216 a1 (mh a0 14) = m4
        have hIm4 := zi_upr (m := 2) (r0 := 0) (r1 := 1) (lo := 0) (hi := 16) hmm4 hImh zq_216 (by omega) (by decide +kernel) (by omega) (by omega)
        have hFm4 := zfr_up hmm4 hFmh zq_216 rfl
        have hLm4 := zs2_ne hmm4 hLmh zq_216 (by decide)
        have hRC0m4 := zR_C0_fr (zdis_fr (zfr_up hmm4 (zfr_rf [(125, 0)] _) zq_216 rfl) rfl) hRC0mh
        have r5 : 0 ≤ (m4 a0 14) ∧ (m4 a0 14) ≤ 12 := zi_rd hIm4 hc0 zb_28_14
        have e6 : (m4 a0 14) = (mh a0 14) := (zs_ne hmm4 (Or.inl (zc_ne hc0 zq_216 (by decide))))
        have r7 : 0 ≤ (m4 216 0) ∧ (m4 216 0) ≤ 16 := zi_rdr (m := 2) (r0 := 0) (r1 := 0) hIm4 zq_216 (by omega) (by decide +kernel)
        have hM : (4 - 0) * 1 + 0 < (k : Int) := by omega
        exact ih.2 0 m4 hIm4 hFm4 hLm4 ⟨by omega, by omega⟩ ⟨by omega, by omega⟩ (zE1p_0 _ _) (fun h => zE1_mv h (fun p => Eq.trans ((fun _ => (zs_ne hmm4 (Or.inl (zc_ne zq_217 zq_216 (by decide))))) p) (hH0 p)) (zfr_ap hFm4 zq_190 rfl) (zfr_ap hFm4 zq_190 rfl) (zfr_ap hFm4 zq_190 rfl)) (zTE_af (zone_190 hc0) hmm4 rfl (zfr_ap hFmh hc0 rfl) (fun p => Eq.trans ((fun _ => rfl) p) (hH1 p))) hRC0m4 hM
      · have w8 := zu_w32_id (z := 18 * a1) (by omega) (by omega)
        have w9 := zu_w32_id (z := (zu_w32 (18 * a1)) + x2) (by omega) (by omega)
        have b10 : 0 ≤ (zu_w32 ((zu_w32 (18 * a1)) + x2)) ∧ (zu_w32 ((zu_w32 (18 * a1)) + x2)) < 36 := by omega
        refine zw_if b10 ?_
        generalize hmm11 : zu_up mh 215 (zu_w32 ((zu_w32 (18 * a1)) + x2)) (-1) = m11
        have hIm11 := zi_up hmm11 hImh zq_215 (zb_124 _) (by omega) (by omega)
        have hFm11 := zfr_up hmm11 hFmh zq_215 rfl
        have hLm11 := zs2_ne hmm11 hLmh zq_215 (by decide)
        have hRC0m11 := zR_C0_fr (zdis_fr (zfr_up hmm11 (zfr_rf [(124, 0)] _) zq_215 rfl) rfl) hRC0mh
        have w12 := zu_w32_id (z := x2 + 1) (by omega) (by omega)
        have hM : (18 - (zu_w32 (x2 + 1))) * 1 + 5 < (k : Int) := by omega
        exact ih.1 (zu_w32 (x2 + 1)) m11 hIm11 hFm11 hLm11 ⟨by omega, by omega⟩ ⟨by omega, by omega⟩ (fun p => Eq.trans ((fun _ => (zs_ne hmm11 (Or.inl (zc_ne zq_217 zq_215 (by decide))))) p) (hH0 p)) (fun p => Eq.trans ((fun _ => (zs_ne hmm11 (Or.inl (zc_ne zq_216 zq_215 (by decide))))) p) (hH1 p)) hRC0m11 hM
    · intro x2 mh hImh hFmh hLmh hba1 hbx2 hH0 hH1 hH2 hRC0mh hM
      refine zw_eq (zu_rega_at (zt_T n) (zm_34 n) (zdp_34 n) _ _ _ _ _ _ (zr_34_38 n _ _ a0 a1 x2 mh)) ?_
      have r13 : 0 ≤ (mh a0 14) ∧ (mh a0 14) ≤ 12 := zi_rd hImh hc0 zb_28_14
      have r14 : 0 ≤ (mh 216 0) ∧ (mh 216 0) ≤ 16 := zi_rdr (m := 2) (r0 := 0) (r1 := 0) hImh zq_216 (by omega) (by decide +kernel)
      refine zw_ite (fun h15 => ?_) (fun h15 => ?_)
      · have hREBmh := zE1_of hH0 (by omega)
        have b16 : 0 ≤ a1 ∧ a1 < 2 := by omega
        refine zw_if b16 ?_
        generalize hmm17 : zu_up mh 220 a1 0 = m17
        have hIm17 := zi_up hmm17 hImh zq_220 (zb_129 _) (by omega) (by omega)
        have hFm17 := zfr_up hmm17 hFmh zq_220 rfl
        have hLm17 := zs2_ne hmm17 hLmh zq_220 (by decide)
        have hRC0m17 := zR_C0_fr (zdis_fr (zfr_up hmm17 (zfr_rf [(129, 0)] _) zq_220 rfl) rfl) hRC0mh
        have hREBm17 := zR_EB_fr (zdis_fr (zfr_up hmm17 (zfr_rf [(129, 0)] _) zq_220 rfl) rfl) hREBmh
        have b18 : 0 ≤ a1 ∧ a1 < 2 := by omega
        refine zw_if b18 ?_
        generalize hmm19 : zu_up m17 221 a1 0 = m19
        have hIm19 := zi_up hmm19 hIm17 zq_221 (zb_130 _) (by omega) (by omega)
        have hFm19 := zfr_up hmm19 hFm17 zq_221 rfl
        have hLm19 := zs4_mk hmm19 hLm17
        have hRC0m19 := zR_C0_fr (zdis_fr (zfr_up hmm19 (zfr_rf [(130, 0)] _) zq_221 rfl) rfl) hRC0m17
        have hREBm19 := zR_EB_fr (zdis_fr (zfr_up hmm19 (zfr_rf [(130, 0)] _) zq_221 rfl) rfl) hREBm17
        have r20 : 0 ≤ (m19 a0 14) ∧ (m19 a0 14) ≤ 12 := zi_rd hIm19 hc0 zb_28_14
        have e21 : (m19 a0 14) = (mh a0 14) := (Eq.trans (zs_ne hmm19 (Or.inl (zc_ne hc0 zq_221 (by decide)))) (zs_ne hmm17 (Or.inl (zc_ne hc0 zq_220 (by decide)))))
        have r22 : 0 ≤ (m19 216 0) ∧ (m19 216 0) ≤ 16 := zi_rdr (m := 2) (r0 := 0) (r1 := 0) hIm19 zq_216 (by omega) (by decide +kernel)
        have e23 : (m19 216 0) = (mh 216 0) := (Eq.trans (zs_ne hmm19 (Or.inl (zc_ne zq_216 zq_221 (by decide)))) (zs_ne hmm17 (Or.inl (zc_ne zq_216 zq_220 (by decide)))))
        exact zw_some ⟨hIm19, hFm19, hLm19, hRC0m19, hREBm19, trivial, (fun h => zE1_mv (hH1 h) (fun _ => (Eq.trans (zs_ne hmm19 (Or.inl (zc_ne zq_217 zq_221 (by decide)))) (zs_ne hmm17 (Or.inl (zc_ne zq_217 zq_220 (by decide)))))) (Eq.trans (zs_ne hmm19 (Or.inl (zc_ne zq_190 zq_221 (by decide)))) (zs_ne hmm17 (Or.inl (zc_ne zq_190 zq_220 (by decide))))) (Eq.trans (zs_ne hmm19 (Or.inl (zc_ne zq_190 zq_221 (by decide)))) (zs_ne hmm17 (Or.inl (zc_ne zq_190 zq_220 (by decide))))) (Eq.trans (zs_ne hmm19 (Or.inl (zc_ne zq_190 zq_221 (by decide)))) (zs_ne hmm17 (Or.inl (zc_ne zq_190 zq_220 (by decide)))))), by omega⟩
      · have w24 := zu_w32_id (z := 4 * a1) (by omega) (by omega)
        have w25 := zu_w32_id (z := (zu_w32 (4 * a1)) + x2) (by omega) (by omega)
        have b26 : 0 ≤ x2 ∧ x2 < 8 := by omega
        refine zw_if b26 ?_
        have r27 : 0 ≤ (mh 201 x2) ∧ (mh 201 x2) ≤ 47 := zi_rd hImh zq_201 (zb_110 _)
        have b28 : 0 ≤ (zu_w32 ((zu_w32 (4 * a1)) + x2)) ∧ (zu_w32 ((zu_w32 (4 * a1)) + x2)) < 8 := by omega
        refine zw_if b28 ?_
        generalize hmm29 : zu_up mh 217 (zu_w32 ((zu_w32 (4 * a1)) + x2)) (mh 201 x2) = m29
        have hIm29 := zi_up hmm29 hImh zq_217 (zb_126 _) (by omega) (by omega)
        have hFm29 := zfr_up hmm29 hFmh zq_217 rfl
        have hLm29 := zs2_ne hmm29 hLmh zq_217 (by decide)
        have hRC0m29 := zR_C0_fr (zdis_fr (zfr_up hmm29 (zfr_rf [(126, 0)] _) zq_217 rfl) rfl) hRC0mh
        have hc0v := zC0_rd (c := x2) hRC0mh (zone_190 hc0) (by omega) (by omega)
        have hzpm29 := zE1p_s (y := x2 + 1) hmm29 (zone_190 hc0) (by omega) rfl hc0v hH0
        have hzsm29 : zE1 m0 0 → zE1 m29 0 := fun h => zE1_upx (b' := a1) (x := x2) hmm29 (zone_190 hc0) (by omega) (by omega) (by omega) hc0v (hH1 h)
        have b30 : 0 ≤ x2 ∧ x2 < 8 := by omega
        refine zw_if b30 ?_
        have r31 : 0 ≤ (m29 204 x2) ∧ (m29 204 x2) ≤ 99 := zi_rd hIm29 zq_204 (zb_113 _)
        have b32 : 0 ≤ (zu_w32 ((zu_w32 (4 * a1)) + x2)) ∧ (zu_w32 ((zu_w32 (4 * a1)) + x2)) < 8 := by omega
        refine zw_if b32 ?_
        generalize hmm33 : zu_up m29 218 (zu_w32 ((zu_w32 (4 * a1)) + x2)) (m29 204 x2) = m33
        have hIm33 := zi_up hmm33 hIm29 zq_218 (zb_127 _) (by omega) (by omega)
        have hFm33 := zfr_up hmm33 hFm29 zq_218 rfl
        have hLm33 := zs2_ne hmm33 hLm29 zq_218 (by decide)
        have hRC0m33 := zR_C0_fr (zdis_fr (zfr_up hmm33 (zfr_rf [(127, 0)] _) zq_218 rfl) rfl) hRC0m29
        have w34 := zu_w32_id (z := x2 + 1) (by omega) (by omega)
        have r35 : 0 ≤ (m33 a0 14) ∧ (m33 a0 14) ≤ 12 := zi_rd hIm33 hc0 zb_28_14
        have e36 : (m33 a0 14) = (mh a0 14) := (Eq.trans (zs_ne hmm33 (Or.inl (zc_ne hc0 zq_218 (by decide)))) (zs_ne hmm29 (Or.inl (zc_ne hc0 zq_217 (by decide)))))
        have r37 : 0 ≤ (m33 216 0) ∧ (m33 216 0) ≤ 16 := zi_rdr (m := 2) (r0 := 0) (r1 := 0) hIm33 zq_216 (by omega) (by decide +kernel)
        have e38 : (m33 216 0) = (mh 216 0) := (Eq.trans (zs_ne hmm33 (Or.inl (zc_ne zq_216 zq_218 (by decide)))) (zs_ne hmm29 (Or.inl (zc_ne zq_216 zq_217 (by decide)))))
        have hM : (4 - (zu_w32 (x2 + 1))) * 1 + 0 < (k : Int) := by omega
        exact ih.2 (zu_w32 (x2 + 1)) m33 hIm33 hFm33 hLm33 ⟨by omega, by omega⟩ ⟨by omega, by omega⟩ (zE1p_mv hzpm29 (fun _ => (zs_ne hmm33 (Or.inl (zc_ne zq_217 zq_218 (by decide))))) (zs_ne hmm33 (Or.inl (zc_ne zq_190 zq_218 (by decide)))) (zs_ne hmm33 (Or.inl (zc_ne zq_190 zq_218 (by decide)))) (zs_ne hmm33 (Or.inl (zc_ne zq_190 zq_218 (by decide)))) (by omega)) (fun h => zE1_mv (hzsm29 h) (fun _ => (zs_ne hmm33 (Or.inl (zc_ne zq_217 zq_218 (by decide))))) (zs_ne hmm33 (Or.inl (zc_ne zq_190 zq_218 (by decide)))) (zs_ne hmm33 (Or.inl (zc_ne zq_190 zq_218 (by decide)))) (zs_ne hmm33 (Or.inl (zc_ne zq_190 zq_218 (by decide))))) (by omega) hRC0m33 hM
set_option maxHeartbeats 4000000 in
theorem zk_34k (n : Nat) {a0 a1 : Int} {m0 : zu_m} (hIm0 : zi_I m0) (hc0 : zcls a0 = 28) (ha1 : 0 ≤ a1 ∧ a1 ≤ 1)    (hRC0m0 : zR_C0 m0) : zw (zu_call (zt_T n) 34 [(40, a0), (0, a1)] m0) (fun v m => zi_I m ∧ zfr [(124, 0), (125, 0), (126, 0), (127, 0), (129, 0), (130, 0)] m0 m ∧ zs4 a1 m0 m ∧ zR_C0 m ∧ zE1 m a1 ∧ True ∧ (zE1 m0 0 → zE1 m 0) ∧ ((m0 a0 14 ≤ m0 216 0 ∨ a1 = 0) → (m a0 14) ≤ (m 216 0))) := by
  have hFm0 : zfr [(124, 0), (125, 0), (126, 0), (127, 0), (129, 0), (130, 0)] m0 m0 := zfr_rf _ _
  have hLm0 : zs2 m0 m0 := rfl
  refine zw_eq (zu_call_at (zt_T n) (zm_34 n) (zdp_34 n) _ _ _ _ _ rfl (zr_34_0 n _ _ a0 a1 m0)) ?_
  have hM : (18 - 0) * 1 + 5 < ((24 : Nat) : Int) := by omega
  exact (zl_34k n (m0 := m0) hc0 24).1 0 m0 hIm0 hFm0 hLm0 ⟨by omega, by omega⟩ ⟨by omega, by omega⟩ (fun _ => rfl) (fun _ => rfl) hRC0m0 hM
set_option maxHeartbeats 4000000 in
theorem zl_126k (n : Nat) {a0 : Int} {m0 : zu_m} (hc0 : zcls a0 = 28)   : ∀ k : Nat, (∀ (x1 : Int) (mh : zu_m), zi_I mh → zfr [(28, 65), (28, 66), (28, 67), (28, 68), (28, 69), (28, 70), (124, 0), (125, 2), (126, 0), (127, 0), (129, 0), (130, 0)] m0 mh → zs2 m0 mh → (0 ≤ x1 ∧ x1 ≤ 18) → (zE1 mh 0) → (18 - x1) * 1 + 5 < (k : Int) → zw (zu_ex (zt_T n) 126 2 [(40, a0), (0, x1)] [] mh) (fun v m => zi_I m ∧ zfr [(28, 65), (28, 66), (28, 67), (28, 68), (28, 69), (28, 70), (124, 0), (125, 2), (126, 0), (127, 0), (129, 0), (130, 0)] m0 m ∧ zs2 m0 m ∧ zE1 m 1 ∧ zE1 m 0 ∧ True ∧ (0 ≤ m 216 1 ∧ m 216 1 ≤ 16))) ∧ (∀ (x1 : Int) (mh : zu_m), zi_I mh → zfr [(28, 65), (28, 66), (28, 67), (28, 68), (28, 69), (28, 70), (124, 0), (125, 2), (126, 0), (127, 0), (129, 0), (130, 0)] m0 mh → zs2 m0 mh → (0 ≤ x1 ∧ x1 ≤ 4) → (0 ≤ mh 216 1 ∧ mh 216 1 ≤ 16) → (zE1p mh 1 x1) → (zE1 mh 0) → (4 - x1) * 1 + 0 < (k : Int) → zw (zu_ex (zt_T n) 126 43 [(40, a0), (0, x1)] [] mh) (fun v m => zi_I m ∧ zfr [(28, 65), (28, 66), (28, 67), (28, 68), (28, 69), (28, 70), (124, 0), (125, 2), (126, 0), (127, 0), (129, 0), (130, 0)] m0 m ∧ zs2 m0 m ∧ zE1 m 1 ∧ zE1 m 0 ∧ True ∧ (0 ≤ m 216 1 ∧ m 216 1 ≤ 16))) := by
  intro k
  induction k with
  | zero => exact ⟨fun x1 mh hImh hFmh hLmh hbx1 hRSEmh hM => by exfalso; omega, fun x1 mh hImh hFmh hLmh hbx1 hg1 hH0 hRSEmh hM => by exfalso; omega⟩
  | succ k ih =>
    refine ⟨?_, ?_⟩
    · intro x1 mh hImh hFmh hLmh hbx1 hRSEmh hM
      refine zw_eq (zu_rega_at (zt_T n) (zm_126 n) (zdp_126 n) _ _ _ _ _ _ (zr_126_2 n _ _ a0 x1 mh)) ?_
      refine zw_ite (fun h1 => ?_) (fun h1 => ?_)
      · have b2 : 0 ≤ (0 : Int) ∧ (0 : Int) < 2 := by omega
        refine zw_if b2 ?_
        have r3 : 0 ≤ (mh 216 0) ∧ (mh 216 0) ≤ 16 := zi_rdr (m := 2) (r0 := 0) (r1 := 0) hImh zq_216 (by omega) (by decide +kernel)
        have b4 : 0 ≤ (1 : Int) ∧ (1 : Int) < 2 := by omega
        refine zw_if b4 ?_
        generalize hmm5 : zu_up mh 216 1 (mh 216 0) = m5
        have hIm5 := zi_upr (m := 2) (r0 := 1) (r1 := 1) (lo := 0) (hi := 18) hmm5 hImh zq_216 (by omega) (by decide +kernel) (by omega) (by omega)
        have hFm5 := zfr_up hmm5 hFmh zq_216 rfl
        have hLm5 := zs2_ne hmm5 hLmh zq_216 (by decide)
        have hRSEm5 := zR_SE_fr (zdis_fr (zfr_up hmm5 (zfr_rf [(125, 2)] _) zq_216 rfl) rfl) hRSEmh
        have r6 : 0 ≤ (m5 216 1) ∧ (m5 216 1) ≤ 18 := zi_rdr (m := 2) (r0 := 1) (r1 := 1) hIm5 zq_216 (by omega) (by decide +kernel)
        have e7 : (m5 216 1) = (mh 216 0) := (zs_eq hmm5)
        have hM : (4 - 0) * 1 + 0 < (k : Int) := by omega
        exact ih.2 0 m5 hIm5 hFm5 hLm5 ⟨by omega, by omega⟩ ⟨by omega, by omega⟩ (zE1p_0 _ _) hRSEm5 hM
      · have w8 := zu_w32_id (z := 18 + x1) (by omega) (by omega)
        have b9 : 0 ≤ x1 ∧ x1 < 36 := by omega
        refine zw_if b9 ?_
        have r10 : (-3) ≤ (mh 215 x1) ∧ (mh 215 x1) ≤ 3 := zi_rd hImh zq_215 (zb_124 _)
        have b11 : 0 ≤ (zu_w32 (18 + x1)) ∧ (zu_w32 (18 + x1)) < 36 := by omega
        refine zw_if b11 ?_
        generalize hmm12 : zu_up mh 215 (zu_w32 (18 + x1)) (mh 215 x1) = m12
        have hIm12 := zi_up hmm12 hImh zq_215 (zb_124 _) (by omega) (by omega)
        have hFm12 := zfr_up hmm12 hFmh zq_215 rfl
        have hLm12 := zs2_ne hmm12 hLmh zq_215 (by decide)
        have hRSEm12 := zR_SE_fr (zdis_fr (zfr_up hmm12 (zfr_rf [(124, 0)] _) zq_215 rfl) rfl) hRSEmh
        have w13 := zu_w32_id (z := x1 + 1) (by omega) (by omega)
        have hM : (18 - (zu_w32 (x1 + 1))) * 1 + 5 < (k : Int) := by omega
        exact ih.1 (zu_w32 (x1 + 1)) m12 hIm12 hFm12 hLm12 ⟨by omega, by omega⟩ hRSEm12 hM
    · intro x1 mh hImh hFmh hLmh hbx1 hg1 hH0 hRSEmh hM
      refine zw_eq (zu_rega_at (zt_T n) (zm_126 n) (zdp_126 n) _ _ _ _ _ _ (zr_126_43 n _ _ a0 x1 mh)) ?_
      refine zw_ite (fun h14 => ?_) (fun h14 => ?_)
      · have hRS1mh := zE1_of hH0 (by omega)
        have b15 : 0 ≤ (0 : Int) ∧ (0 : Int) < 2 := by omega
        refine zw_if b15 ?_
        have r16 : (-9223372036854775808) ≤ (mh 220 0) ∧ (mh 220 0) ≤ 9223372036854775807 := zi_rd hImh zq_220 (zb_129 _)
        have b17 : 0 ≤ (1 : Int) ∧ (1 : Int) < 2 := by omega
        refine zw_if b17 ?_
        generalize hmm18 : zu_up mh 220 1 (mh 220 0) = m18
        have hIm18 := zi_up hmm18 hImh zq_220 (zb_129 _) (by omega) (by omega)
        have hFm18 := zfr_up hmm18 hFmh zq_220 rfl
        have hLm18 := zs2_ne hmm18 hLmh zq_220 (by decide)
        have hRS1m18 := zR_S1_fr (zdis_fr (zfr_up hmm18 (zfr_rf [(129, 0)] _) zq_220 rfl) rfl) hRS1mh
        have hRSEm18 := zR_SE_fr (zdis_fr (zfr_up hmm18 (zfr_rf [(129, 0)] _) zq_220 rfl) rfl) hRSEmh
        have b19 : 0 ≤ (0 : Int) ∧ (0 : Int) < 2 := by omega
        refine zw_if b19 ?_
        have r20 : (-2147483648) ≤ (m18 221 0) ∧ (m18 221 0) ≤ 2147483647 := zi_rd hIm18 zq_221 (zb_130 _)
        have b21 : 0 ≤ (1 : Int) ∧ (1 : Int) < 2 := by omega
        refine zw_if b21 ?_
        generalize hmm22 : zu_up m18 221 1 (m18 221 0) = m22
        have hIm22 := zi_up hmm22 hIm18 zq_221 (zb_130 _) (by omega) (by omega)
        have hFm22 := zfr_up hmm22 hFm18 zq_221 rfl
        have hLm22 := zs2_i hmm22 hLm18 (by decide)
        have hRS1m22 := zR_S1_fr (zdis_fr (zfr_up hmm22 (zfr_rf [(130, 0)] _) zq_221 rfl) rfl) hRS1m18
        have hRSEm22 := zR_SE_fr (zdis_fr (zfr_up hmm22 (zfr_rf [(130, 0)] _) zq_221 rfl) rfl) hRSEm18
        refine zw_bd (zw_mono (zk_35 n hIm22 hc0) (fun v24 m23 hqm23 => ?_))
        obtain ⟨hIm23, hfm23, hvm23⟩ := hqm23
        have hFm23 := zfr_tr hFm22 hfm23 rfl
        have hLm23 := zs2_tr hLm22 hfm23 rfl
        have hRS1m23 := zR_S1_fr (zdis_fr hfm23 rfl) hRS1m22
        have hRSEm23 := zR_SE_fr (zdis_fr hfm23 rfl) hRSEm22
        have r25 : 0 ≤ (m23 216 1) ∧ (m23 216 1) ≤ 18 := zi_rdr (m := 2) (r0 := 1) (r1 := 1) hIm23 zq_216 (by omega) (by decide +kernel)
        have e26 : (m23 216 1) = (mh 216 1) := (Eq.trans (zfr_ap hfm23 zq_216 rfl) (Eq.trans (zs_ne hmm22 (Or.inl (zc_ne zq_216 zq_221 (by decide)))) (zs_ne hmm18 (Or.inl (zc_ne zq_216 zq_220 (by decide))))))
        exact zw_some ⟨hIm23, hFm23, hLm23, hRS1m23, hRSEm23, trivial, ⟨by omega, by omega⟩⟩
      · have w27 := zu_w32_id (z := 4 + x1) (by omega) (by omega)
        have b28 : 0 ≤ x1 ∧ x1 < 8 := by omega
        refine zw_if b28 ?_
        have r29 : 0 ≤ (mh 217 x1) ∧ (mh 217 x1) ≤ 47 := zi_rd hImh zq_217 (zb_126 _)
        have b30 : 0 ≤ (zu_w32 (4 + x1)) ∧ (zu_w32 (4 + x1)) < 8 := by omega
        refine zw_if b30 ?_
        generalize hmm31 : zu_up mh 217 (zu_w32 (4 + x1)) (mh 217 x1) = m31
        have hIm31 := zi_up hmm31 hImh zq_217 (zb_126 _) (by omega) (by omega)
        have hFm31 := zfr_up hmm31 hFmh zq_217 rfl
        have hLm31 := zs2_ne hmm31 hLmh zq_217 (by decide)
        have hcv := zE1_rdi (c := x1) (i := x1) hRSEmh (zone_190 hc0) (by omega) (by omega) (by omega)
        have hzpm31 := zE1p_s (y := x1 + 1) hmm31 (zone_190 hc0) (by omega) rfl hcv hH0
        have hRSEm31 := zE1_upx (b' := 1) (x := x1) hmm31 (zone_190 hc0) (by omega) (by omega) (by omega) hcv hRSEmh
        have b32 : 0 ≤ x1 ∧ x1 < 8 := by omega
        refine zw_if b32 ?_
        have r33 : (-2147483648) ≤ (m31 218 x1) ∧ (m31 218 x1) ≤ 2147483647 := zi_rd hIm31 zq_218 (zb_127 _)
        have b34 : 0 ≤ (zu_w32 (4 + x1)) ∧ (zu_w32 (4 + x1)) < 8 := by omega
        refine zw_if b34 ?_
        generalize hmm35 : zu_up m31 218 (zu_w32 (4 + x1)) (m31 218 x1) = m35
        have hIm35 := zi_up hmm35 hIm31 zq_218 (zb_127 _) (by omega) (by omega)
        have hFm35 := zfr_up hmm35 hFm31 zq_218 rfl
        have hLm35 := zs2_ne hmm35 hLm31 zq_218 (by decide)
        have hRSEm35 := zR_SE_fr (zdis_fr (zfr_up hmm35 (zfr_rf [(127, 0)] _) zq_218 rfl) rfl) hRSEm31
        have w36 := zu_w32_id (z := x1 + 1) (by omega) (by omega)
        have r37 : 0 ≤ (m35 216 1) ∧ (m35 216 1) ≤ 18 := zi_rdr (m := 2) (r0 := 1) (r1 := 1) hIm35 zq_216 (by omega) (by decide +kernel)
        have e38 : (m35 216 1) = (mh 216 1) := (Eq.trans (zs_ne hmm35 (Or.inl (zc_ne zq_216 zq_218 (by decide)))) (zs_ne hmm31 (Or.inl (zc_ne zq_216 zq_217 (by decide)))))
        have hM : (4 - (zu_w32 (x1 + 1))) * 1 + 0 < (k : Int) := by omega
        exact ih.2 (zu_w32 (x1 + 1)) m35 hIm35 hFm35 hLm35 ⟨by omega, by omega⟩ ⟨by omega, by omega⟩ (zE1p_mv hzpm31 (fun _ => (zs_ne hmm35 (Or.inl (zc_ne zq_217 zq_218 (by decide))))) (zs_ne hmm35 (Or.inl (zc_ne zq_190 zq_218 (by decide)))) (zs_ne hmm35 (Or.inl (zc_ne zq_190 zq_218 (by decide)))) (zs_ne hmm35 (Or.inl (zc_ne zq_190 zq_218 (by decide)))) (by omega)) hRSEm35 hM
set_option maxHeartbeats 4000000 in
theorem zk_126k (n : Nat) {a0 : Int} {m0 : zu_m} (hIm0 : zi_I m0) (hc0 : zcls a0 = 28)     (hRSEm0 : zE1 m0 0) : zw (zu_call (zt_T n) 126 [(40, a0)] m0) (fun v m => zi_I m ∧ zfr [(28, 65), (28, 66), (28, 67), (28, 68), (28, 69), (28, 70), (124, 0), (125, 2), (126, 0), (127, 0), (129, 0), (130, 0)] m0 m ∧ zs2 m0 m ∧ zE1 m 1 ∧ zE1 m 0 ∧ True ∧ (0 ≤ m 216 1 ∧ m 216 1 ≤ 16)) := by
  have hFm0 : zfr [(28, 65), (28, 66), (28, 67), (28, 68), (28, 69), (28, 70), (124, 0), (125, 2), (126, 0), (127, 0), (129, 0), (130, 0)] m0 m0 := zfr_rf _ _
  have hLm0 : zs2 m0 m0 := rfl
  refine zw_eq (zu_call_at (zt_T n) (zm_126 n) (zdp_126 n) _ _ _ _ _ rfl (zr_126_0 n _ _ a0 m0)) ?_
  have hM : (18 - 0) * 1 + 5 < ((24 : Nat) : Int) := by omega
  exact (zl_126k n (m0 := m0) hc0 24).1 0 m0 hIm0 hFm0 hLm0 ⟨by omega, by omega⟩ hRSEm0 hM
set_option maxHeartbeats 4000000 in
theorem zl_140H0k (n : Nat) {a0 a1 : Int} {m0 : zu_m} (hc0 : zcls a0 = 28)   (k : Nat) (ih : (∀ (x2 x3 : Int) (mh : zu_m), zi_I mh → zfr [(28, 54), (28, 64), (122, 0), (123, 0), (124, 0), (126, 0), (128, 0), (129, 0), (130, 0), (131, 0)] m0 mh → zs2 m0 mh → (0 ≤ a1 ∧ a1 ≤ 1) → ((-2147483648) ≤ x2 ∧ x2 ≤ 2147483647) → (0 ≤ x3 ∧ x3 ≤ 4) → (zE1 mh a1) → (zR_KN mh) → (zR_LT mh) → (zE1 mh 0) → (4 - x3) * 1 + 43 < (k : Int) → zw (zu_ex (zt_T n) 140 9 [(40, a0), (0, a1), (0, x2), (0, x3), (2, 0)] [] mh) (fun v m => zi_I m ∧ zfr [(28, 54), (28, 64), (122, 0), (123, 0), (124, 0), (126, 0), (128, 0), (129, 0), (130, 0), (131, 0)] m0 m ∧ zs3 a1 m0 m ∧ zE1 m a1 ∧ zR_KN m ∧ zR_LT m ∧ zE1 m 0 ∧ True)) ∧ (∀ (x2 x3 : Int) (mh : zu_m), zi_I mh → zfr [(28, 54), (28, 64), (122, 0), (123, 0), (124, 0), (126, 0), (128, 0), (129, 0), (130, 0), (131, 0)] m0 mh → zs2 m0 mh → (0 ≤ a1 ∧ a1 ≤ 1) → ((-2147483648) ≤ x2 ∧ x2 ≤ 2147483647) → (0 ≤ x3 ∧ x3 ≤ 4) → (zE1 mh a1) → (zR_KN mh) → (zR_LT mh) → (zE1 mh 0) → (4 - x3) * 1 + 38 < (k : Int) → zw (zu_ex (zt_T n) 140 53 [(40, a0), (0, a1), (0, x2), (0, x3), (2, 0)] [] mh) (fun v m => zi_I m ∧ zfr [(28, 54), (28, 64), (122, 0), (123, 0), (124, 0), (126, 0), (128, 0), (129, 0), (130, 0), (131, 0)] m0 m ∧ zs3 a1 m0 m ∧ zE1 m a1 ∧ zR_KN m ∧ zR_LT m ∧ zE1 m 0 ∧ True)) ∧ (∀ (x2 x3 x4 : Int) (mh : zu_m), zi_I mh → zfr [(28, 54), (28, 64), (122, 0), (123, 0), (124, 0), (126, 0), (128, 0), (129, 0), (130, 0), (131, 0)] m0 mh → zs2 m0 mh → (0 ≤ a1 ∧ a1 ≤ 1) → (1 ≤ x2 ∧ x2 ≤ 2147483647) → ((-99) ≤ x3 ∧ x3 ≤ 99) → (0 ≤ x4 ∧ x4 ≤ 18) → (0 ≤ mh a0 65 ∧ mh a0 65 ≤ 0) → (zE1 mh a1) → (zR_KN mh) → (zR_LT mh) → (zE1 mh 0) → (18 - x4) * 1 + 19 < (k : Int) → zw (zu_ex (zt_T n) 140 138 [(40, a0), (0, a1), (0, x2), (0, x3), (0, x4)] [] mh) (fun v m => zi_I m ∧ zfr [(28, 54), (28, 64), (122, 0), (123, 0), (124, 0), (126, 0), (128, 0), (129, 0), (130, 0), (131, 0)] m0 m ∧ zs3 a1 m0 m ∧ zE1 m a1 ∧ zR_KN m ∧ zR_LT m ∧ zE1 m 0 ∧ True)) ∧ (∀ (x2 x3 : Int) (mh : zu_m), zi_I mh → zfr [(28, 54), (28, 64), (122, 0), (123, 0), (124, 0), (126, 0), (128, 0), (129, 0), (130, 0), (131, 0)] m0 mh → zs2 m0 mh → (0 ≤ a1 ∧ a1 ≤ 1) → ((-1) ≤ x2 ∧ x2 ≤ 99999) → (0 ≤ x3 ∧ x3 ≤ 18) → (0 ≤ mh a0 66 ∧ mh a0 66 ≤ 0) → (zE1 mh a1) → (zR_KN mh) → (zR_LT mh) → (zE1 mh 0) → (18 - x3) * 1 + 0 < (k : Int) → zw (zu_ex (zt_T n) 140 226 [(40, a0), (0, a1), (0, x2), (0, x3), (2, 0)] [] mh) (fun v m => zi_I m ∧ zfr [(28, 54), (28, 64), (122, 0), (123, 0), (124, 0), (126, 0), (128, 0), (129, 0), (130, 0), (131, 0)] m0 m ∧ zs3 a1 m0 m ∧ zE1 m a1 ∧ zR_KN m ∧ zR_LT m ∧ zE1 m 0 ∧ True))) : (∀ (x2 x3 : Int) (mh : zu_m), zi_I mh → zfr [(28, 54), (28, 64), (122, 0), (123, 0), (124, 0), (126, 0), (128, 0), (129, 0), (130, 0), (131, 0)] m0 mh → zs2 m0 mh → (0 ≤ a1 ∧ a1 ≤ 1) → ((-2147483648) ≤ x2 ∧ x2 ≤ 2147483647) → (0 ≤ x3 ∧ x3 ≤ 4) → (zE1 mh a1) → (zR_KN mh) → (zR_LT mh) → (zE1 mh 0) → (4 - x3) * 1 + 43 < ((k + 1 : Nat) : Int) → zw (zu_ex (zt_T n) 140 9 [(40, a0), (0, a1), (0, x2), (0, x3), (2, 0)] [] mh) (fun v m => zi_I m ∧ zfr [(28, 54), (28, 64), (122, 0), (123, 0), (124, 0), (126, 0), (128, 0), (129, 0), (130, 0), (131, 0)] m0 m ∧ zs3 a1 m0 m ∧ zE1 m a1 ∧ zR_KN m ∧ zR_LT m ∧ zE1 m 0 ∧ True)) := by
      intro x2 x3 mh hImh hFmh hLmh hba1 hbx2 hbx3 hREBmh hRKNmh hRLTmh hRSEmh hM
      refine zw_eq (zu_rega_at (zt_T n) (zm_140 n) (zdp_140 n) _ _ _ _ _ _ (zr_140_9 n _ _ a0 a1 x2 x3 mh)) ?_
      have r1 : 0 ≤ (mh a0 15) ∧ (mh a0 15) ≤ 4 := zi_rd hImh hc0 zb_28_15
      refine zw_ite (fun h2 => ?_) (fun h2 => ?_)
      · have hM : (4 - 0) * 1 + 38 < (k : Int) := by omega
        exact ih.2.1 x2 0 mh hImh hFmh hLmh ⟨by omega, by omega⟩ ⟨by omega, by omega⟩ ⟨by omega, by omega⟩ hREBmh hRKNmh hRLTmh hRSEmh hM
      · have w3 := zu_w32_id (z := 4 * a1) (by omega) (by omega)
        have w4 := zu_w32_id (z := (zu_w32 (4 * a1)) + x3) (by omega) (by omega)
        have b5 : 0 ≤ (zu_w32 ((zu_w32 (4 * a1)) + x3)) ∧ (zu_w32 ((zu_w32 (4 * a1)) + x3)) < 8 := by omega
        refine zw_if b5 ?_
        have r6 : (-2147483648) ≤ (mh 218 (zu_w32 ((zu_w32 (4 * a1)) + x3))) ∧ (mh 218 (zu_w32 ((zu_w32 (4 * a1)) + x3))) ≤ 2147483647 := zi_rd hImh zq_218 (zb_127 _)
        refine zw_ite (fun h7 => ?_) (fun h7 => ?_)
        · have w8 := zu_w32_id (z := x3 + 1) (by omega) (by omega)
          have hM : (4 - (zu_w32 (x3 + 1))) * 1 + 43 < (k : Int) := by omega
          exact ih.1 x2 (zu_w32 (x3 + 1)) mh hImh hFmh hLmh ⟨by omega, by omega⟩ ⟨by omega, by omega⟩ ⟨by omega, by omega⟩ hREBmh hRKNmh hRLTmh hRSEmh hM
        · have r9 : (-2147483648) ≤ (mh a0 69) ∧ (mh a0 69) ≤ 2147483647 := zi_rd hImh hc0 zb_28_69
          refine zw_ite (fun h10 => ?_) (fun h10 => ?_)
          · have w11 := zu_w32_id (z := x3 + 1) (by omega) (by omega)
            have hM : (4 - (zu_w32 (x3 + 1))) * 1 + 43 < (k : Int) := by omega
            exact ih.1 x2 (zu_w32 (x3 + 1)) mh hImh hFmh hLmh ⟨by omega, by omega⟩ ⟨by omega, by omega⟩ ⟨by omega, by omega⟩ hREBmh hRKNmh hRLTmh hRSEmh hM
          · refine zw_bd (zw_mono (zk_137 n hImh hc0 ⟨by omega, by omega⟩ ⟨by omega, by omega⟩ hRKNmh hRLTmh) (fun v13 m12 hqm12 => ?_))
            obtain ⟨hIm12, hfm12, hvm12⟩ := hqm12
            have hFm12 := zfr_tr hFmh hfm12 rfl
            have hLm12 := zs2_tr hLmh hfm12 rfl
            obtain ⟨hRKNm12, hRLTm12, hvm12⟩ := hvm12
            have hREBm12 := zR_EB_fr (zdis_fr hfm12 rfl) hREBmh
            have hRSEm12 := zR_SE_fr (zdis_fr hfm12 rfl) hRSEmh
            have w14 := zu_w32_id (z := x3 + 1) (by omega) (by omega)
            have hM : (4 - (zu_w32 (x3 + 1))) * 1 + 43 < (k : Int) := by omega
            exact ih.1 x2 (zu_w32 (x3 + 1)) m12 hIm12 hFm12 hLm12 ⟨by omega, by omega⟩ ⟨by omega, by omega⟩ ⟨by omega, by omega⟩ hREBm12 hRKNm12 hRLTm12 hRSEm12 hM
set_option maxHeartbeats 4000000 in
theorem zl_140H1k (n : Nat) {a0 a1 : Int} {m0 : zu_m} (hc0 : zcls a0 = 28)   (k : Nat) (ih : (∀ (x2 x3 : Int) (mh : zu_m), zi_I mh → zfr [(28, 54), (28, 64), (122, 0), (123, 0), (124, 0), (126, 0), (128, 0), (129, 0), (130, 0), (131, 0)] m0 mh → zs2 m0 mh → (0 ≤ a1 ∧ a1 ≤ 1) → ((-2147483648) ≤ x2 ∧ x2 ≤ 2147483647) → (0 ≤ x3 ∧ x3 ≤ 4) → (zE1 mh a1) → (zR_KN mh) → (zR_LT mh) → (zE1 mh 0) → (4 - x3) * 1 + 43 < (k : Int) → zw (zu_ex (zt_T n) 140 9 [(40, a0), (0, a1), (0, x2), (0, x3), (2, 0)] [] mh) (fun v m => zi_I m ∧ zfr [(28, 54), (28, 64), (122, 0), (123, 0), (124, 0), (126, 0), (128, 0), (129, 0), (130, 0), (131, 0)] m0 m ∧ zs3 a1 m0 m ∧ zE1 m a1 ∧ zR_KN m ∧ zR_LT m ∧ zE1 m 0 ∧ True)) ∧ (∀ (x2 x3 : Int) (mh : zu_m), zi_I mh → zfr [(28, 54), (28, 64), (122, 0), (123, 0), (124, 0), (126, 0), (128, 0), (129, 0), (130, 0), (131, 0)] m0 mh → zs2 m0 mh → (0 ≤ a1 ∧ a1 ≤ 1) → ((-2147483648) ≤ x2 ∧ x2 ≤ 2147483647) → (0 ≤ x3 ∧ x3 ≤ 4) → (zE1 mh a1) → (zR_KN mh) → (zR_LT mh) → (zE1 mh 0) → (4 - x3) * 1 + 38 < (k : Int) → zw (zu_ex (zt_T n) 140 53 [(40, a0), (0, a1), (0, x2), (0, x3), (2, 0)] [] mh) (fun v m => zi_I m ∧ zfr [(28, 54), (28, 64), (122, 0), (123, 0), (124, 0), (126, 0), (128, 0), (129, 0), (130, 0), (131, 0)] m0 m ∧ zs3 a1 m0 m ∧ zE1 m a1 ∧ zR_KN m ∧ zR_LT m ∧ zE1 m 0 ∧ True)) ∧ (∀ (x2 x3 x4 : Int) (mh : zu_m), zi_I mh → zfr [(28, 54), (28, 64), (122, 0), (123, 0), (124, 0), (126, 0), (128, 0), (129, 0), (130, 0), (131, 0)] m0 mh → zs2 m0 mh → (0 ≤ a1 ∧ a1 ≤ 1) → (1 ≤ x2 ∧ x2 ≤ 2147483647) → ((-99) ≤ x3 ∧ x3 ≤ 99) → (0 ≤ x4 ∧ x4 ≤ 18) → (0 ≤ mh a0 65 ∧ mh a0 65 ≤ 0) → (zE1 mh a1) → (zR_KN mh) → (zR_LT mh) → (zE1 mh 0) → (18 - x4) * 1 + 19 < (k : Int) → zw (zu_ex (zt_T n) 140 138 [(40, a0), (0, a1), (0, x2), (0, x3), (0, x4)] [] mh) (fun v m => zi_I m ∧ zfr [(28, 54), (28, 64), (122, 0), (123, 0), (124, 0), (126, 0), (128, 0), (129, 0), (130, 0), (131, 0)] m0 m ∧ zs3 a1 m0 m ∧ zE1 m a1 ∧ zR_KN m ∧ zR_LT m ∧ zE1 m 0 ∧ True)) ∧ (∀ (x2 x3 : Int) (mh : zu_m), zi_I mh → zfr [(28, 54), (28, 64), (122, 0), (123, 0), (124, 0), (126, 0), (128, 0), (129, 0), (130, 0), (131, 0)] m0 mh → zs2 m0 mh → (0 ≤ a1 ∧ a1 ≤ 1) → ((-1) ≤ x2 ∧ x2 ≤ 99999) → (0 ≤ x3 ∧ x3 ≤ 18) → (0 ≤ mh a0 66 ∧ mh a0 66 ≤ 0) → (zE1 mh a1) → (zR_KN mh) → (zR_LT mh) → (zE1 mh 0) → (18 - x3) * 1 + 0 < (k : Int) → zw (zu_ex (zt_T n) 140 226 [(40, a0), (0, a1), (0, x2), (0, x3), (2, 0)] [] mh) (fun v m => zi_I m ∧ zfr [(28, 54), (28, 64), (122, 0), (123, 0), (124, 0), (126, 0), (128, 0), (129, 0), (130, 0), (131, 0)] m0 m ∧ zs3 a1 m0 m ∧ zE1 m a1 ∧ zR_KN m ∧ zR_LT m ∧ zE1 m 0 ∧ True))) : (∀ (x2 x3 : Int) (mh : zu_m), zi_I mh → zfr [(28, 54), (28, 64), (122, 0), (123, 0), (124, 0), (126, 0), (128, 0), (129, 0), (130, 0), (131, 0)] m0 mh → zs2 m0 mh → (0 ≤ a1 ∧ a1 ≤ 1) → ((-2147483648) ≤ x2 ∧ x2 ≤ 2147483647) → (0 ≤ x3 ∧ x3 ≤ 4) → (zE1 mh a1) → (zR_KN mh) → (zR_LT mh) → (zE1 mh 0) → (4 - x3) * 1 + 38 < ((k + 1 : Nat) : Int) → zw (zu_ex (zt_T n) 140 53 [(40, a0), (0, a1), (0, x2), (0, x3), (2, 0)] [] mh) (fun v m => zi_I m ∧ zfr [(28, 54), (28, 64), (122, 0), (123, 0), (124, 0), (126, 0), (128, 0), (129, 0), (130, 0), (131, 0)] m0 m ∧ zs3 a1 m0 m ∧ zE1 m a1 ∧ zR_KN m ∧ zR_LT m ∧ zE1 m 0 ∧ True)) := by
      intro x2 x3 mh hImh hFmh hLmh hba1 hbx2 hbx3 hREBmh hRKNmh hRLTmh hRSEmh hM
      refine zw_eq (zu_rega_at (zt_T n) (zm_140 n) (zdp_140 n) _ _ _ _ _ _ (zr_140_53 n _ _ a0 a1 x2 x3 mh)) ?_
      have r15 : 0 ≤ (mh a0 15) ∧ (mh a0 15) ≤ 4 := zi_rd hImh hc0 zb_28_15
      refine zw_ite (fun h16 => ?_) (fun h16 => ?_)
      · have r17 : 0 ≤ (mh a0 65) ∧ (mh a0 65) ≤ 1 := zi_rd hImh hc0 zb_28_65
        refine zw_ite (fun h18 => ?_) (fun h18 => ?_)
        · have b19 : 0 ≤ (3 : Int) ∧ (3 : Int) < 10 := by omega
          refine zw_if b19 ?_
          have r20 : (-1) ≤ (mh 194 3) ∧ (mh 194 3) ≤ 99999 := zi_rd hImh zq_194 (zb_103 _)
          refine zw_ite (fun h21 => ?_) (fun h21 => ?_)
          · have b22 : 0 ≤ a1 ∧ a1 < 2 := by omega
            refine zw_if b22 ?_
            have r23 : (-2147483648) ≤ (mh 221 a1) ∧ (mh 221 a1) ≤ 2147483647 := zi_rd hImh zq_221 (zb_130 _)
            have w24 := zu_w32_rg ((mh 221 a1) + 1)
            have b25 : 0 ≤ a1 ∧ a1 < 2 := by omega
            refine zw_if b25 ?_
            generalize hmm26 : zu_up mh 221 a1 (zu_w32 ((mh 221 a1) + 1)) = m26
            have hIm26 := zi_up hmm26 hImh zq_221 (zb_130 _) (by omega) (by omega)
            have hFm26 := zfr_up hmm26 hFmh zq_221 rfl
            have hLm26 := zs3_mk hmm26 hLmh
            have hREBm26 := zR_EB_fr (zdis_fr (zfr_up hmm26 (zfr_rf [(130, 0)] _) zq_221 rfl) rfl) hREBmh
            have hRKNm26 := zR_KN_fr (zdis_fr (zfr_up hmm26 (zfr_rf [(130, 0)] _) zq_221 rfl) rfl) hRKNmh
            have hRLTm26 := zR_LT_fr (zdis_fr (zfr_up hmm26 (zfr_rf [(130, 0)] _) zq_221 rfl) rfl) hRLTmh
            have hRSEm26 := zR_SE_fr (zdis_fr (zfr_up hmm26 (zfr_rf [(130, 0)] _) zq_221 rfl) rfl) hRSEmh
            exact zw_some ⟨hIm26, hFm26, hLm26, hREBm26, hRKNm26, hRLTm26, hRSEm26, trivial⟩
          · have r27 : 0 ≤ (mh a0 66) ∧ (mh a0 66) ≤ 1 := zi_rd hImh hc0 zb_28_66
            refine zw_ite (fun h28 => ?_) (fun h28 => ?_)
            · have b29 : 0 ≤ a1 ∧ a1 < 2 := by omega
              refine zw_if b29 ?_
              have r30 : (-2147483648) ≤ (mh 221 a1) ∧ (mh 221 a1) ≤ 2147483647 := zi_rd hImh zq_221 (zb_130 _)
              have w31 := zu_w32_rg ((mh 221 a1) + 1)
              have b32 : 0 ≤ a1 ∧ a1 < 2 := by omega
              refine zw_if b32 ?_
              generalize hmm33 : zu_up mh 221 a1 (zu_w32 ((mh 221 a1) + 1)) = m33
              have hIm33 := zi_up hmm33 hImh zq_221 (zb_130 _) (by omega) (by omega)
              have hFm33 := zfr_up hmm33 hFmh zq_221 rfl
              have hLm33 := zs3_mk hmm33 hLmh
              have hREBm33 := zR_EB_fr (zdis_fr (zfr_up hmm33 (zfr_rf [(130, 0)] _) zq_221 rfl) rfl) hREBmh
              have hRKNm33 := zR_KN_fr (zdis_fr (zfr_up hmm33 (zfr_rf [(130, 0)] _) zq_221 rfl) rfl) hRKNmh
              have hRLTm33 := zR_LT_fr (zdis_fr (zfr_up hmm33 (zfr_rf [(130, 0)] _) zq_221 rfl) rfl) hRLTmh
              have hRSEm33 := zR_SE_fr (zdis_fr (zfr_up hmm33 (zfr_rf [(130, 0)] _) zq_221 rfl) rfl) hRSEmh
              exact zw_some ⟨hIm33, hFm33, hLm33, hREBm33, hRKNm33, hRLTm33, hRSEm33, trivial⟩
            · have hM : (18 - 0) * 1 + 0 < (k : Int) := by omega
              exact ih.2.2.2 x2 0 mh hImh hFmh hLmh ⟨by omega, by omega⟩ ⟨by omega, by omega⟩ ⟨by omega, by omega⟩ ⟨by omega, by omega⟩ hREBmh hRKNmh hRLTmh hRSEmh hM
        · have b34 : 0 ≤ (2 : Int) ∧ (2 : Int) < 10 := by omega
          refine zw_if b34 ?_
          have r35 : (-1) ≤ (mh 194 2) ∧ (mh 194 2) ≤ 99999 := zi_rd hImh zq_194 (zb_103 _)
          refine zw_ite (fun h36 => ?_) (fun h36 => ?_)
          · have b37 : 0 ≤ (3 : Int) ∧ (3 : Int) < 10 := by omega
            refine zw_if b37 ?_
            have r38 : (-1) ≤ (mh 194 3) ∧ (mh 194 3) ≤ 99999 := zi_rd hImh zq_194 (zb_103 _)
            refine zw_ite (fun h39 => ?_) (fun h39 => ?_)
            · have b40 : 0 ≤ a1 ∧ a1 < 2 := by omega
              refine zw_if b40 ?_
              have r41 : (-2147483648) ≤ (mh 221 a1) ∧ (mh 221 a1) ≤ 2147483647 := zi_rd hImh zq_221 (zb_130 _)
              have w42 := zu_w32_rg ((mh 221 a1) + 1)
              have b43 : 0 ≤ a1 ∧ a1 < 2 := by omega
              refine zw_if b43 ?_
              generalize hmm44 : zu_up mh 221 a1 (zu_w32 ((mh 221 a1) + 1)) = m44
              have hIm44 := zi_up hmm44 hImh zq_221 (zb_130 _) (by omega) (by omega)
              have hFm44 := zfr_up hmm44 hFmh zq_221 rfl
              have hLm44 := zs3_mk hmm44 hLmh
              have hREBm44 := zR_EB_fr (zdis_fr (zfr_up hmm44 (zfr_rf [(130, 0)] _) zq_221 rfl) rfl) hREBmh
              have hRKNm44 := zR_KN_fr (zdis_fr (zfr_up hmm44 (zfr_rf [(130, 0)] _) zq_221 rfl) rfl) hRKNmh
              have hRLTm44 := zR_LT_fr (zdis_fr (zfr_up hmm44 (zfr_rf [(130, 0)] _) zq_221 rfl) rfl) hRLTmh
              have hRSEm44 := zR_SE_fr (zdis_fr (zfr_up hmm44 (zfr_rf [(130, 0)] _) zq_221 rfl) rfl) hRSEmh
              exact zw_some ⟨hIm44, hFm44, hLm44, hREBm44, hRKNm44, hRLTm44, hRSEm44, trivial⟩
            · have r45 : 0 ≤ (mh a0 66) ∧ (mh a0 66) ≤ 1 := zi_rd hImh hc0 zb_28_66
              refine zw_ite (fun h46 => ?_) (fun h46 => ?_)
              · have b47 : 0 ≤ a1 ∧ a1 < 2 := by omega
                refine zw_if b47 ?_
                have r48 : (-2147483648) ≤ (mh 221 a1) ∧ (mh 221 a1) ≤ 2147483647 := zi_rd hImh zq_221 (zb_130 _)
                have w49 := zu_w32_rg ((mh 221 a1) + 1)
                have b50 : 0 ≤ a1 ∧ a1 < 2 := by omega
                refine zw_if b50 ?_
                generalize hmm51 : zu_up mh 221 a1 (zu_w32 ((mh 221 a1) + 1)) = m51
                have hIm51 := zi_up hmm51 hImh zq_221 (zb_130 _) (by omega) (by omega)
                have hFm51 := zfr_up hmm51 hFmh zq_221 rfl
                have hLm51 := zs3_mk hmm51 hLmh
                have hREBm51 := zR_EB_fr (zdis_fr (zfr_up hmm51 (zfr_rf [(130, 0)] _) zq_221 rfl) rfl) hREBmh
                have hRKNm51 := zR_KN_fr (zdis_fr (zfr_up hmm51 (zfr_rf [(130, 0)] _) zq_221 rfl) rfl) hRKNmh
                have hRLTm51 := zR_LT_fr (zdis_fr (zfr_up hmm51 (zfr_rf [(130, 0)] _) zq_221 rfl) rfl) hRLTmh
                have hRSEm51 := zR_SE_fr (zdis_fr (zfr_up hmm51 (zfr_rf [(130, 0)] _) zq_221 rfl) rfl) hRSEmh
                exact zw_some ⟨hIm51, hFm51, hLm51, hREBm51, hRKNm51, hRLTm51, hRSEm51, trivial⟩
              · have hM : (18 - 0) * 1 + 0 < (k : Int) := by omega
                exact ih.2.2.2 x2 0 mh hImh hFmh hLmh ⟨by omega, by omega⟩ ⟨by omega, by omega⟩ ⟨by omega, by omega⟩ ⟨by omega, by omega⟩ hREBmh hRKNmh hRLTmh hRSEmh hM
          · refine zw_ite (fun h52 => ?_) (fun h52 => ?_)
            · have b53 : 0 ≤ (3 : Int) ∧ (3 : Int) < 10 := by omega
              refine zw_if b53 ?_
              have r54 : (-1) ≤ (mh 194 3) ∧ (mh 194 3) ≤ 99999 := zi_rd hImh zq_194 (zb_103 _)
              refine zw_ite (fun h55 => ?_) (fun h55 => ?_)
              · have b56 : 0 ≤ a1 ∧ a1 < 2 := by omega
                refine zw_if b56 ?_
                have r57 : (-2147483648) ≤ (mh 221 a1) ∧ (mh 221 a1) ≤ 2147483647 := zi_rd hImh zq_221 (zb_130 _)
                have w58 := zu_w32_rg ((mh 221 a1) + 1)
                have b59 : 0 ≤ a1 ∧ a1 < 2 := by omega
                refine zw_if b59 ?_
                generalize hmm60 : zu_up mh 221 a1 (zu_w32 ((mh 221 a1) + 1)) = m60
                have hIm60 := zi_up hmm60 hImh zq_221 (zb_130 _) (by omega) (by omega)
                have hFm60 := zfr_up hmm60 hFmh zq_221 rfl
                have hLm60 := zs3_mk hmm60 hLmh
                have hREBm60 := zR_EB_fr (zdis_fr (zfr_up hmm60 (zfr_rf [(130, 0)] _) zq_221 rfl) rfl) hREBmh
                have hRKNm60 := zR_KN_fr (zdis_fr (zfr_up hmm60 (zfr_rf [(130, 0)] _) zq_221 rfl) rfl) hRKNmh
                have hRLTm60 := zR_LT_fr (zdis_fr (zfr_up hmm60 (zfr_rf [(130, 0)] _) zq_221 rfl) rfl) hRLTmh
                have hRSEm60 := zR_SE_fr (zdis_fr (zfr_up hmm60 (zfr_rf [(130, 0)] _) zq_221 rfl) rfl) hRSEmh
                exact zw_some ⟨hIm60, hFm60, hLm60, hREBm60, hRKNm60, hRLTm60, hRSEm60, trivial⟩
              · have r61 : 0 ≤ (mh a0 66) ∧ (mh a0 66) ≤ 1 := zi_rd hImh hc0 zb_28_66
                refine zw_ite (fun h62 => ?_) (fun h62 => ?_)
                · have b63 : 0 ≤ a1 ∧ a1 < 2 := by omega
                  refine zw_if b63 ?_
                  have r64 : (-2147483648) ≤ (mh 221 a1) ∧ (mh 221 a1) ≤ 2147483647 := zi_rd hImh zq_221 (zb_130 _)
                  have w65 := zu_w32_rg ((mh 221 a1) + 1)
                  have b66 : 0 ≤ a1 ∧ a1 < 2 := by omega
                  refine zw_if b66 ?_
                  generalize hmm67 : zu_up mh 221 a1 (zu_w32 ((mh 221 a1) + 1)) = m67
                  have hIm67 := zi_up hmm67 hImh zq_221 (zb_130 _) (by omega) (by omega)
                  have hFm67 := zfr_up hmm67 hFmh zq_221 rfl
                  have hLm67 := zs3_mk hmm67 hLmh
                  have hREBm67 := zR_EB_fr (zdis_fr (zfr_up hmm67 (zfr_rf [(130, 0)] _) zq_221 rfl) rfl) hREBmh
                  have hRKNm67 := zR_KN_fr (zdis_fr (zfr_up hmm67 (zfr_rf [(130, 0)] _) zq_221 rfl) rfl) hRKNmh
                  have hRLTm67 := zR_LT_fr (zdis_fr (zfr_up hmm67 (zfr_rf [(130, 0)] _) zq_221 rfl) rfl) hRLTmh
                  have hRSEm67 := zR_SE_fr (zdis_fr (zfr_up hmm67 (zfr_rf [(130, 0)] _) zq_221 rfl) rfl) hRSEmh
                  exact zw_some ⟨hIm67, hFm67, hLm67, hREBm67, hRKNm67, hRLTm67, hRSEm67, trivial⟩
                · have hM : (18 - 0) * 1 + 0 < (k : Int) := by omega
                  exact ih.2.2.2 x2 0 mh hImh hFmh hLmh ⟨by omega, by omega⟩ ⟨by omega, by omega⟩ ⟨by omega, by omega⟩ ⟨by omega, by omega⟩ hREBmh hRKNmh hRLTmh hRSEmh hM
            · have b68 : 0 ≤ (2 : Int) ∧ (2 : Int) < 10 := by omega
              refine zw_if b68 ?_
              refine zw_nif (by omega) ?_
              have d69 := ztmod_bd (x := x2) (y := (mh 194 2)) (by omega) (by omega)
              refine zw_ite (fun h70 => ?_) (fun h70 => ?_)
              · have b71 : 0 ≤ (3 : Int) ∧ (3 : Int) < 10 := by omega
                refine zw_if b71 ?_
                have r72 : (-1) ≤ (mh 194 3) ∧ (mh 194 3) ≤ 99999 := zi_rd hImh zq_194 (zb_103 _)
                refine zw_ite (fun h73 => ?_) (fun h73 => ?_)
                · have b74 : 0 ≤ a1 ∧ a1 < 2 := by omega
                  refine zw_if b74 ?_
                  have r75 : (-2147483648) ≤ (mh 221 a1) ∧ (mh 221 a1) ≤ 2147483647 := zi_rd hImh zq_221 (zb_130 _)
                  have w76 := zu_w32_rg ((mh 221 a1) + 1)
                  have b77 : 0 ≤ a1 ∧ a1 < 2 := by omega
                  refine zw_if b77 ?_
                  generalize hmm78 : zu_up mh 221 a1 (zu_w32 ((mh 221 a1) + 1)) = m78
                  have hIm78 := zi_up hmm78 hImh zq_221 (zb_130 _) (by omega) (by omega)
                  have hFm78 := zfr_up hmm78 hFmh zq_221 rfl
                  have hLm78 := zs3_mk hmm78 hLmh
                  have hREBm78 := zR_EB_fr (zdis_fr (zfr_up hmm78 (zfr_rf [(130, 0)] _) zq_221 rfl) rfl) hREBmh
                  have hRKNm78 := zR_KN_fr (zdis_fr (zfr_up hmm78 (zfr_rf [(130, 0)] _) zq_221 rfl) rfl) hRKNmh
                  have hRLTm78 := zR_LT_fr (zdis_fr (zfr_up hmm78 (zfr_rf [(130, 0)] _) zq_221 rfl) rfl) hRLTmh
                  have hRSEm78 := zR_SE_fr (zdis_fr (zfr_up hmm78 (zfr_rf [(130, 0)] _) zq_221 rfl) rfl) hRSEmh
                  exact zw_some ⟨hIm78, hFm78, hLm78, hREBm78, hRKNm78, hRLTm78, hRSEm78, trivial⟩
                · have r79 : 0 ≤ (mh a0 66) ∧ (mh a0 66) ≤ 1 := zi_rd hImh hc0 zb_28_66
                  refine zw_ite (fun h80 => ?_) (fun h80 => ?_)
                  · have b81 : 0 ≤ a1 ∧ a1 < 2 := by omega
                    refine zw_if b81 ?_
                    have r82 : (-2147483648) ≤ (mh 221 a1) ∧ (mh 221 a1) ≤ 2147483647 := zi_rd hImh zq_221 (zb_130 _)
                    have w83 := zu_w32_rg ((mh 221 a1) + 1)
                    have b84 : 0 ≤ a1 ∧ a1 < 2 := by omega
                    refine zw_if b84 ?_
                    generalize hmm85 : zu_up mh 221 a1 (zu_w32 ((mh 221 a1) + 1)) = m85
                    have hIm85 := zi_up hmm85 hImh zq_221 (zb_130 _) (by omega) (by omega)
                    have hFm85 := zfr_up hmm85 hFmh zq_221 rfl
                    have hLm85 := zs3_mk hmm85 hLmh
                    have hREBm85 := zR_EB_fr (zdis_fr (zfr_up hmm85 (zfr_rf [(130, 0)] _) zq_221 rfl) rfl) hREBmh
                    have hRKNm85 := zR_KN_fr (zdis_fr (zfr_up hmm85 (zfr_rf [(130, 0)] _) zq_221 rfl) rfl) hRKNmh
                    have hRLTm85 := zR_LT_fr (zdis_fr (zfr_up hmm85 (zfr_rf [(130, 0)] _) zq_221 rfl) rfl) hRLTmh
                    have hRSEm85 := zR_SE_fr (zdis_fr (zfr_up hmm85 (zfr_rf [(130, 0)] _) zq_221 rfl) rfl) hRSEmh
                    exact zw_some ⟨hIm85, hFm85, hLm85, hREBm85, hRKNm85, hRLTm85, hRSEm85, trivial⟩
                  · have hM : (18 - 0) * 1 + 0 < (k : Int) := by omega
                    exact ih.2.2.2 x2 0 mh hImh hFmh hLmh ⟨by omega, by omega⟩ ⟨by omega, by omega⟩ ⟨by omega, by omega⟩ ⟨by omega, by omega⟩ hREBmh hRKNmh hRLTmh hRSEmh hM
              · refine zw_bd (zw_eq (zu_call_at (zt_T n) (zm_36 n) (zdp_36 n) _ _ _ _ _ rfl (zr_36_0 n _ _ a0 mh)) ?_)
                have r86 : 1 ≤ (mh a0 12) ∧ (mh a0 12) ≤ 8 := zi_rd hImh hc0 zb_28_12
                have r87 : 1 ≤ (mh a0 13) ∧ (mh a0 13) ≤ 6 := zi_rd hImh hc0 zb_28_13
                have p88 := zmul_bd (x := (mh a0 12)) (y := (mh a0 13)) (a := 1) (b := 1) (A := 8) (B := 6) (by omega) (by omega) (by omega) (by omega) (by omega) (by omega)
                have w89 := zu_w32_id (z := (mh a0 12) * (mh a0 13)) (by omega) (by omega)
                refine zw_some ?_
                refine zw_bd (zw_mono (zk_136 n hImh hc0 ⟨by omega, by omega⟩) (fun v91 m90 hqm90 => ?_))
                obtain ⟨hIm90, hfm90, hvm90⟩ := hqm90
                have hFm90 := zfr_tr hFmh hfm90 rfl
                have hLm90 := zs2_tr hLmh hfm90 rfl
                have hREBm90 := zR_EB_fr (zdis_fr hfm90 rfl) hREBmh
                have hRKNm90 := zR_KN_fr (zdis_fr hfm90 rfl) hRKNmh
                have hRLTm90 := zR_LT_fr (zdis_fr hfm90 rfl) hRLTmh
                have hRSEm90 := zR_SE_fr (zdis_fr hfm90 rfl) hRSEmh
                have r92 : 0 ≤ (m90 a0 65) ∧ (m90 a0 65) ≤ 1 := zi_rd hIm90 hc0 zb_28_65
                have e93 : (m90 a0 65) = (mh a0 65) := (zfr_ap hfm90 hc0 rfl)
                have hM : (18 - 0) * 1 + 19 < (k : Int) := by omega
                exact ih.2.2.1 x2 v91 0 m90 hIm90 hFm90 hLm90 ⟨by omega, by omega⟩ ⟨by omega, by omega⟩ ⟨by omega, by omega⟩ ⟨by omega, by omega⟩ ⟨by omega, by omega⟩ hREBm90 hRKNm90 hRLTm90 hRSEm90 hM
      · have w94 := zu_w32_id (z := 4 * a1) (by omega) (by omega)
        have w95 := zu_w32_id (z := (zu_w32 (4 * a1)) + x3) (by omega) (by omega)
        have b96 : 0 ≤ (zu_w32 ((zu_w32 (4 * a1)) + x3)) ∧ (zu_w32 ((zu_w32 (4 * a1)) + x3)) < 8 := by omega
        refine zw_if b96 ?_
        have r97 : (-2147483648) ≤ (mh 218 (zu_w32 ((zu_w32 (4 * a1)) + x3))) ∧ (mh 218 (zu_w32 ((zu_w32 (4 * a1)) + x3))) ≤ 2147483647 := zi_rd hImh zq_218 (zb_127 _)
        refine zw_ite (fun h98 => ?_) (fun h98 => ?_)
        · have w99 := zu_w32_id (z := x3 + 1) (by omega) (by omega)
          have hM : (4 - (zu_w32 (x3 + 1))) * 1 + 38 < (k : Int) := by omega
          exact ih.2.1 x2 (zu_w32 (x3 + 1)) mh hImh hFmh hLmh ⟨by omega, by omega⟩ ⟨by omega, by omega⟩ ⟨by omega, by omega⟩ hREBmh hRKNmh hRLTmh hRSEmh hM
        · have r100 : (-2147483648) ≤ (mh a0 69) ∧ (mh a0 69) ≤ 2147483647 := zi_rd hImh hc0 zb_28_69
          refine zw_ite (fun h101 => ?_) (fun h101 => ?_)
          · have w102 := zu_w32_id (z := x3 + 1) (by omega) (by omega)
            have hM : (4 - (zu_w32 (x3 + 1))) * 1 + 38 < (k : Int) := by omega
            exact ih.2.1 x2 (zu_w32 (x3 + 1)) mh hImh hFmh hLmh ⟨by omega, by omega⟩ ⟨by omega, by omega⟩ ⟨by omega, by omega⟩ hREBmh hRKNmh hRLTmh hRSEmh hM
          · refine zw_bd (zw_mono (zk_139 n hImh hc0 ⟨by omega, by omega⟩ ⟨by omega, by omega⟩ ⟨by omega, by omega⟩ (by omega) hREBmh hRSEmh) (fun v104 m103 hqm103 => ?_))
            obtain ⟨hIm103, hfm103, hvm103⟩ := hqm103
            have hFm103 := zfr_tr hFmh hfm103 rfl
            have hLm103 := zs2_tr hLmh hfm103 rfl
            obtain ⟨hREBm103, hRSEm103, hvm103⟩ := hvm103
            have hRKNm103 := zR_KN_fr (zdis_fr hfm103 rfl) hRKNmh
            have hRLTm103 := zR_LT_fr (zdis_fr hfm103 rfl) hRLTmh
            have w105 := zu_w32_id (z := x3 + 1) (by omega) (by omega)
            have hM : (4 - (zu_w32 (x3 + 1))) * 1 + 38 < (k : Int) := by omega
            exact ih.2.1 x2 (zu_w32 (x3 + 1)) m103 hIm103 hFm103 hLm103 ⟨by omega, by omega⟩ ⟨by omega, by omega⟩ ⟨by omega, by omega⟩ hREBm103 hRKNm103 hRLTm103 hRSEm103 hM
set_option maxHeartbeats 4000000 in
theorem zl_140H2k (n : Nat) {a0 a1 : Int} {m0 : zu_m} (hc0 : zcls a0 = 28)   (k : Nat) (ih : (∀ (x2 x3 : Int) (mh : zu_m), zi_I mh → zfr [(28, 54), (28, 64), (122, 0), (123, 0), (124, 0), (126, 0), (128, 0), (129, 0), (130, 0), (131, 0)] m0 mh → zs2 m0 mh → (0 ≤ a1 ∧ a1 ≤ 1) → ((-2147483648) ≤ x2 ∧ x2 ≤ 2147483647) → (0 ≤ x3 ∧ x3 ≤ 4) → (zE1 mh a1) → (zR_KN mh) → (zR_LT mh) → (zE1 mh 0) → (4 - x3) * 1 + 43 < (k : Int) → zw (zu_ex (zt_T n) 140 9 [(40, a0), (0, a1), (0, x2), (0, x3), (2, 0)] [] mh) (fun v m => zi_I m ∧ zfr [(28, 54), (28, 64), (122, 0), (123, 0), (124, 0), (126, 0), (128, 0), (129, 0), (130, 0), (131, 0)] m0 m ∧ zs3 a1 m0 m ∧ zE1 m a1 ∧ zR_KN m ∧ zR_LT m ∧ zE1 m 0 ∧ True)) ∧ (∀ (x2 x3 : Int) (mh : zu_m), zi_I mh → zfr [(28, 54), (28, 64), (122, 0), (123, 0), (124, 0), (126, 0), (128, 0), (129, 0), (130, 0), (131, 0)] m0 mh → zs2 m0 mh → (0 ≤ a1 ∧ a1 ≤ 1) → ((-2147483648) ≤ x2 ∧ x2 ≤ 2147483647) → (0 ≤ x3 ∧ x3 ≤ 4) → (zE1 mh a1) → (zR_KN mh) → (zR_LT mh) → (zE1 mh 0) → (4 - x3) * 1 + 38 < (k : Int) → zw (zu_ex (zt_T n) 140 53 [(40, a0), (0, a1), (0, x2), (0, x3), (2, 0)] [] mh) (fun v m => zi_I m ∧ zfr [(28, 54), (28, 64), (122, 0), (123, 0), (124, 0), (126, 0), (128, 0), (129, 0), (130, 0), (131, 0)] m0 m ∧ zs3 a1 m0 m ∧ zE1 m a1 ∧ zR_KN m ∧ zR_LT m ∧ zE1 m 0 ∧ True)) ∧ (∀ (x2 x3 x4 : Int) (mh : zu_m), zi_I mh → zfr [(28, 54), (28, 64), (122, 0), (123, 0), (124, 0), (126, 0), (128, 0), (129, 0), (130, 0), (131, 0)] m0 mh → zs2 m0 mh → (0 ≤ a1 ∧ a1 ≤ 1) → (1 ≤ x2 ∧ x2 ≤ 2147483647) → ((-99) ≤ x3 ∧ x3 ≤ 99) → (0 ≤ x4 ∧ x4 ≤ 18) → (0 ≤ mh a0 65 ∧ mh a0 65 ≤ 0) → (zE1 mh a1) → (zR_KN mh) → (zR_LT mh) → (zE1 mh 0) → (18 - x4) * 1 + 19 < (k : Int) → zw (zu_ex (zt_T n) 140 138 [(40, a0), (0, a1), (0, x2), (0, x3), (0, x4)] [] mh) (fun v m => zi_I m ∧ zfr [(28, 54), (28, 64), (122, 0), (123, 0), (124, 0), (126, 0), (128, 0), (129, 0), (130, 0), (131, 0)] m0 m ∧ zs3 a1 m0 m ∧ zE1 m a1 ∧ zR_KN m ∧ zR_LT m ∧ zE1 m 0 ∧ True)) ∧ (∀ (x2 x3 : Int) (mh : zu_m), zi_I mh → zfr [(28, 54), (28, 64), (122, 0), (123, 0), (124, 0), (126, 0), (128, 0), (129, 0), (130, 0), (131, 0)] m0 mh → zs2 m0 mh → (0 ≤ a1 ∧ a1 ≤ 1) → ((-1) ≤ x2 ∧ x2 ≤ 99999) → (0 ≤ x3 ∧ x3 ≤ 18) → (0 ≤ mh a0 66 ∧ mh a0 66 ≤ 0) → (zE1 mh a1) → (zR_KN mh) → (zR_LT mh) → (zE1 mh 0) → (18 - x3) * 1 + 0 < (k : Int) → zw (zu_ex (zt_T n) 140 226 [(40, a0), (0, a1), (0, x2), (0, x3), (2, 0)] [] mh) (fun v m => zi_I m ∧ zfr [(28, 54), (28, 64), (122, 0), (123, 0), (124, 0), (126, 0), (128, 0), (129, 0), (130, 0), (131, 0)] m0 m ∧ zs3 a1 m0 m ∧ zE1 m a1 ∧ zR_KN m ∧ zR_LT m ∧ zE1 m 0 ∧ True))) : (∀ (x2 x3 x4 : Int) (mh : zu_m), zi_I mh → zfr [(28, 54), (28, 64), (122, 0), (123, 0), (124, 0), (126, 0), (128, 0), (129, 0), (130, 0), (131, 0)] m0 mh → zs2 m0 mh → (0 ≤ a1 ∧ a1 ≤ 1) → (1 ≤ x2 ∧ x2 ≤ 2147483647) → ((-99) ≤ x3 ∧ x3 ≤ 99) → (0 ≤ x4 ∧ x4 ≤ 18) → (0 ≤ mh a0 65 ∧ mh a0 65 ≤ 0) → (zE1 mh a1) → (zR_KN mh) → (zR_LT mh) → (zE1 mh 0) → (18 - x4) * 1 + 19 < ((k + 1 : Nat) : Int) → zw (zu_ex (zt_T n) 140 138 [(40, a0), (0, a1), (0, x2), (0, x3), (0, x4)] [] mh) (fun v m => zi_I m ∧ zfr [(28, 54), (28, 64), (122, 0), (123, 0), (124, 0), (126, 0), (128, 0), (129, 0), (130, 0), (131, 0)] m0 m ∧ zs3 a1 m0 m ∧ zE1 m a1 ∧ zR_KN m ∧ zR_LT m ∧ zE1 m 0 ∧ True)) := by
      intro x2 x3 x4 mh hImh hFmh hLmh hba1 hbx2 hbx3 hbx4 hg4 hREBmh hRKNmh hRLTmh hRSEmh hM
      refine zw_eq (zu_rega_at (zt_T n) (zm_140 n) (zdp_140 n) _ _ _ _ _ _ (zr_140_138 n _ _ a0 a1 x2 x3 x4 mh)) ?_
      have b106 : 0 ≤ a1 ∧ a1 < 2 := by omega
      refine zw_if b106 ?_
      have r107 : 0 ≤ (mh 216 a1) ∧ (mh 216 a1) ≤ 18 := zi_rdr (m := 2) (r0 := 0) (r1 := 1) hImh zq_216 (by omega) (by decide +kernel)
      refine zw_ite (fun h108 => ?_) (fun h108 => ?_)
      · have b109 : 0 ≤ a1 ∧ a1 < 2 := by omega
        refine zw_if b109 ?_
        refine zw_ite (fun h110 => ?_) (fun h110 => ?_)
        · have b111 : 0 ≤ (3 : Int) ∧ (3 : Int) < 10 := by omega
          refine zw_if b111 ?_
          have r112 : (-1) ≤ (mh 194 3) ∧ (mh 194 3) ≤ 99999 := zi_rd hImh zq_194 (zb_103 _)
          refine zw_ite (fun h113 => ?_) (fun h113 => ?_)
          · have b114 : 0 ≤ a1 ∧ a1 < 2 := by omega
            refine zw_if b114 ?_
            have r115 : (-2147483648) ≤ (mh 221 a1) ∧ (mh 221 a1) ≤ 2147483647 := zi_rd hImh zq_221 (zb_130 _)
            have w116 := zu_w32_rg ((mh 221 a1) + 1)
            have b117 : 0 ≤ a1 ∧ a1 < 2 := by omega
            refine zw_if b117 ?_
            generalize hmm118 : zu_up mh 221 a1 (zu_w32 ((mh 221 a1) + 1)) = m118
            have hIm118 := zi_up hmm118 hImh zq_221 (zb_130 _) (by omega) (by omega)
            have hFm118 := zfr_up hmm118 hFmh zq_221 rfl
            have hLm118 := zs3_mk hmm118 hLmh
            have hREBm118 := zR_EB_fr (zdis_fr (zfr_up hmm118 (zfr_rf [(130, 0)] _) zq_221 rfl) rfl) hREBmh
            have hRKNm118 := zR_KN_fr (zdis_fr (zfr_up hmm118 (zfr_rf [(130, 0)] _) zq_221 rfl) rfl) hRKNmh
            have hRLTm118 := zR_LT_fr (zdis_fr (zfr_up hmm118 (zfr_rf [(130, 0)] _) zq_221 rfl) rfl) hRLTmh
            have hRSEm118 := zR_SE_fr (zdis_fr (zfr_up hmm118 (zfr_rf [(130, 0)] _) zq_221 rfl) rfl) hRSEmh
            exact zw_some ⟨hIm118, hFm118, hLm118, hREBm118, hRKNm118, hRLTm118, hRSEm118, trivial⟩
          · have r119 : 0 ≤ (mh a0 66) ∧ (mh a0 66) ≤ 1 := zi_rd hImh hc0 zb_28_66
            refine zw_ite (fun h120 => ?_) (fun h120 => ?_)
            · have b121 : 0 ≤ a1 ∧ a1 < 2 := by omega
              refine zw_if b121 ?_
              have r122 : (-2147483648) ≤ (mh 221 a1) ∧ (mh 221 a1) ≤ 2147483647 := zi_rd hImh zq_221 (zb_130 _)
              have w123 := zu_w32_rg ((mh 221 a1) + 1)
              have b124 : 0 ≤ a1 ∧ a1 < 2 := by omega
              refine zw_if b124 ?_
              generalize hmm125 : zu_up mh 221 a1 (zu_w32 ((mh 221 a1) + 1)) = m125
              have hIm125 := zi_up hmm125 hImh zq_221 (zb_130 _) (by omega) (by omega)
              have hFm125 := zfr_up hmm125 hFmh zq_221 rfl
              have hLm125 := zs3_mk hmm125 hLmh
              have hREBm125 := zR_EB_fr (zdis_fr (zfr_up hmm125 (zfr_rf [(130, 0)] _) zq_221 rfl) rfl) hREBmh
              have hRKNm125 := zR_KN_fr (zdis_fr (zfr_up hmm125 (zfr_rf [(130, 0)] _) zq_221 rfl) rfl) hRKNmh
              have hRLTm125 := zR_LT_fr (zdis_fr (zfr_up hmm125 (zfr_rf [(130, 0)] _) zq_221 rfl) rfl) hRLTmh
              have hRSEm125 := zR_SE_fr (zdis_fr (zfr_up hmm125 (zfr_rf [(130, 0)] _) zq_221 rfl) rfl) hRSEmh
              exact zw_some ⟨hIm125, hFm125, hLm125, hREBm125, hRKNm125, hRLTm125, hRSEm125, trivial⟩
            · have hM : (18 - 0) * 1 + 0 < (k : Int) := by omega
              exact zw_le (zu_forget (zu_lr_same (zu_lr_same (zu_lr_same (zu_lr_same (zu_lr_drop zu_lr_nil)))))) (ih.2.2.2 x2 0 mh hImh hFmh hLmh ⟨by omega, by omega⟩ ⟨by omega, by omega⟩ ⟨by omega, by omega⟩ ⟨by omega, by omega⟩ hREBmh hRKNmh hRLTmh hRSEmh hM)
        · exfalso; omega
      · have w126 := zu_w32_id (z := 18 * a1) (by omega) (by omega)
        have w127 := zu_w32_id (z := (zu_w32 (18 * a1)) + x4) (by omega) (by omega)
        have b128 : 0 ≤ (zu_w32 ((zu_w32 (18 * a1)) + x4)) ∧ (zu_w32 ((zu_w32 (18 * a1)) + x4)) < 36 := by omega
        refine zw_if b128 ?_
        have r129 : (-3) ≤ (mh 215 (zu_w32 ((zu_w32 (18 * a1)) + x4))) ∧ (mh 215 (zu_w32 ((zu_w32 (18 * a1)) + x4))) ≤ 3 := zi_rd hImh zq_215 (zb_124 _)
        refine zw_ite (fun h130 => ?_) (fun h130 => ?_)
        · have w131 := zu_w32_id (z := x4 + 1) (by omega) (by omega)
          have hM : (18 - (zu_w32 (x4 + 1))) * 1 + 19 < (k : Int) := by omega
          exact ih.2.2.1 x2 x3 (zu_w32 (x4 + 1)) mh hImh hFmh hLmh ⟨by omega, by omega⟩ ⟨by omega, by omega⟩ ⟨by omega, by omega⟩ ⟨by omega, by omega⟩ ⟨by omega, by omega⟩ hREBmh hRKNmh hRLTmh hRSEmh hM
        · have b132 : 0 ≤ x4 ∧ x4 < 36 := by omega
          refine zw_if b132 ?_
          have r133 : 0 ≤ (mh 197 x4) ∧ (mh 197 x4) ≤ 47 := zi_rd hImh zq_197 (zb_106 _)
          refine zw_ite (fun h134 => ?_) (fun h134 => ?_)
          · have b135 : 0 ≤ a1 ∧ a1 < 2 := by omega
            refine zw_if b135 ?_
            refine zw_ite (fun h136 => ?_) (fun h136 => ?_)
            · have b137 : 0 ≤ (3 : Int) ∧ (3 : Int) < 10 := by omega
              refine zw_if b137 ?_
              have r138 : (-1) ≤ (mh 194 3) ∧ (mh 194 3) ≤ 99999 := zi_rd hImh zq_194 (zb_103 _)
              refine zw_ite (fun h139 => ?_) (fun h139 => ?_)
              · have b140 : 0 ≤ a1 ∧ a1 < 2 := by omega
                refine zw_if b140 ?_
                have r141 : (-2147483648) ≤ (mh 221 a1) ∧ (mh 221 a1) ≤ 2147483647 := zi_rd hImh zq_221 (zb_130 _)
                have w142 := zu_w32_rg ((mh 221 a1) + 1)
                have b143 : 0 ≤ a1 ∧ a1 < 2 := by omega
                refine zw_if b143 ?_
                generalize hmm144 : zu_up mh 221 a1 (zu_w32 ((mh 221 a1) + 1)) = m144
                have hIm144 := zi_up hmm144 hImh zq_221 (zb_130 _) (by omega) (by omega)
                have hFm144 := zfr_up hmm144 hFmh zq_221 rfl
                have hLm144 := zs3_mk hmm144 hLmh
                have hREBm144 := zR_EB_fr (zdis_fr (zfr_up hmm144 (zfr_rf [(130, 0)] _) zq_221 rfl) rfl) hREBmh
                have hRKNm144 := zR_KN_fr (zdis_fr (zfr_up hmm144 (zfr_rf [(130, 0)] _) zq_221 rfl) rfl) hRKNmh
                have hRLTm144 := zR_LT_fr (zdis_fr (zfr_up hmm144 (zfr_rf [(130, 0)] _) zq_221 rfl) rfl) hRLTmh
                have hRSEm144 := zR_SE_fr (zdis_fr (zfr_up hmm144 (zfr_rf [(130, 0)] _) zq_221 rfl) rfl) hRSEmh
                exact zw_some ⟨hIm144, hFm144, hLm144, hREBm144, hRKNm144, hRLTm144, hRSEm144, trivial⟩
              · have r145 : 0 ≤ (mh a0 66) ∧ (mh a0 66) ≤ 1 := zi_rd hImh hc0 zb_28_66
                refine zw_ite (fun h146 => ?_) (fun h146 => ?_)
                · have b147 : 0 ≤ a1 ∧ a1 < 2 := by omega
                  refine zw_if b147 ?_
                  have r148 : (-2147483648) ≤ (mh 221 a1) ∧ (mh 221 a1) ≤ 2147483647 := zi_rd hImh zq_221 (zb_130 _)
                  have w149 := zu_w32_rg ((mh 221 a1) + 1)
                  have b150 : 0 ≤ a1 ∧ a1 < 2 := by omega
                  refine zw_if b150 ?_
                  generalize hmm151 : zu_up mh 221 a1 (zu_w32 ((mh 221 a1) + 1)) = m151
                  have hIm151 := zi_up hmm151 hImh zq_221 (zb_130 _) (by omega) (by omega)
                  have hFm151 := zfr_up hmm151 hFmh zq_221 rfl
                  have hLm151 := zs3_mk hmm151 hLmh
                  have hREBm151 := zR_EB_fr (zdis_fr (zfr_up hmm151 (zfr_rf [(130, 0)] _) zq_221 rfl) rfl) hREBmh
                  have hRKNm151 := zR_KN_fr (zdis_fr (zfr_up hmm151 (zfr_rf [(130, 0)] _) zq_221 rfl) rfl) hRKNmh
                  have hRLTm151 := zR_LT_fr (zdis_fr (zfr_up hmm151 (zfr_rf [(130, 0)] _) zq_221 rfl) rfl) hRLTmh
                  have hRSEm151 := zR_SE_fr (zdis_fr (zfr_up hmm151 (zfr_rf [(130, 0)] _) zq_221 rfl) rfl) hRSEmh
                  exact zw_some ⟨hIm151, hFm151, hLm151, hREBm151, hRKNm151, hRLTm151, hRSEm151, trivial⟩
                · have hM : (18 - 0) * 1 + 0 < (k : Int) := by omega
                  exact zw_le (zu_forget (zu_lr_same (zu_lr_same (zu_lr_same (zu_lr_same (zu_lr_drop zu_lr_nil)))))) (ih.2.2.2 x2 0 mh hImh hFmh hLmh ⟨by omega, by omega⟩ ⟨by omega, by omega⟩ ⟨by omega, by omega⟩ ⟨by omega, by omega⟩ hREBmh hRKNmh hRLTmh hRSEmh hM)
            · have b152 : 0 ≤ (zu_w32 ((zu_w32 (18 * a1)) + x4)) ∧ (zu_w32 ((zu_w32 (18 * a1)) + x4)) < 36 := by omega
              refine zw_if b152 ?_
              generalize hmm153 : zu_up mh 215 (zu_w32 ((zu_w32 (18 * a1)) + x4)) (-2) = m153
              have hIm153 := zi_up hmm153 hImh zq_215 (zb_124 _) (by omega) (by omega)
              have hFm153 := zfr_up hmm153 hFmh zq_215 rfl
              have hLm153 := zs2_ne hmm153 hLmh zq_215 (by decide)
              have hREBm153 := zR_EB_fr (zdis_fr (zfr_up hmm153 (zfr_rf [(124, 0)] _) zq_215 rfl) rfl) hREBmh
              have hRKNm153 := zR_KN_fr (zdis_fr (zfr_up hmm153 (zfr_rf [(124, 0)] _) zq_215 rfl) rfl) hRKNmh
              have hRLTm153 := zR_LT_fr (zdis_fr (zfr_up hmm153 (zfr_rf [(124, 0)] _) zq_215 rfl) rfl) hRLTmh
              have hRSEm153 := zR_SE_fr (zdis_fr (zfr_up hmm153 (zfr_rf [(124, 0)] _) zq_215 rfl) rfl) hRSEmh
              have b154 : 0 ≤ (3 : Int) ∧ (3 : Int) < 10 := by omega
              refine zw_if b154 ?_
              have r155 : (-1) ≤ (m153 194 3) ∧ (m153 194 3) ≤ 99999 := zi_rd hIm153 zq_194 (zb_103 _)
              refine zw_ite (fun h156 => ?_) (fun h156 => ?_)
              · have b157 : 0 ≤ a1 ∧ a1 < 2 := by omega
                refine zw_if b157 ?_
                have r158 : (-2147483648) ≤ (m153 221 a1) ∧ (m153 221 a1) ≤ 2147483647 := zi_rd hIm153 zq_221 (zb_130 _)
                have w159 := zu_w32_rg ((m153 221 a1) + 1)
                have b160 : 0 ≤ a1 ∧ a1 < 2 := by omega
                refine zw_if b160 ?_
                generalize hmm161 : zu_up m153 221 a1 (zu_w32 ((m153 221 a1) + 1)) = m161
                have hIm161 := zi_up hmm161 hIm153 zq_221 (zb_130 _) (by omega) (by omega)
                have hFm161 := zfr_up hmm161 hFm153 zq_221 rfl
                have hLm161 := zs3_mk hmm161 hLm153
                have hREBm161 := zR_EB_fr (zdis_fr (zfr_up hmm161 (zfr_rf [(130, 0)] _) zq_221 rfl) rfl) hREBm153
                have hRKNm161 := zR_KN_fr (zdis_fr (zfr_up hmm161 (zfr_rf [(130, 0)] _) zq_221 rfl) rfl) hRKNm153
                have hRLTm161 := zR_LT_fr (zdis_fr (zfr_up hmm161 (zfr_rf [(130, 0)] _) zq_221 rfl) rfl) hRLTm153
                have hRSEm161 := zR_SE_fr (zdis_fr (zfr_up hmm161 (zfr_rf [(130, 0)] _) zq_221 rfl) rfl) hRSEm153
                exact zw_some ⟨hIm161, hFm161, hLm161, hREBm161, hRKNm161, hRLTm161, hRSEm161, trivial⟩
              · have r162 : 0 ≤ (m153 a0 66) ∧ (m153 a0 66) ≤ 1 := zi_rd hIm153 hc0 zb_28_66
                refine zw_ite (fun h163 => ?_) (fun h163 => ?_)
                · have b164 : 0 ≤ a1 ∧ a1 < 2 := by omega
                  refine zw_if b164 ?_
                  have r165 : (-2147483648) ≤ (m153 221 a1) ∧ (m153 221 a1) ≤ 2147483647 := zi_rd hIm153 zq_221 (zb_130 _)
                  have w166 := zu_w32_rg ((m153 221 a1) + 1)
                  have b167 : 0 ≤ a1 ∧ a1 < 2 := by omega
                  refine zw_if b167 ?_
                  generalize hmm168 : zu_up m153 221 a1 (zu_w32 ((m153 221 a1) + 1)) = m168
                  have hIm168 := zi_up hmm168 hIm153 zq_221 (zb_130 _) (by omega) (by omega)
                  have hFm168 := zfr_up hmm168 hFm153 zq_221 rfl
                  have hLm168 := zs3_mk hmm168 hLm153
                  have hREBm168 := zR_EB_fr (zdis_fr (zfr_up hmm168 (zfr_rf [(130, 0)] _) zq_221 rfl) rfl) hREBm153
                  have hRKNm168 := zR_KN_fr (zdis_fr (zfr_up hmm168 (zfr_rf [(130, 0)] _) zq_221 rfl) rfl) hRKNm153
                  have hRLTm168 := zR_LT_fr (zdis_fr (zfr_up hmm168 (zfr_rf [(130, 0)] _) zq_221 rfl) rfl) hRLTm153
                  have hRSEm168 := zR_SE_fr (zdis_fr (zfr_up hmm168 (zfr_rf [(130, 0)] _) zq_221 rfl) rfl) hRSEm153
                  exact zw_some ⟨hIm168, hFm168, hLm168, hREBm168, hRKNm168, hRLTm168, hRSEm168, trivial⟩
                · have hM : (18 - 0) * 1 + 0 < (k : Int) := by omega
                  exact zw_le (zu_forget (zu_lr_same (zu_lr_same (zu_lr_same (zu_lr_same (zu_lr_drop zu_lr_nil)))))) (ih.2.2.2 x2 0 m153 hIm153 hFm153 hLm153 ⟨by omega, by omega⟩ ⟨by omega, by omega⟩ ⟨by omega, by omega⟩ ⟨by omega, by omega⟩ hREBm153 hRKNm153 hRLTm153 hRSEm153 hM)
          · have w169 := zu_w32_id (z := x4 + 1) (by omega) (by omega)
            have hM : (18 - (zu_w32 (x4 + 1))) * 1 + 19 < (k : Int) := by omega
            exact ih.2.2.1 x2 x3 (zu_w32 (x4 + 1)) mh hImh hFmh hLmh ⟨by omega, by omega⟩ ⟨by omega, by omega⟩ ⟨by omega, by omega⟩ ⟨by omega, by omega⟩ ⟨by omega, by omega⟩ hREBmh hRKNmh hRLTmh hRSEmh hM
set_option maxHeartbeats 4000000 in
theorem zl_140H3k (n : Nat) {a0 a1 : Int} {m0 : zu_m} (hc0 : zcls a0 = 28)   (k : Nat) (ih : (∀ (x2 x3 : Int) (mh : zu_m), zi_I mh → zfr [(28, 54), (28, 64), (122, 0), (123, 0), (124, 0), (126, 0), (128, 0), (129, 0), (130, 0), (131, 0)] m0 mh → zs2 m0 mh → (0 ≤ a1 ∧ a1 ≤ 1) → ((-2147483648) ≤ x2 ∧ x2 ≤ 2147483647) → (0 ≤ x3 ∧ x3 ≤ 4) → (zE1 mh a1) → (zR_KN mh) → (zR_LT mh) → (zE1 mh 0) → (4 - x3) * 1 + 43 < (k : Int) → zw (zu_ex (zt_T n) 140 9 [(40, a0), (0, a1), (0, x2), (0, x3), (2, 0)] [] mh) (fun v m => zi_I m ∧ zfr [(28, 54), (28, 64), (122, 0), (123, 0), (124, 0), (126, 0), (128, 0), (129, 0), (130, 0), (131, 0)] m0 m ∧ zs3 a1 m0 m ∧ zE1 m a1 ∧ zR_KN m ∧ zR_LT m ∧ zE1 m 0 ∧ True)) ∧ (∀ (x2 x3 : Int) (mh : zu_m), zi_I mh → zfr [(28, 54), (28, 64), (122, 0), (123, 0), (124, 0), (126, 0), (128, 0), (129, 0), (130, 0), (131, 0)] m0 mh → zs2 m0 mh → (0 ≤ a1 ∧ a1 ≤ 1) → ((-2147483648) ≤ x2 ∧ x2 ≤ 2147483647) → (0 ≤ x3 ∧ x3 ≤ 4) → (zE1 mh a1) → (zR_KN mh) → (zR_LT mh) → (zE1 mh 0) → (4 - x3) * 1 + 38 < (k : Int) → zw (zu_ex (zt_T n) 140 53 [(40, a0), (0, a1), (0, x2), (0, x3), (2, 0)] [] mh) (fun v m => zi_I m ∧ zfr [(28, 54), (28, 64), (122, 0), (123, 0), (124, 0), (126, 0), (128, 0), (129, 0), (130, 0), (131, 0)] m0 m ∧ zs3 a1 m0 m ∧ zE1 m a1 ∧ zR_KN m ∧ zR_LT m ∧ zE1 m 0 ∧ True)) ∧ (∀ (x2 x3 x4 : Int) (mh : zu_m), zi_I mh → zfr [(28, 54), (28, 64), (122, 0), (123, 0), (124, 0), (126, 0), (128, 0), (129, 0), (130, 0), (131, 0)] m0 mh → zs2 m0 mh → (0 ≤ a1 ∧ a1 ≤ 1) → (1 ≤ x2 ∧ x2 ≤ 2147483647) → ((-99) ≤ x3 ∧ x3 ≤ 99) → (0 ≤ x4 ∧ x4 ≤ 18) → (0 ≤ mh a0 65 ∧ mh a0 65 ≤ 0) → (zE1 mh a1) → (zR_KN mh) → (zR_LT mh) → (zE1 mh 0) → (18 - x4) * 1 + 19 < (k : Int) → zw (zu_ex (zt_T n) 140 138 [(40, a0), (0, a1), (0, x2), (0, x3), (0, x4)] [] mh) (fun v m => zi_I m ∧ zfr [(28, 54), (28, 64), (122, 0), (123, 0), (124, 0), (126, 0), (128, 0), (129, 0), (130, 0), (131, 0)] m0 m ∧ zs3 a1 m0 m ∧ zE1 m a1 ∧ zR_KN m ∧ zR_LT m ∧ zE1 m 0 ∧ True)) ∧ (∀ (x2 x3 : Int) (mh : zu_m), zi_I mh → zfr [(28, 54), (28, 64), (122, 0), (123, 0), (124, 0), (126, 0), (128, 0), (129, 0), (130, 0), (131, 0)] m0 mh → zs2 m0 mh → (0 ≤ a1 ∧ a1 ≤ 1) → ((-1) ≤ x2 ∧ x2 ≤ 99999) → (0 ≤ x3 ∧ x3 ≤ 18) → (0 ≤ mh a0 66 ∧ mh a0 66 ≤ 0) → (zE1 mh a1) → (zR_KN mh) → (zR_LT mh) → (zE1 mh 0) → (18 - x3) * 1 + 0 < (k : Int) → zw (zu_ex (zt_T n) 140 226 [(40, a0), (0, a1), (0, x2), (0, x3), (2, 0)] [] mh) (fun v m => zi_I m ∧ zfr [(28, 54), (28, 64), (122, 0), (123, 0), (124, 0), (126, 0), (128, 0), (129, 0), (130, 0), (131, 0)] m0 m ∧ zs3 a1 m0 m ∧ zE1 m a1 ∧ zR_KN m ∧ zR_LT m ∧ zE1 m 0 ∧ True))) : (∀ (x2 x3 : Int) (mh : zu_m), zi_I mh → zfr [(28, 54), (28, 64), (122, 0), (123, 0), (124, 0), (126, 0), (128, 0), (129, 0), (130, 0), (131, 0)] m0 mh → zs2 m0 mh → (0 ≤ a1 ∧ a1 ≤ 1) → ((-1) ≤ x2 ∧ x2 ≤ 99999) → (0 ≤ x3 ∧ x3 ≤ 18) → (0 ≤ mh a0 66 ∧ mh a0 66 ≤ 0) → (zE1 mh a1) → (zR_KN mh) → (zR_LT mh) → (zE1 mh 0) → (18 - x3) * 1 + 0 < ((k + 1 : Nat) : Int) → zw (zu_ex (zt_T n) 140 226 [(40, a0), (0, a1), (0, x2), (0, x3), (2, 0)] [] mh) (fun v m => zi_I m ∧ zfr [(28, 54), (28, 64), (122, 0), (123, 0), (124, 0), (126, 0), (128, 0), (129, 0), (130, 0), (131, 0)] m0 m ∧ zs3 a1 m0 m ∧ zE1 m a1 ∧ zR_KN m ∧ zR_LT m ∧ zE1 m 0 ∧ True)) := by
      intro x2 x3 mh hImh hFmh hLmh hba1 hbx2 hbx3 hg3 hREBmh hRKNmh hRLTmh hRSEmh hM
      refine zw_eq (zu_rega_at (zt_T n) (zm_140 n) (zdp_140 n) _ _ _ _ _ _ (zr_140_226 n _ _ a0 a1 x2 x3 mh)) ?_
      have b170 : 0 ≤ a1 ∧ a1 < 2 := by omega
      refine zw_if b170 ?_
      have r171 : 0 ≤ (mh 216 a1) ∧ (mh 216 a1) ≤ 18 := zi_rdr (m := 2) (r0 := 0) (r1 := 1) hImh zq_216 (by omega) (by decide +kernel)
      refine zw_ite (fun h172 => ?_) (fun h172 => ?_)
      · have b173 : 0 ≤ a1 ∧ a1 < 2 := by omega
        refine zw_if b173 ?_
        have r174 : (-2147483648) ≤ (mh 221 a1) ∧ (mh 221 a1) ≤ 2147483647 := zi_rd hImh zq_221 (zb_130 _)
        have w175 := zu_w32_rg ((mh 221 a1) + 1)
        have b176 : 0 ≤ a1 ∧ a1 < 2 := by omega
        refine zw_if b176 ?_
        generalize hmm177 : zu_up mh 221 a1 (zu_w32 ((mh 221 a1) + 1)) = m177
        have hIm177 := zi_up hmm177 hImh zq_221 (zb_130 _) (by omega) (by omega)
        have hFm177 := zfr_up hmm177 hFmh zq_221 rfl
        have hLm177 := zs3_mk hmm177 hLmh
        have hREBm177 := zR_EB_fr (zdis_fr (zfr_up hmm177 (zfr_rf [(130, 0)] _) zq_221 rfl) rfl) hREBmh
        have hRKNm177 := zR_KN_fr (zdis_fr (zfr_up hmm177 (zfr_rf [(130, 0)] _) zq_221 rfl) rfl) hRKNmh
        have hRLTm177 := zR_LT_fr (zdis_fr (zfr_up hmm177 (zfr_rf [(130, 0)] _) zq_221 rfl) rfl) hRLTmh
        have hRSEm177 := zR_SE_fr (zdis_fr (zfr_up hmm177 (zfr_rf [(130, 0)] _) zq_221 rfl) rfl) hRSEmh
        exact zw_some ⟨hIm177, hFm177, hLm177, hREBm177, hRKNm177, hRLTm177, hRSEm177, trivial⟩
      · have w178 := zu_w32_id (z := 18 * a1) (by omega) (by omega)
        have w179 := zu_w32_id (z := (zu_w32 (18 * a1)) + x3) (by omega) (by omega)
        have b180 : 0 ≤ (zu_w32 ((zu_w32 (18 * a1)) + x3)) ∧ (zu_w32 ((zu_w32 (18 * a1)) + x3)) < 36 := by omega
        refine zw_if b180 ?_
        have r181 : (-3) ≤ (mh 215 (zu_w32 ((zu_w32 (18 * a1)) + x3))) ∧ (mh 215 (zu_w32 ((zu_w32 (18 * a1)) + x3))) ≤ 3 := zi_rd hImh zq_215 (zb_124 _)
        refine zw_ite (fun h182 => ?_) (fun h182 => ?_)
        · have w183 := zu_w32_id (z := x3 + 1) (by omega) (by omega)
          have hM : (18 - (zu_w32 (x3 + 1))) * 1 + 0 < (k : Int) := by omega
          exact ih.2.2.2 x2 (zu_w32 (x3 + 1)) mh hImh hFmh hLmh ⟨by omega, by omega⟩ ⟨by omega, by omega⟩ ⟨by omega, by omega⟩ ⟨by omega, by omega⟩ hREBmh hRKNmh hRLTmh hRSEmh hM
        · have b184 : 0 ≤ x3 ∧ x3 < 36 := by omega
          refine zw_if b184 ?_
          have r185 : 0 ≤ (mh 197 x3) ∧ (mh 197 x3) ≤ 47 := zi_rd hImh zq_197 (zb_106 _)
          have b186 : 0 ≤ (mh 197 x3) ∧ (mh 197 x3) < 96 := by omega
          refine zw_if b186 ?_
          have r187 : 0 ≤ (mh 195 (mh 197 x3)) ∧ (mh 195 (mh 197 x3)) ≤ 3 := zi_rd hImh zq_195 (zb_104 _)
          refine zw_ite (fun h188 => ?_) (fun h188 => ?_)
          · have w189 := zu_w32_id (z := x3 + 1) (by omega) (by omega)
            have hM : (18 - (zu_w32 (x3 + 1))) * 1 + 0 < (k : Int) := by omega
            exact ih.2.2.2 x2 (zu_w32 (x3 + 1)) mh hImh hFmh hLmh ⟨by omega, by omega⟩ ⟨by omega, by omega⟩ ⟨by omega, by omega⟩ ⟨by omega, by omega⟩ hREBmh hRKNmh hRLTmh hRSEmh hM
          · have b190 : 0 ≤ (zu_w32 ((zu_w32 (18 * a1)) + x3)) ∧ (zu_w32 ((zu_w32 (18 * a1)) + x3)) < 36 := by omega
            refine zw_if b190 ?_
            generalize hmm191 : zu_up mh 215 (zu_w32 ((zu_w32 (18 * a1)) + x3)) (-3) = m191
            have hIm191 := zi_up hmm191 hImh zq_215 (zb_124 _) (by omega) (by omega)
            have hFm191 := zfr_up hmm191 hFmh zq_215 rfl
            have hLm191 := zs2_ne hmm191 hLmh zq_215 (by decide)
            have hREBm191 := zR_EB_fr (zdis_fr (zfr_up hmm191 (zfr_rf [(124, 0)] _) zq_215 rfl) rfl) hREBmh
            have hRKNm191 := zR_KN_fr (zdis_fr (zfr_up hmm191 (zfr_rf [(124, 0)] _) zq_215 rfl) rfl) hRKNmh
            have hRLTm191 := zR_LT_fr (zdis_fr (zfr_up hmm191 (zfr_rf [(124, 0)] _) zq_215 rfl) rfl) hRLTmh
            have hRSEm191 := zR_SE_fr (zdis_fr (zfr_up hmm191 (zfr_rf [(124, 0)] _) zq_215 rfl) rfl) hRSEmh
            have w192 := zu_w32_id (z := x3 + 1) (by omega) (by omega)
            have r193 : 0 ≤ (m191 a0 66) ∧ (m191 a0 66) ≤ 1 := zi_rd hIm191 hc0 zb_28_66
            have e194 : (m191 a0 66) = (mh a0 66) := (zs_ne hmm191 (Or.inl (zc_ne hc0 zq_215 (by decide))))
            have hM : (18 - (zu_w32 (x3 + 1))) * 1 + 0 < (k : Int) := by omega
            exact ih.2.2.2 x2 (zu_w32 (x3 + 1)) m191 hIm191 hFm191 hLm191 ⟨by omega, by omega⟩ ⟨by omega, by omega⟩ ⟨by omega, by omega⟩ ⟨by omega, by omega⟩ hREBm191 hRKNm191 hRLTm191 hRSEm191 hM
set_option maxHeartbeats 4000000 in
theorem zl_140k (n : Nat) {a0 a1 : Int} {m0 : zu_m} (hc0 : zcls a0 = 28)   : ∀ k : Nat, (∀ (x2 x3 : Int) (mh : zu_m), zi_I mh → zfr [(28, 54), (28, 64), (122, 0), (123, 0), (124, 0), (126, 0), (128, 0), (129, 0), (130, 0), (131, 0)] m0 mh → zs2 m0 mh → (0 ≤ a1 ∧ a1 ≤ 1) → ((-2147483648) ≤ x2 ∧ x2 ≤ 2147483647) → (0 ≤ x3 ∧ x3 ≤ 4) → (zE1 mh a1) → (zR_KN mh) → (zR_LT mh) → (zE1 mh 0) → (4 - x3) * 1 + 43 < (k : Int) → zw (zu_ex (zt_T n) 140 9 [(40, a0), (0, a1), (0, x2), (0, x3), (2, 0)] [] mh) (fun v m => zi_I m ∧ zfr [(28, 54), (28, 64), (122, 0), (123, 0), (124, 0), (126, 0), (128, 0), (129, 0), (130, 0), (131, 0)] m0 m ∧ zs3 a1 m0 m ∧ zE1 m a1 ∧ zR_KN m ∧ zR_LT m ∧ zE1 m 0 ∧ True)) ∧ (∀ (x2 x3 : Int) (mh : zu_m), zi_I mh → zfr [(28, 54), (28, 64), (122, 0), (123, 0), (124, 0), (126, 0), (128, 0), (129, 0), (130, 0), (131, 0)] m0 mh → zs2 m0 mh → (0 ≤ a1 ∧ a1 ≤ 1) → ((-2147483648) ≤ x2 ∧ x2 ≤ 2147483647) → (0 ≤ x3 ∧ x3 ≤ 4) → (zE1 mh a1) → (zR_KN mh) → (zR_LT mh) → (zE1 mh 0) → (4 - x3) * 1 + 38 < (k : Int) → zw (zu_ex (zt_T n) 140 53 [(40, a0), (0, a1), (0, x2), (0, x3), (2, 0)] [] mh) (fun v m => zi_I m ∧ zfr [(28, 54), (28, 64), (122, 0), (123, 0), (124, 0), (126, 0), (128, 0), (129, 0), (130, 0), (131, 0)] m0 m ∧ zs3 a1 m0 m ∧ zE1 m a1 ∧ zR_KN m ∧ zR_LT m ∧ zE1 m 0 ∧ True)) ∧ (∀ (x2 x3 x4 : Int) (mh : zu_m), zi_I mh → zfr [(28, 54), (28, 64), (122, 0), (123, 0), (124, 0), (126, 0), (128, 0), (129, 0), (130, 0), (131, 0)] m0 mh → zs2 m0 mh → (0 ≤ a1 ∧ a1 ≤ 1) → (1 ≤ x2 ∧ x2 ≤ 2147483647) → ((-99) ≤ x3 ∧ x3 ≤ 99) → (0 ≤ x4 ∧ x4 ≤ 18) → (0 ≤ mh a0 65 ∧ mh a0 65 ≤ 0) → (zE1 mh a1) → (zR_KN mh) → (zR_LT mh) → (zE1 mh 0) → (18 - x4) * 1 + 19 < (k : Int) → zw (zu_ex (zt_T n) 140 138 [(40, a0), (0, a1), (0, x2), (0, x3), (0, x4)] [] mh) (fun v m => zi_I m ∧ zfr [(28, 54), (28, 64), (122, 0), (123, 0), (124, 0), (126, 0), (128, 0), (129, 0), (130, 0), (131, 0)] m0 m ∧ zs3 a1 m0 m ∧ zE1 m a1 ∧ zR_KN m ∧ zR_LT m ∧ zE1 m 0 ∧ True)) ∧ (∀ (x2 x3 : Int) (mh : zu_m), zi_I mh → zfr [(28, 54), (28, 64), (122, 0), (123, 0), (124, 0), (126, 0), (128, 0), (129, 0), (130, 0), (131, 0)] m0 mh → zs2 m0 mh → (0 ≤ a1 ∧ a1 ≤ 1) → ((-1) ≤ x2 ∧ x2 ≤ 99999) → (0 ≤ x3 ∧ x3 ≤ 18) → (0 ≤ mh a0 66 ∧ mh a0 66 ≤ 0) → (zE1 mh a1) → (zR_KN mh) → (zR_LT mh) → (zE1 mh 0) → (18 - x3) * 1 + 0 < (k : Int) → zw (zu_ex (zt_T n) 140 226 [(40, a0), (0, a1), (0, x2), (0, x3), (2, 0)] [] mh) (fun v m => zi_I m ∧ zfr [(28, 54), (28, 64), (122, 0), (123, 0), (124, 0), (126, 0), (128, 0), (129, 0), (130, 0), (131, 0)] m0 m ∧ zs3 a1 m0 m ∧ zE1 m a1 ∧ zR_KN m ∧ zR_LT m ∧ zE1 m 0 ∧ True)) := by
  intro k
  induction k with
  | zero => exact ⟨fun x2 x3 mh hImh hFmh hLmh hba1 hbx2 hbx3 hREBmh hRKNmh hRLTmh hRSEmh hM => by exfalso; omega, fun x2 x3 mh hImh hFmh hLmh hba1 hbx2 hbx3 hREBmh hRKNmh hRLTmh hRSEmh hM => by exfalso; omega, fun x2 x3 x4 mh hImh hFmh hLmh hba1 hbx2 hbx3 hbx4 hg4 hREBmh hRKNmh hRLTmh hRSEmh hM => by exfalso; omega, fun x2 x3 mh hImh hFmh hLmh hba1 hbx2 hbx3 hg3 hREBmh hRKNmh hRLTmh hRSEmh hM => by exfalso; omega⟩
  | succ k ih => exact ⟨zl_140H0k n (m0 := m0) hc0 k ih, zl_140H1k n (m0 := m0) hc0 k ih, zl_140H2k n (m0 := m0) hc0 k ih, zl_140H3k n (m0 := m0) hc0 k ih⟩
set_option maxHeartbeats 4000000 in
theorem zk_140k (n : Nat) {a0 a1 : Int} {m0 : zu_m} (hIm0 : zi_I m0) (hc0 : zcls a0 = 28) (ha1 : 0 ≤ a1 ∧ a1 ≤ 1)    (hREBm0 : zE1 m0 a1) (hRKNm0 : zR_KN m0) (hRLTm0 : zR_LT m0) (hRSEm0 : zE1 m0 0) : zw (zu_call (zt_T n) 140 [(40, a0), (0, a1)] m0) (fun v m => zi_I m ∧ zfr [(28, 54), (28, 64), (122, 0), (123, 0), (124, 0), (126, 0), (128, 0), (129, 0), (130, 0), (131, 0)] m0 m ∧ zs3 a1 m0 m ∧ zE1 m a1 ∧ zR_KN m ∧ zR_LT m ∧ zE1 m 0 ∧ True) := by
  have hFm0 : zfr [(28, 54), (28, 64), (122, 0), (123, 0), (124, 0), (126, 0), (128, 0), (129, 0), (130, 0), (131, 0)] m0 m0 := zfr_rf _ _
  have hLm0 : zs2 m0 m0 := rfl
  refine zw_eq (zu_call_at (zt_T n) (zm_140 n) (zdp_140 n) _ _ _ _ _ rfl (zr_140_0 n _ _ a0 a1 m0)) ?_
  have b195 : 0 ≤ a1 ∧ a1 < 2 := by omega
  refine zw_if b195 ?_
  have r196 : (-2147483648) ≤ (m0 221 a1) ∧ (m0 221 a1) ≤ 2147483647 := zi_rd hIm0 zq_221 (zb_130 _)
  have hM : (4 - 0) * 1 + 43 < ((48 : Nat) : Int) := by omega
  exact (zl_140k n (m0 := m0) hc0 48).1 (m0 221 a1) 0 m0 hIm0 hFm0 hLm0 ⟨by omega, by omega⟩ ⟨by omega, by omega⟩ ⟨by omega, by omega⟩ hREBm0 hRKNm0 hRLTm0 hRSEm0 hM
set_option maxHeartbeats 4000000 in
theorem zl_159k (n : Nat) {a0 a1 : Int} {m0 : zu_m} (hc0 : zcls a0 = 28)   : ∀ k : Nat, (∀ (x2 : Int) (mh : zu_m), zi_I mh → zfr [(28, 54), (28, 64), (28, 65), (28, 66), (28, 67), (28, 68), (28, 69), (28, 70), (122, 0), (123, 0), (124, 0), (126, 0), (128, 0), (129, 0), (130, 0), (131, 0)] m0 mh → zs2 m0 mh → (0 ≤ a1 ∧ a1 ≤ 200) → (0 ≤ x2 ∧ x2 ≤ 200) → (1 ≤ mh a0 65 ∧ mh a0 65 ≤ 1) → (zR_KN mh) → (zR_LT mh) → (zE1 mh 1) → (zE1 mh 0) → (200 - x2) * 1 + 0 < (k : Int) → zw (zu_ex (zt_T n) 159 7 [(40, a0), (0, a1), (0, x2)] [] mh) (fun v m => zi_I m ∧ zfr [(28, 54), (28, 64), (28, 65), (28, 66), (28, 67), (28, 68), (28, 69), (28, 70), (122, 0), (123, 0), (124, 0), (126, 0), (128, 0), (129, 0), (130, 0), (131, 0)] m0 m ∧ zs2 m0 m ∧ zR_KN m ∧ zR_LT m ∧ zE1 m 1 ∧ zE1 m 0 ∧ True ∧ (0 ≤ m a0 65 ∧ m a0 65 ≤ 0))) := by
  intro k
  induction k with
  | zero => exact fun x2 mh hImh hFmh hLmh hba1 hbx2 hg2 hRKNmh hRLTmh hRS1mh hRSEmh hM => by exfalso; omega
  | succ k ih =>
    intro x2 mh hImh hFmh hLmh hba1 hbx2 hg2 hRKNmh hRLTmh hRS1mh hRSEmh hM
    refine zw_eq (zu_rega_at (zt_T n) (zm_159 n) (zdp_159 n) _ _ _ _ _ _ (zr_159_7 n _ _ a0 a1 x2 mh)) ?_
    refine zw_ite (fun h1 => ?_) (fun h1 => ?_)
    · refine zw_bd (zw_mono (zk_35 n hImh hc0) (fun v3 m2 hqm2 => ?_))
      obtain ⟨hIm2, hfm2, hvm2⟩ := hqm2
      have hFm2 := zfr_tr hFmh hfm2 rfl
      have hLm2 := zs2_tr hLmh hfm2 rfl
      have hRKNm2 := zR_KN_fr (zdis_fr hfm2 rfl) hRKNmh
      have hRLTm2 := zR_LT_fr (zdis_fr hfm2 rfl) hRLTmh
      have hRS1m2 := zR_S1_fr (zdis_fr hfm2 rfl) hRS1mh
      have hRSEm2 := zR_SE_fr (zdis_fr hfm2 rfl) hRSEmh
      exact zw_some ⟨hIm2, hFm2, hLm2, hRKNm2, hRLTm2, hRS1m2, hRSEm2, trivial, ⟨by omega, by omega⟩⟩
    · refine zw_bd (zw_mono (zk_140k n hImh hc0 ⟨by decide, by decide⟩ hRS1mh hRKNmh hRLTmh hRSEmh) (fun v5 m4 hqm4 => ?_))
      obtain ⟨hIm4, hfm4, hlm4, hvm4⟩ := hqm4
      have hFm4 := zfr_tr hFmh hfm4 rfl
      have hLm4 := zs2_go hLmh (hlm4.2 (by decide))
      obtain ⟨hRS1m4, hRKNm4, hRLTm4, hRSEm4, hvm4⟩ := hvm4
      have w6 := zu_w32_id (z := x2 + 1) (by omega) (by omega)
      have r7 : 0 ≤ (m4 a0 65) ∧ (m4 a0 65) ≤ 1 := zi_rd hIm4 hc0 zb_28_65
      have e8 : (m4 a0 65) = (mh a0 65) := (zfr_ap hfm4 hc0 rfl)
      have hM : (200 - (zu_w32 (x2 + 1))) * 1 + 0 < (k : Int) := by omega
      exact ih (zu_w32 (x2 + 1)) m4 hIm4 hFm4 hLm4 ⟨by omega, by omega⟩ ⟨by omega, by omega⟩ ⟨by omega, by omega⟩ hRKNm4 hRLTm4 hRS1m4 hRSEm4 hM
set_option maxHeartbeats 4000000 in
theorem zk_159k (n : Nat) {a0 a1 : Int} {m0 : zu_m} (hIm0 : zi_I m0) (hc0 : zcls a0 = 28) (ha1 : 0 ≤ a1 ∧ a1 ≤ 200)    (hRKNm0 : zR_KN m0) (hRLTm0 : zR_LT m0) (hRS1m0 : zE1 m0 1) (hRSEm0 : zE1 m0 0) : zw (zu_call (zt_T n) 159 [(40, a0), (0, a1)] m0) (fun v m => zi_I m ∧ zfr [(28, 54), (28, 64), (28, 65), (28, 66), (28, 67), (28, 68), (28, 69), (28, 70), (122, 0), (123, 0), (124, 0), (126, 0), (128, 0), (129, 0), (130, 0), (131, 0)] m0 m ∧ zs2 m0 m ∧ zR_KN m ∧ zR_LT m ∧ zE1 m 1 ∧ zE1 m 0 ∧ True ∧ (0 ≤ m a0 65 ∧ m a0 65 ≤ 0)) := by
  have hFm0 : zfr [(28, 54), (28, 64), (28, 65), (28, 66), (28, 67), (28, 68), (28, 69), (28, 70), (122, 0), (123, 0), (124, 0), (126, 0), (128, 0), (129, 0), (130, 0), (131, 0)] m0 m0 := zfr_rf _ _
  have hLm0 : zs2 m0 m0 := rfl
  refine zw_eq (zu_call_at (zt_T n) (zm_159 n) (zdp_159 n) _ _ _ _ _ rfl (zr_159_0 n _ _ a0 a1 m0)) ?_
  refine zw_b (by omega) ?_
  generalize hmm9 : zu_up m0 a0 65 1 = m9
  have hIm9 := zi_up hmm9 hIm0 hc0 zb_28_65 (by omega) (by omega)
  have hFm9 := zfr_up hmm9 hFm0 hc0 rfl
  have hLm9 := zs2_ne hmm9 hLm0 hc0 (by decide)
  have hRKNm9 := zR_KN_fr (zdis_fr (zfr_up hmm9 (zfr_rf [(28, 66)] _) hc0 rfl) rfl) hRKNm0
  have hRLTm9 := zR_LT_fr (zdis_fr (zfr_up hmm9 (zfr_rf [(28, 66)] _) hc0 rfl) rfl) hRLTm0
  have hRS1m9 := zR_S1_fr (zdis_fr (zfr_up hmm9 (zfr_rf [(28, 66)] _) hc0 rfl) rfl) hRS1m0
  have hRSEm9 := zR_SE_fr (zdis_fr (zfr_up hmm9 (zfr_rf [(28, 66)] _) hc0 rfl) rfl) hRSEm0
  have r10 : 0 ≤ (m9 a0 65) ∧ (m9 a0 65) ≤ 1 := zi_rd hIm9 hc0 zb_28_65
  have e11 : (m9 a0 65) = 1 := (zs_eq hmm9)
  have hM : (200 - 0) * 1 + 0 < ((201 : Nat) : Int) := by omega
  exact (zl_159k n (m0 := m0) hc0 201) 0 m9 hIm9 hFm9 hLm9 ⟨by omega, by omega⟩ ⟨by omega, by omega⟩ ⟨by omega, by omega⟩ hRKNm9 hRLTm9 hRS1m9 hRSEm9 hM
set_option maxHeartbeats 4000000 in
theorem zl_160H0k (n : Nat) {a0 a1 a2 a3 a4 : Int} {m0 : zu_m} (hc0 : zcls a0 = 28)   (k : Nat) (ih : (∀ (x5 : Int) (mh : zu_m), zi_I mh → zfr [(28, 54), (28, 64), (28, 65), (28, 66), (28, 67), (28, 68), (28, 69), (28, 70), (28, 72), (28, 73), (28, 74), (106, 0), (107, 0), (108, 0), (122, 0), (123, 0), (124, 0), (125, 2), (126, 0), (127, 0), (128, 0), (129, 0), (130, 0), (131, 0)] m0 mh → zs2 m0 mh → (1 ≤ a1 ∧ a1 ≤ 2) → (0 ≤ a2 ∧ a2 ≤ 3) → (0 ≤ a3 ∧ a3 ≤ 9) → (1 ≤ a4 ∧ a4 ≤ 40) → (0 ≤ x5 ∧ x5 ≤ 48) → (zR_KN mh) → (zR_LT mh) → (zE1 mh 0) → (48 - x5) * 49 + 48 < (k : Int) → zw (zu_ex (zt_T n) 160 8 [(40, a0), (0, a1), (0, a2), (0, a3), (0, a4), (0, x5), (2, 0), (2, 0)] [] mh) (fun v m => zi_I m ∧ zfr [(28, 54), (28, 64), (28, 65), (28, 66), (28, 67), (28, 68), (28, 69), (28, 70), (28, 72), (28, 73), (28, 74), (106, 0), (107, 0), (108, 0), (122, 0), (123, 0), (124, 0), (125, 2), (126, 0), (127, 0), (128, 0), (129, 0), (130, 0), (131, 0)] m0 m ∧ zs2 m0 m ∧ zR_KN m ∧ zR_LT m ∧ zE1 m 0 ∧ True)) ∧ (∀ (x5 x6 : Int) (mh : zu_m), zi_I mh → zfr [(28, 54), (28, 64), (28, 65), (28, 66), (28, 67), (28, 68), (28, 69), (28, 70), (28, 72), (28, 73), (28, 74), (106, 0), (107, 0), (108, 0), (122, 0), (123, 0), (124, 0), (125, 2), (126, 0), (127, 0), (128, 0), (129, 0), (130, 0), (131, 0)] m0 mh → zs2 m0 mh → (1 ≤ a1 ∧ a1 ≤ 2) → (0 ≤ a2 ∧ a2 ≤ 3) → (0 ≤ a3 ∧ a3 ≤ 9) → (1 ≤ a4 ∧ a4 ≤ 40) → (0 ≤ x5 ∧ x5 ≤ 47) → (1 ≤ x6 ∧ x6 ≤ 48) → (zR_KN mh) → (zR_LT mh) → (zE1 mh 0) → (48 - x6) * 1 + (48 - x5) * 49 + 0 < (k : Int) → zw (zu_ex (zt_T n) 160 33 [(40, a0), (0, a1), (0, a2), (0, a3), (0, a4), (0, x5), (0, x6), (2, 0)] [] mh) (fun v m => zi_I m ∧ zfr [(28, 54), (28, 64), (28, 65), (28, 66), (28, 67), (28, 68), (28, 69), (28, 70), (28, 72), (28, 73), (28, 74), (106, 0), (107, 0), (108, 0), (122, 0), (123, 0), (124, 0), (125, 2), (126, 0), (127, 0), (128, 0), (129, 0), (130, 0), (131, 0)] m0 m ∧ zs2 m0 m ∧ zR_KN m ∧ zR_LT m ∧ zE1 m 0 ∧ True))) : (∀ (x5 : Int) (mh : zu_m), zi_I mh → zfr [(28, 54), (28, 64), (28, 65), (28, 66), (28, 67), (28, 68), (28, 69), (28, 70), (28, 72), (28, 73), (28, 74), (106, 0), (107, 0), (108, 0), (122, 0), (123, 0), (124, 0), (125, 2), (126, 0), (127, 0), (128, 0), (129, 0), (130, 0), (131, 0)] m0 mh → zs2 m0 mh → (1 ≤ a1 ∧ a1 ≤ 2) → (0 ≤ a2 ∧ a2 ≤ 3) → (0 ≤ a3 ∧ a3 ≤ 9) → (1 ≤ a4 ∧ a4 ≤ 40) → (0 ≤ x5 ∧ x5 ≤ 48) → (zR_KN mh) → (zR_LT mh) → (zE1 mh 0) → (48 - x5) * 49 + 48 < ((k + 1 : Nat) : Int) → zw (zu_ex (zt_T n) 160 8 [(40, a0), (0, a1), (0, a2), (0, a3), (0, a4), (0, x5), (2, 0), (2, 0)] [] mh) (fun v m => zi_I m ∧ zfr [(28, 54), (28, 64), (28, 65), (28, 66), (28, 67), (28, 68), (28, 69), (28, 70), (28, 72), (28, 73), (28, 74), (106, 0), (107, 0), (108, 0), (122, 0), (123, 0), (124, 0), (125, 2), (126, 0), (127, 0), (128, 0), (129, 0), (130, 0), (131, 0)] m0 m ∧ zs2 m0 m ∧ zR_KN m ∧ zR_LT m ∧ zE1 m 0 ∧ True)) := by
      intro x5 mh hImh hFmh hLmh hba1 hba2 hba3 hba4 hbx5 hRKNmh hRLTmh hRSEmh hM
      refine zw_eq (zu_rega_at (zt_T n) (zm_160 n) (zdp_160 n) _ _ _ _ _ _ (zr_160_8 n _ _ a0 a1 a2 a3 a4 x5 mh)) ?_
      refine zw_bd (zw_eq (zu_call_at (zt_T n) (zm_36 n) (zdp_36 n) _ _ _ _ _ rfl (zr_36_0 n _ _ a0 mh)) ?_)
      have r1 : 1 ≤ (mh a0 12) ∧ (mh a0 12) ≤ 8 := zi_rd hImh hc0 zb_28_12
      have r2 : 1 ≤ (mh a0 13) ∧ (mh a0 13) ≤ 6 := zi_rd hImh hc0 zb_28_13
      have p3 := zmul_bd (x := (mh a0 12)) (y := (mh a0 13)) (a := 1) (b := 1) (A := 8) (B := 6) (by omega) (by omega) (by omega) (by omega) (by omega) (by omega)
      have w4 := zu_w32_id (z := (mh a0 12) * (mh a0 13)) (by omega) (by omega)
      refine zw_some ?_
      refine zw_ite (fun h5 => ?_) (fun h5 => ?_)
      · exact zw_some ⟨hImh, hFmh, hLmh, hRKNmh, hRLTmh, hRSEmh, trivial⟩
      · refine zw_ite (fun h6 => ?_) (fun h6 => ?_)
        · have w7 := zu_w32_id (z := x5 + 1) (by omega) (by omega)
          have hM : (48 - (zu_w32 (x5 + 1))) * 1 + (48 - x5) * 49 + 0 < (k : Int) := by omega
          exact ih.2 x5 (zu_w32 (x5 + 1)) mh hImh hFmh hLmh ⟨by omega, by omega⟩ ⟨by omega, by omega⟩ ⟨by omega, by omega⟩ ⟨by omega, by omega⟩ ⟨by omega, by omega⟩ ⟨by omega, by omega⟩ hRKNmh hRLTmh hRSEmh hM
        · have hM : (48 - 47) * 1 + (48 - x5) * 49 + 0 < (k : Int) := by omega
          exact ih.2 x5 47 mh hImh hFmh hLmh ⟨by omega, by omega⟩ ⟨by omega, by omega⟩ ⟨by omega, by omega⟩ ⟨by omega, by omega⟩ ⟨by omega, by omega⟩ ⟨by omega, by omega⟩ hRKNmh hRLTmh hRSEmh hM
set_option maxHeartbeats 4000000 in
theorem zl_160H1k (n : Nat) {a0 a1 a2 a3 a4 : Int} {m0 : zu_m} (hc0 : zcls a0 = 28)   (k : Nat) (ih : (∀ (x5 : Int) (mh : zu_m), zi_I mh → zfr [(28, 54), (28, 64), (28, 65), (28, 66), (28, 67), (28, 68), (28, 69), (28, 70), (28, 72), (28, 73), (28, 74), (106, 0), (107, 0), (108, 0), (122, 0), (123, 0), (124, 0), (125, 2), (126, 0), (127, 0), (128, 0), (129, 0), (130, 0), (131, 0)] m0 mh → zs2 m0 mh → (1 ≤ a1 ∧ a1 ≤ 2) → (0 ≤ a2 ∧ a2 ≤ 3) → (0 ≤ a3 ∧ a3 ≤ 9) → (1 ≤ a4 ∧ a4 ≤ 40) → (0 ≤ x5 ∧ x5 ≤ 48) → (zR_KN mh) → (zR_LT mh) → (zE1 mh 0) → (48 - x5) * 49 + 48 < (k : Int) → zw (zu_ex (zt_T n) 160 8 [(40, a0), (0, a1), (0, a2), (0, a3), (0, a4), (0, x5), (2, 0), (2, 0)] [] mh) (fun v m => zi_I m ∧ zfr [(28, 54), (28, 64), (28, 65), (28, 66), (28, 67), (28, 68), (28, 69), (28, 70), (28, 72), (28, 73), (28, 74), (106, 0), (107, 0), (108, 0), (122, 0), (123, 0), (124, 0), (125, 2), (126, 0), (127, 0), (128, 0), (129, 0), (130, 0), (131, 0)] m0 m ∧ zs2 m0 m ∧ zR_KN m ∧ zR_LT m ∧ zE1 m 0 ∧ True)) ∧ (∀ (x5 x6 : Int) (mh : zu_m), zi_I mh → zfr [(28, 54), (28, 64), (28, 65), (28, 66), (28, 67), (28, 68), (28, 69), (28, 70), (28, 72), (28, 73), (28, 74), (106, 0), (107, 0), (108, 0), (122, 0), (123, 0), (124, 0), (125, 2), (126, 0), (127, 0), (128, 0), (129, 0), (130, 0), (131, 0)] m0 mh → zs2 m0 mh → (1 ≤ a1 ∧ a1 ≤ 2) → (0 ≤ a2 ∧ a2 ≤ 3) → (0 ≤ a3 ∧ a3 ≤ 9) → (1 ≤ a4 ∧ a4 ≤ 40) → (0 ≤ x5 ∧ x5 ≤ 47) → (1 ≤ x6 ∧ x6 ≤ 48) → (zR_KN mh) → (zR_LT mh) → (zE1 mh 0) → (48 - x6) * 1 + (48 - x5) * 49 + 0 < (k : Int) → zw (zu_ex (zt_T n) 160 33 [(40, a0), (0, a1), (0, a2), (0, a3), (0, a4), (0, x5), (0, x6), (2, 0)] [] mh) (fun v m => zi_I m ∧ zfr [(28, 54), (28, 64), (28, 65), (28, 66), (28, 67), (28, 68), (28, 69), (28, 70), (28, 72), (28, 73), (28, 74), (106, 0), (107, 0), (108, 0), (122, 0), (123, 0), (124, 0), (125, 2), (126, 0), (127, 0), (128, 0), (129, 0), (130, 0), (131, 0)] m0 m ∧ zs2 m0 m ∧ zR_KN m ∧ zR_LT m ∧ zE1 m 0 ∧ True))) : (∀ (x5 x6 : Int) (mh : zu_m), zi_I mh → zfr [(28, 54), (28, 64), (28, 65), (28, 66), (28, 67), (28, 68), (28, 69), (28, 70), (28, 72), (28, 73), (28, 74), (106, 0), (107, 0), (108, 0), (122, 0), (123, 0), (124, 0), (125, 2), (126, 0), (127, 0), (128, 0), (129, 0), (130, 0), (131, 0)] m0 mh → zs2 m0 mh → (1 ≤ a1 ∧ a1 ≤ 2) → (0 ≤ a2 ∧ a2 ≤ 3) → (0 ≤ a3 ∧ a3 ≤ 9) → (1 ≤ a4 ∧ a4 ≤ 40) → (0 ≤ x5 ∧ x5 ≤ 47) → (1 ≤ x6 ∧ x6 ≤ 48) → (zR_KN mh) → (zR_LT mh) → (zE1 mh 0) → (48 - x6) * 1 + (48 - x5) * 49 + 0 < ((k + 1 : Nat) : Int) → zw (zu_ex (zt_T n) 160 33 [(40, a0), (0, a1), (0, a2), (0, a3), (0, a4), (0, x5), (0, x6), (2, 0)] [] mh) (fun v m => zi_I m ∧ zfr [(28, 54), (28, 64), (28, 65), (28, 66), (28, 67), (28, 68), (28, 69), (28, 70), (28, 72), (28, 73), (28, 74), (106, 0), (107, 0), (108, 0), (122, 0), (123, 0), (124, 0), (125, 2), (126, 0), (127, 0), (128, 0), (129, 0), (130, 0), (131, 0)] m0 m ∧ zs2 m0 m ∧ zR_KN m ∧ zR_LT m ∧ zE1 m 0 ∧ True)) := by
      intro x5 x6 mh hImh hFmh hLmh hba1 hba2 hba3 hba4 hbx5 hbx6 hRKNmh hRLTmh hRSEmh hM
      refine zw_eq (zu_rega_at (zt_T n) (zm_160 n) (zdp_160 n) _ _ _ _ _ _ (zr_160_33 n _ _ a0 a1 a2 a3 a4 x5 x6 mh)) ?_
      refine zw_ite (fun h8 => ?_) (fun h8 => ?_)
      · refine zw_bd (zw_eq (zu_call_at (zt_T n) (zm_36 n) (zdp_36 n) _ _ _ _ _ rfl (zr_36_0 n _ _ a0 mh)) ?_)
        have r9 : 1 ≤ (mh a0 12) ∧ (mh a0 12) ≤ 8 := zi_rd hImh hc0 zb_28_12
        have r10 : 1 ≤ (mh a0 13) ∧ (mh a0 13) ≤ 6 := zi_rd hImh hc0 zb_28_13
        have p11 := zmul_bd (x := (mh a0 12)) (y := (mh a0 13)) (a := 1) (b := 1) (A := 8) (B := 6) (by omega) (by omega) (by omega) (by omega) (by omega) (by omega)
        have w12 := zu_w32_id (z := (mh a0 12) * (mh a0 13)) (by omega) (by omega)
        refine zw_some ?_
        refine zw_ite (fun h13 => ?_) (fun h13 => ?_)
        · have w14 := zu_w32_id (z := x5 + 1) (by omega) (by omega)
          have hM : (48 - (zu_w32 (x5 + 1))) * 49 + 48 < (k : Int) := by omega
          exact zw_le (zu_forget (zu_lr_same (zu_lr_same (zu_lr_same (zu_lr_same (zu_lr_same (zu_lr_same (zu_lr_drop (zu_lr_same zu_lr_nil))))))))) (ih.1 (zu_w32 (x5 + 1)) mh hImh hFmh hLmh ⟨by omega, by omega⟩ ⟨by omega, by omega⟩ ⟨by omega, by omega⟩ ⟨by omega, by omega⟩ ⟨by omega, by omega⟩ hRKNmh hRLTmh hRSEmh hM)
        · refine zw_bd (zw_mono (zk_126k n hImh hc0 hRSEmh) (fun v16 m15 hqm15 => ?_))
          obtain ⟨hIm15, hfm15, hlm15, hvm15⟩ := hqm15
          have hFm15 := zfr_tr hFmh hfm15 rfl
          have hLm15 := zs2_go hLmh hlm15
          obtain ⟨hRS1m15, hRSEm15, hvm15⟩ := hvm15
          have hRKNm15 := zR_KN_fr (zdis_fr hfm15 rfl) hRKNmh
          have hRLTm15 := zR_LT_fr (zdis_fr hfm15 rfl) hRLTmh
          refine zw_bd (zw_eq (zu_call_at (zt_T n) (zm_149 n) (zdp_149 n) _ _ _ _ _ rfl (zr_149_0 n _ _ a0 1 x5 a2 a3 m15)) ?_)
          have b17 : 0 ≤ (1 : Int) ∧ (1 : Int) < 2 := by omega
          refine zw_if b17 ?_
          have b18 : 0 ≤ (m15 216 1) ∧ (m15 216 1) < 36 := by omega
          refine zw_if b18 ?_
          generalize hmm19 : zu_up m15 197 (m15 216 1) x5 = m19
          have hIm19 := zi_up hmm19 hIm15 zq_197 (zb_106 _) (by omega) (by omega)
          have hFm19 := zfr_up hmm19 hFm15 zq_197 rfl
          have hLm19 := zs2_ne hmm19 hLm15 zq_197 (by decide)
          have hRKNm19 := zR_KN_fr (zdis_fr (zfr_up hmm19 (zfr_rf [(106, 0)] _) zq_197 rfl) rfl) hRKNm15
          have hRLTm19 := zR_LT_fr (zdis_fr (zfr_up hmm19 (zfr_rf [(106, 0)] _) zq_197 rfl) rfl) hRLTm15
          have hRS1m19 := zR_S1_fr (zdis_fr (zfr_up hmm19 (zfr_rf [(106, 0)] _) zq_197 rfl) rfl) hRS1m15
          have hRSEm19 := zR_SE_fr (zdis_fr (zfr_up hmm19 (zfr_rf [(106, 0)] _) zq_197 rfl) rfl) hRSEm15
          have b20 : 0 ≤ (m15 216 1) ∧ (m15 216 1) < 36 := by omega
          refine zw_if b20 ?_
          generalize hmm21 : zu_up m19 198 (m15 216 1) a2 = m21
          have hIm21 := zi_up hmm21 hIm19 zq_198 (zb_107 _) (by omega) (by omega)
          have hFm21 := zfr_up hmm21 hFm19 zq_198 rfl
          have hLm21 := zs2_ne hmm21 hLm19 zq_198 (by decide)
          have hRKNm21 := zR_KN_fr (zdis_fr (zfr_up hmm21 (zfr_rf [(107, 0)] _) zq_198 rfl) rfl) hRKNm19
          have hRLTm21 := zR_LT_fr (zdis_fr (zfr_up hmm21 (zfr_rf [(107, 0)] _) zq_198 rfl) rfl) hRLTm19
          have hRS1m21 := zR_S1_fr (zdis_fr (zfr_up hmm21 (zfr_rf [(107, 0)] _) zq_198 rfl) rfl) hRS1m19
          have hRSEm21 := zR_SE_fr (zdis_fr (zfr_up hmm21 (zfr_rf [(107, 0)] _) zq_198 rfl) rfl) hRSEm19
          have b22 : 0 ≤ (m15 216 1) ∧ (m15 216 1) < 36 := by omega
          refine zw_if b22 ?_
          generalize hmm23 : zu_up m21 199 (m15 216 1) a3 = m23
          have hIm23 := zi_up hmm23 hIm21 zq_199 (zb_108 _) (by omega) (by omega)
          have hFm23 := zfr_up hmm23 hFm21 zq_199 rfl
          have hLm23 := zs2_ne hmm23 hLm21 zq_199 (by decide)
          have hRKNm23 := zR_KN_fr (zdis_fr (zfr_up hmm23 (zfr_rf [(108, 0)] _) zq_199 rfl) rfl) hRKNm21
          have hRLTm23 := zR_LT_fr (zdis_fr (zfr_up hmm23 (zfr_rf [(108, 0)] _) zq_199 rfl) rfl) hRLTm21
          have hRS1m23 := zR_S1_fr (zdis_fr (zfr_up hmm23 (zfr_rf [(108, 0)] _) zq_199 rfl) rfl) hRS1m21
          have hRSEm23 := zR_SE_fr (zdis_fr (zfr_up hmm23 (zfr_rf [(108, 0)] _) zq_199 rfl) rfl) hRSEm21
          have w24 := zu_w32_id (z := 18 * 1) (by omega) (by omega)
          have w25 := zu_w32_id (z := (zu_w32 (18 * 1)) + (m15 216 1)) (by omega) (by omega)
          have b26 : 0 ≤ (zu_w32 ((zu_w32 (18 * 1)) + (m15 216 1))) ∧ (zu_w32 ((zu_w32 (18 * 1)) + (m15 216 1))) < 36 := by omega
          refine zw_if b26 ?_
          generalize hmm27 : zu_up m23 215 (zu_w32 ((zu_w32 (18 * 1)) + (m15 216 1))) (-1) = m27
          have hIm27 := zi_up hmm27 hIm23 zq_215 (zb_124 _) (by omega) (by omega)
          have hFm27 := zfr_up hmm27 hFm23 zq_215 rfl
          have hLm27 := zs2_ne hmm27 hLm23 zq_215 (by decide)
          have hRKNm27 := zR_KN_fr (zdis_fr (zfr_up hmm27 (zfr_rf [(124, 0)] _) zq_215 rfl) rfl) hRKNm23
          have hRLTm27 := zR_LT_fr (zdis_fr (zfr_up hmm27 (zfr_rf [(124, 0)] _) zq_215 rfl) rfl) hRLTm23
          have hRS1m27 := zR_S1_fr (zdis_fr (zfr_up hmm27 (zfr_rf [(124, 0)] _) zq_215 rfl) rfl) hRS1m23
          have hRSEm27 := zR_SE_fr (zdis_fr (zfr_up hmm27 (zfr_rf [(124, 0)] _) zq_215 rfl) rfl) hRSEm23
          have b28 : 0 ≤ (1 : Int) ∧ (1 : Int) < 2 := by omega
          refine zw_if b28 ?_
          have r29 : 0 ≤ (m27 216 1) ∧ (m27 216 1) ≤ 18 := zi_rdr (m := 2) (r0 := 1) (r1 := 1) hIm27 zq_216 (by omega) (by decide +kernel)
          have e30 : (m27 216 1) = (m15 216 1) := (Eq.trans (zs_ne hmm27 (Or.inl (zc_ne zq_216 zq_215 (by decide)))) (Eq.trans (zs_ne hmm23 (Or.inl (zc_ne zq_216 zq_199 (by decide)))) (Eq.trans (zs_ne hmm21 (Or.inl (zc_ne zq_216 zq_198 (by decide)))) (zs_ne hmm19 (Or.inl (zc_ne zq_216 zq_197 (by decide)))))))
          have w31 := zu_w32_id (z := (m27 216 1) + 1) (by omega) (by omega)
          have b32 : 0 ≤ (1 : Int) ∧ (1 : Int) < 2 := by omega
          refine zw_if b32 ?_
          generalize hmm33 : zu_up m27 216 1 (zu_w32 ((m27 216 1) + 1)) = m33
          have hIm33 := zi_upr (m := 2) (r0 := 1) (r1 := 1) (lo := 0) (hi := 18) hmm33 hIm27 zq_216 (by omega) (by decide +kernel) (by omega) (by omega)
          have hFm33 := zfr_up hmm33 hFm27 zq_216 rfl
          have hLm33 := zs2_ne hmm33 hLm27 zq_216 (by decide)
          have hRKNm33 := zR_KN_fr (zdis_fr (zfr_up hmm33 (zfr_rf [(125, 2)] _) zq_216 rfl) rfl) hRKNm27
          have hRLTm33 := zR_LT_fr (zdis_fr (zfr_up hmm33 (zfr_rf [(125, 2)] _) zq_216 rfl) rfl) hRLTm27
          have hRS1m33 := zR_S1_fr (zdis_fr (zfr_up hmm33 (zfr_rf [(125, 2)] _) zq_216 rfl) rfl) hRS1m27
          have hRSEm33 := zR_SE_fr (zdis_fr (zfr_up hmm33 (zfr_rf [(125, 2)] _) zq_216 rfl) rfl) hRSEm27
          refine zw_some ?_
          refine zw_ite (fun h34 => ?_) (fun h34 => ?_)
          · exfalso; omega
          · refine zw_bd (zw_eq (zu_call_at (zt_T n) (zm_149 n) (zdp_149 n) _ _ _ _ _ rfl (zr_149_0 n _ _ a0 1 x6 a2 a3 m33)) ?_)
            have b35 : 0 ≤ (1 : Int) ∧ (1 : Int) < 2 := by omega
            refine zw_if b35 ?_
            have r36 : 0 ≤ (m33 216 1) ∧ (m33 216 1) ≤ 18 := zi_rdr (m := 2) (r0 := 1) (r1 := 1) hIm33 zq_216 (by omega) (by decide +kernel)
            have e37 : (m33 216 1) = (zu_w32 ((m27 216 1) + 1)) := (zs_eq hmm33)
            have b38 : 0 ≤ (m33 216 1) ∧ (m33 216 1) < 36 := by omega
            refine zw_if b38 ?_
            generalize hmm39 : zu_up m33 197 (m33 216 1) x6 = m39
            have hIm39 := zi_up hmm39 hIm33 zq_197 (zb_106 _) (by omega) (by omega)
            have hFm39 := zfr_up hmm39 hFm33 zq_197 rfl
            have hLm39 := zs2_ne hmm39 hLm33 zq_197 (by decide)
            have hRKNm39 := zR_KN_fr (zdis_fr (zfr_up hmm39 (zfr_rf [(106, 0)] _) zq_197 rfl) rfl) hRKNm33
            have hRLTm39 := zR_LT_fr (zdis_fr (zfr_up hmm39 (zfr_rf [(106, 0)] _) zq_197 rfl) rfl) hRLTm33
            have hRS1m39 := zR_S1_fr (zdis_fr (zfr_up hmm39 (zfr_rf [(106, 0)] _) zq_197 rfl) rfl) hRS1m33
            have hRSEm39 := zR_SE_fr (zdis_fr (zfr_up hmm39 (zfr_rf [(106, 0)] _) zq_197 rfl) rfl) hRSEm33
            have b40 : 0 ≤ (m33 216 1) ∧ (m33 216 1) < 36 := by omega
            refine zw_if b40 ?_
            generalize hmm41 : zu_up m39 198 (m33 216 1) a2 = m41
            have hIm41 := zi_up hmm41 hIm39 zq_198 (zb_107 _) (by omega) (by omega)
            have hFm41 := zfr_up hmm41 hFm39 zq_198 rfl
            have hLm41 := zs2_ne hmm41 hLm39 zq_198 (by decide)
            have hRKNm41 := zR_KN_fr (zdis_fr (zfr_up hmm41 (zfr_rf [(107, 0)] _) zq_198 rfl) rfl) hRKNm39
            have hRLTm41 := zR_LT_fr (zdis_fr (zfr_up hmm41 (zfr_rf [(107, 0)] _) zq_198 rfl) rfl) hRLTm39
            have hRS1m41 := zR_S1_fr (zdis_fr (zfr_up hmm41 (zfr_rf [(107, 0)] _) zq_198 rfl) rfl) hRS1m39
            have hRSEm41 := zR_SE_fr (zdis_fr (zfr_up hmm41 (zfr_rf [(107, 0)] _) zq_198 rfl) rfl) hRSEm39
            have b42 : 0 ≤ (m33 216 1) ∧ (m33 216 1) < 36 := by omega
            refine zw_if b42 ?_
            generalize hmm43 : zu_up m41 199 (m33 216 1) a3 = m43
            have hIm43 := zi_up hmm43 hIm41 zq_199 (zb_108 _) (by omega) (by omega)
            have hFm43 := zfr_up hmm43 hFm41 zq_199 rfl
            have hLm43 := zs2_ne hmm43 hLm41 zq_199 (by decide)
            have hRKNm43 := zR_KN_fr (zdis_fr (zfr_up hmm43 (zfr_rf [(108, 0)] _) zq_199 rfl) rfl) hRKNm41
            have hRLTm43 := zR_LT_fr (zdis_fr (zfr_up hmm43 (zfr_rf [(108, 0)] _) zq_199 rfl) rfl) hRLTm41
            have hRS1m43 := zR_S1_fr (zdis_fr (zfr_up hmm43 (zfr_rf [(108, 0)] _) zq_199 rfl) rfl) hRS1m41
            have hRSEm43 := zR_SE_fr (zdis_fr (zfr_up hmm43 (zfr_rf [(108, 0)] _) zq_199 rfl) rfl) hRSEm41
            have w44 := zu_w32_id (z := (zu_w32 (18 * 1)) + (m33 216 1)) (by omega) (by omega)
            have b45 : 0 ≤ (zu_w32 ((zu_w32 (18 * 1)) + (m33 216 1))) ∧ (zu_w32 ((zu_w32 (18 * 1)) + (m33 216 1))) < 36 := by omega
            refine zw_if b45 ?_
            generalize hmm46 : zu_up m43 215 (zu_w32 ((zu_w32 (18 * 1)) + (m33 216 1))) (-1) = m46
            have hIm46 := zi_up hmm46 hIm43 zq_215 (zb_124 _) (by omega) (by omega)
            have hFm46 := zfr_up hmm46 hFm43 zq_215 rfl
            have hLm46 := zs2_ne hmm46 hLm43 zq_215 (by decide)
            have hRKNm46 := zR_KN_fr (zdis_fr (zfr_up hmm46 (zfr_rf [(124, 0)] _) zq_215 rfl) rfl) hRKNm43
            have hRLTm46 := zR_LT_fr (zdis_fr (zfr_up hmm46 (zfr_rf [(124, 0)] _) zq_215 rfl) rfl) hRLTm43
            have hRS1m46 := zR_S1_fr (zdis_fr (zfr_up hmm46 (zfr_rf [(124, 0)] _) zq_215 rfl) rfl) hRS1m43
            have hRSEm46 := zR_SE_fr (zdis_fr (zfr_up hmm46 (zfr_rf [(124, 0)] _) zq_215 rfl) rfl) hRSEm43
            have b47 : 0 ≤ (1 : Int) ∧ (1 : Int) < 2 := by omega
            refine zw_if b47 ?_
            have r48 : 0 ≤ (m46 216 1) ∧ (m46 216 1) ≤ 18 := zi_rdr (m := 2) (r0 := 1) (r1 := 1) hIm46 zq_216 (by omega) (by decide +kernel)
            have e49 : (m46 216 1) = (m33 216 1) := (Eq.trans (zs_ne hmm46 (Or.inl (zc_ne zq_216 zq_215 (by decide)))) (Eq.trans (zs_ne hmm43 (Or.inl (zc_ne zq_216 zq_199 (by decide)))) (Eq.trans (zs_ne hmm41 (Or.inl (zc_ne zq_216 zq_198 (by decide)))) (zs_ne hmm39 (Or.inl (zc_ne zq_216 zq_197 (by decide)))))))
            have w50 := zu_w32_id (z := (m46 216 1) + 1) (by omega) (by omega)
            have b51 : 0 ≤ (1 : Int) ∧ (1 : Int) < 2 := by omega
            refine zw_if b51 ?_
            generalize hmm52 : zu_up m46 216 1 (zu_w32 ((m46 216 1) + 1)) = m52
            have hIm52 := zi_upr (m := 2) (r0 := 1) (r1 := 1) (lo := 0) (hi := 18) hmm52 hIm46 zq_216 (by omega) (by decide +kernel) (by omega) (by omega)
            have hFm52 := zfr_up hmm52 hFm46 zq_216 rfl
            have hLm52 := zs2_ne hmm52 hLm46 zq_216 (by decide)
            have hRKNm52 := zR_KN_fr (zdis_fr (zfr_up hmm52 (zfr_rf [(125, 2)] _) zq_216 rfl) rfl) hRKNm46
            have hRLTm52 := zR_LT_fr (zdis_fr (zfr_up hmm52 (zfr_rf [(125, 2)] _) zq_216 rfl) rfl) hRLTm46
            have hRS1m52 := zR_S1_fr (zdis_fr (zfr_up hmm52 (zfr_rf [(125, 2)] _) zq_216 rfl) rfl) hRS1m46
            have hRSEm52 := zR_SE_fr (zdis_fr (zfr_up hmm52 (zfr_rf [(125, 2)] _) zq_216 rfl) rfl) hRSEm46
            refine zw_some ?_
            refine zw_bd (zw_mono (zk_159k n hIm52 hc0 ⟨by omega, by omega⟩ hRKNm52 hRLTm52 hRS1m52 hRSEm52) (fun v54 m53 hqm53 => ?_))
            obtain ⟨hIm53, hfm53, hlm53, hvm53⟩ := hqm53
            have hFm53 := zfr_tr hFm52 hfm53 rfl
            have hLm53 := zs2_go hLm52 hlm53
            obtain ⟨hRKNm53, hRLTm53, hRS1m53, hRSEm53, hvm53⟩ := hvm53
            refine zw_bd (zw_mono (zk_141 n hIm53 hc0 ⟨by decide, by decide⟩) (fun v56 m55 hqm55 => ?_))
            obtain ⟨hIm55, hfm55, hvm55⟩ := hqm55
            have hFm55 := zfr_tr hFm53 hfm55 rfl
            have hLm55 := zs2_tr hLm53 hfm55 rfl
            have hRKNm55 := zR_KN_fr (zdis_fr hfm55 rfl) hRKNm53
            have hRLTm55 := zR_LT_fr (zdis_fr hfm55 rfl) hRLTm53
            have hRS1m55 := zR_S1_fr (zdis_fr hfm55 rfl) hRS1m53
            have hRSEm55 := zR_SE_fr (zdis_fr hfm55 rfl) hRSEm53
            have r57 : (-2147483648) ≤ (m55 a0 71) ∧ (m55 a0 71) ≤ 2147483647 := zi_rd hIm55 hc0 zb_28_71
            refine zw_ite (fun h58 => ?_) (fun h58 => ?_)
            · generalize hmm59 : zu_up m55 a0 71 v56 = m59
              have hIm59 := zi_up hmm59 hIm55 hc0 zb_28_71 (by omega) (by omega)
              have hFm59 := zfr_up hmm59 hFm55 hc0 rfl
              have hLm59 := zs2_ne hmm59 hLm55 hc0 (by decide)
              have hRKNm59 := zR_KN_fr (zdis_fr (zfr_up hmm59 (zfr_rf [(28, 72)] _) hc0 rfl) rfl) hRKNm55
              have hRLTm59 := zR_LT_fr (zdis_fr (zfr_up hmm59 (zfr_rf [(28, 72)] _) hc0 rfl) rfl) hRLTm55
              have hRS1m59 := zR_S1_fr (zdis_fr (zfr_up hmm59 (zfr_rf [(28, 72)] _) hc0 rfl) rfl) hRS1m55
              have hRSEm59 := zR_SE_fr (zdis_fr (zfr_up hmm59 (zfr_rf [(28, 72)] _) hc0 rfl) rfl) hRSEm55
              generalize hmm60 : zu_up m59 a0 72 x5 = m60
              have hIm60 := zi_up hmm60 hIm59 hc0 zb_28_72 (by omega) (by omega)
              have hFm60 := zfr_up hmm60 hFm59 hc0 rfl
              have hLm60 := zs2_ne hmm60 hLm59 hc0 (by decide)
              have hRKNm60 := zR_KN_fr (zdis_fr (zfr_up hmm60 (zfr_rf [(28, 73)] _) hc0 rfl) rfl) hRKNm59
              have hRLTm60 := zR_LT_fr (zdis_fr (zfr_up hmm60 (zfr_rf [(28, 73)] _) hc0 rfl) rfl) hRLTm59
              have hRS1m60 := zR_S1_fr (zdis_fr (zfr_up hmm60 (zfr_rf [(28, 73)] _) hc0 rfl) rfl) hRS1m59
              have hRSEm60 := zR_SE_fr (zdis_fr (zfr_up hmm60 (zfr_rf [(28, 73)] _) hc0 rfl) rfl) hRSEm59
              generalize hmm61 : zu_up m60 a0 73 x6 = m61
              have hIm61 := zi_up hmm61 hIm60 hc0 zb_28_73 (by omega) (by omega)
              have hFm61 := zfr_up hmm61 hFm60 hc0 rfl
              have hLm61 := zs2_ne hmm61 hLm60 hc0 (by decide)
              have hRKNm61 := zR_KN_fr (zdis_fr (zfr_up hmm61 (zfr_rf [(28, 74)] _) hc0 rfl) rfl) hRKNm60
              have hRLTm61 := zR_LT_fr (zdis_fr (zfr_up hmm61 (zfr_rf [(28, 74)] _) hc0 rfl) rfl) hRLTm60
              have hRS1m61 := zR_S1_fr (zdis_fr (zfr_up hmm61 (zfr_rf [(28, 74)] _) hc0 rfl) rfl) hRS1m60
              have hRSEm61 := zR_SE_fr (zdis_fr (zfr_up hmm61 (zfr_rf [(28, 74)] _) hc0 rfl) rfl) hRSEm60
              have w62 := zu_w32_id (z := x6 + 1) (by omega) (by omega)
              have hM : (48 - (zu_w32 (x6 + 1))) * 1 + (48 - x5) * 49 + 0 < (k : Int) := by omega
              exact zw_le (zu_forget (zu_lr_same (zu_lr_same (zu_lr_same (zu_lr_same (zu_lr_same (zu_lr_same (zu_lr_same (zu_lr_drop zu_lr_nil))))))))) (ih.2 x5 (zu_w32 (x6 + 1)) m61 hIm61 hFm61 hLm61 ⟨by omega, by omega⟩ ⟨by omega, by omega⟩ ⟨by omega, by omega⟩ ⟨by omega, by omega⟩ ⟨by omega, by omega⟩ ⟨by omega, by omega⟩ hRKNm61 hRLTm61 hRSEm61 hM)
            · refine zw_ite (fun h63 => ?_) (fun h63 => ?_)
              · generalize hmm64 : zu_up m55 a0 71 v56 = m64
                have hIm64 := zi_up hmm64 hIm55 hc0 zb_28_71 (by omega) (by omega)
                have hFm64 := zfr_up hmm64 hFm55 hc0 rfl
                have hLm64 := zs2_ne hmm64 hLm55 hc0 (by decide)
                have hRKNm64 := zR_KN_fr (zdis_fr (zfr_up hmm64 (zfr_rf [(28, 72)] _) hc0 rfl) rfl) hRKNm55
                have hRLTm64 := zR_LT_fr (zdis_fr (zfr_up hmm64 (zfr_rf [(28, 72)] _) hc0 rfl) rfl) hRLTm55
                have hRS1m64 := zR_S1_fr (zdis_fr (zfr_up hmm64 (zfr_rf [(28, 72)] _) hc0 rfl) rfl) hRS1m55
                have hRSEm64 := zR_SE_fr (zdis_fr (zfr_up hmm64 (zfr_rf [(28, 72)] _) hc0 rfl) rfl) hRSEm55
                generalize hmm65 : zu_up m64 a0 72 x5 = m65
                have hIm65 := zi_up hmm65 hIm64 hc0 zb_28_72 (by omega) (by omega)
                have hFm65 := zfr_up hmm65 hFm64 hc0 rfl
                have hLm65 := zs2_ne hmm65 hLm64 hc0 (by decide)
                have hRKNm65 := zR_KN_fr (zdis_fr (zfr_up hmm65 (zfr_rf [(28, 73)] _) hc0 rfl) rfl) hRKNm64
                have hRLTm65 := zR_LT_fr (zdis_fr (zfr_up hmm65 (zfr_rf [(28, 73)] _) hc0 rfl) rfl) hRLTm64
                have hRS1m65 := zR_S1_fr (zdis_fr (zfr_up hmm65 (zfr_rf [(28, 73)] _) hc0 rfl) rfl) hRS1m64
                have hRSEm65 := zR_SE_fr (zdis_fr (zfr_up hmm65 (zfr_rf [(28, 73)] _) hc0 rfl) rfl) hRSEm64
                generalize hmm66 : zu_up m65 a0 73 x6 = m66
                have hIm66 := zi_up hmm66 hIm65 hc0 zb_28_73 (by omega) (by omega)
                have hFm66 := zfr_up hmm66 hFm65 hc0 rfl
                have hLm66 := zs2_ne hmm66 hLm65 hc0 (by decide)
                have hRKNm66 := zR_KN_fr (zdis_fr (zfr_up hmm66 (zfr_rf [(28, 74)] _) hc0 rfl) rfl) hRKNm65
                have hRLTm66 := zR_LT_fr (zdis_fr (zfr_up hmm66 (zfr_rf [(28, 74)] _) hc0 rfl) rfl) hRLTm65
                have hRS1m66 := zR_S1_fr (zdis_fr (zfr_up hmm66 (zfr_rf [(28, 74)] _) hc0 rfl) rfl) hRS1m65
                have hRSEm66 := zR_SE_fr (zdis_fr (zfr_up hmm66 (zfr_rf [(28, 74)] _) hc0 rfl) rfl) hRSEm65
                have w67 := zu_w32_id (z := x6 + 1) (by omega) (by omega)
                have hM : (48 - (zu_w32 (x6 + 1))) * 1 + (48 - x5) * 49 + 0 < (k : Int) := by omega
                exact zw_le (zu_forget (zu_lr_same (zu_lr_same (zu_lr_same (zu_lr_same (zu_lr_same (zu_lr_same (zu_lr_same (zu_lr_drop zu_lr_nil))))))))) (ih.2 x5 (zu_w32 (x6 + 1)) m66 hIm66 hFm66 hLm66 ⟨by omega, by omega⟩ ⟨by omega, by omega⟩ ⟨by omega, by omega⟩ ⟨by omega, by omega⟩ ⟨by omega, by omega⟩ ⟨by omega, by omega⟩ hRKNm66 hRLTm66 hRSEm66 hM)
              · have w68 := zu_w32_id (z := x6 + 1) (by omega) (by omega)
                have hM : (48 - (zu_w32 (x6 + 1))) * 1 + (48 - x5) * 49 + 0 < (k : Int) := by omega
                exact zw_le (zu_forget (zu_lr_same (zu_lr_same (zu_lr_same (zu_lr_same (zu_lr_same (zu_lr_same (zu_lr_same (zu_lr_drop zu_lr_nil))))))))) (ih.2 x5 (zu_w32 (x6 + 1)) m55 hIm55 hFm55 hLm55 ⟨by omega, by omega⟩ ⟨by omega, by omega⟩ ⟨by omega, by omega⟩ ⟨by omega, by omega⟩ ⟨by omega, by omega⟩ ⟨by omega, by omega⟩ hRKNm55 hRLTm55 hRSEm55 hM)
      · refine zw_ite (fun h69 => ?_) (fun h69 => ?_)
        · have w70 := zu_w32_id (z := x5 + 1) (by omega) (by omega)
          have hM : (48 - (zu_w32 (x5 + 1))) * 49 + 48 < (k : Int) := by omega
          exact zw_le (zu_forget (zu_lr_same (zu_lr_same (zu_lr_same (zu_lr_same (zu_lr_same (zu_lr_same (zu_lr_drop (zu_lr_same zu_lr_nil))))))))) (ih.1 (zu_w32 (x5 + 1)) mh hImh hFmh hLmh ⟨by omega, by omega⟩ ⟨by omega, by omega⟩ ⟨by omega, by omega⟩ ⟨by omega, by omega⟩ ⟨by omega, by omega⟩ hRKNmh hRLTmh hRSEmh hM)
        · refine zw_bd (zw_mono (zk_126k n hImh hc0 hRSEmh) (fun v72 m71 hqm71 => ?_))
          obtain ⟨hIm71, hfm71, hlm71, hvm71⟩ := hqm71
          have hFm71 := zfr_tr hFmh hfm71 rfl
          have hLm71 := zs2_go hLmh hlm71
          obtain ⟨hRS1m71, hRSEm71, hvm71⟩ := hvm71
          have hRKNm71 := zR_KN_fr (zdis_fr hfm71 rfl) hRKNmh
          have hRLTm71 := zR_LT_fr (zdis_fr hfm71 rfl) hRLTmh
          refine zw_bd (zw_eq (zu_call_at (zt_T n) (zm_149 n) (zdp_149 n) _ _ _ _ _ rfl (zr_149_0 n _ _ a0 1 x5 a2 a3 m71)) ?_)
          have b73 : 0 ≤ (1 : Int) ∧ (1 : Int) < 2 := by omega
          refine zw_if b73 ?_
          have b74 : 0 ≤ (m71 216 1) ∧ (m71 216 1) < 36 := by omega
          refine zw_if b74 ?_
          generalize hmm75 : zu_up m71 197 (m71 216 1) x5 = m75
          have hIm75 := zi_up hmm75 hIm71 zq_197 (zb_106 _) (by omega) (by omega)
          have hFm75 := zfr_up hmm75 hFm71 zq_197 rfl
          have hLm75 := zs2_ne hmm75 hLm71 zq_197 (by decide)
          have hRKNm75 := zR_KN_fr (zdis_fr (zfr_up hmm75 (zfr_rf [(106, 0)] _) zq_197 rfl) rfl) hRKNm71
          have hRLTm75 := zR_LT_fr (zdis_fr (zfr_up hmm75 (zfr_rf [(106, 0)] _) zq_197 rfl) rfl) hRLTm71
          have hRS1m75 := zR_S1_fr (zdis_fr (zfr_up hmm75 (zfr_rf [(106, 0)] _) zq_197 rfl) rfl) hRS1m71
          have hRSEm75 := zR_SE_fr (zdis_fr (zfr_up hmm75 (zfr_rf [(106, 0)] _) zq_197 rfl) rfl) hRSEm71
          have b76 : 0 ≤ (m71 216 1) ∧ (m71 216 1) < 36 := by omega
          refine zw_if b76 ?_
          generalize hmm77 : zu_up m75 198 (m71 216 1) a2 = m77
          have hIm77 := zi_up hmm77 hIm75 zq_198 (zb_107 _) (by omega) (by omega)
          have hFm77 := zfr_up hmm77 hFm75 zq_198 rfl
          have hLm77 := zs2_ne hmm77 hLm75 zq_198 (by decide)
          have hRKNm77 := zR_KN_fr (zdis_fr (zfr_up hmm77 (zfr_rf [(107, 0)] _) zq_198 rfl) rfl) hRKNm75
          have hRLTm77 := zR_LT_fr (zdis_fr (zfr_up hmm77 (zfr_rf [(107, 0)] _) zq_198 rfl) rfl) hRLTm75
          have hRS1m77 := zR_S1_fr (zdis_fr (zfr_up hmm77 (zfr_rf [(107, 0)] _) zq_198 rfl) rfl) hRS1m75
          have hRSEm77 := zR_SE_fr (zdis_fr (zfr_up hmm77 (zfr_rf [(107, 0)] _) zq_198 rfl) rfl) hRSEm75
          have b78 : 0 ≤ (m71 216 1) ∧ (m71 216 1) < 36 := by omega
          refine zw_if b78 ?_
          generalize hmm79 : zu_up m77 199 (m71 216 1) a3 = m79
          have hIm79 := zi_up hmm79 hIm77 zq_199 (zb_108 _) (by omega) (by omega)
          have hFm79 := zfr_up hmm79 hFm77 zq_199 rfl
          have hLm79 := zs2_ne hmm79 hLm77 zq_199 (by decide)
          have hRKNm79 := zR_KN_fr (zdis_fr (zfr_up hmm79 (zfr_rf [(108, 0)] _) zq_199 rfl) rfl) hRKNm77
          have hRLTm79 := zR_LT_fr (zdis_fr (zfr_up hmm79 (zfr_rf [(108, 0)] _) zq_199 rfl) rfl) hRLTm77
          have hRS1m79 := zR_S1_fr (zdis_fr (zfr_up hmm79 (zfr_rf [(108, 0)] _) zq_199 rfl) rfl) hRS1m77
          have hRSEm79 := zR_SE_fr (zdis_fr (zfr_up hmm79 (zfr_rf [(108, 0)] _) zq_199 rfl) rfl) hRSEm77
          have w80 := zu_w32_id (z := 18 * 1) (by omega) (by omega)
          have w81 := zu_w32_id (z := (zu_w32 (18 * 1)) + (m71 216 1)) (by omega) (by omega)
          have b82 : 0 ≤ (zu_w32 ((zu_w32 (18 * 1)) + (m71 216 1))) ∧ (zu_w32 ((zu_w32 (18 * 1)) + (m71 216 1))) < 36 := by omega
          refine zw_if b82 ?_
          generalize hmm83 : zu_up m79 215 (zu_w32 ((zu_w32 (18 * 1)) + (m71 216 1))) (-1) = m83
          have hIm83 := zi_up hmm83 hIm79 zq_215 (zb_124 _) (by omega) (by omega)
          have hFm83 := zfr_up hmm83 hFm79 zq_215 rfl
          have hLm83 := zs2_ne hmm83 hLm79 zq_215 (by decide)
          have hRKNm83 := zR_KN_fr (zdis_fr (zfr_up hmm83 (zfr_rf [(124, 0)] _) zq_215 rfl) rfl) hRKNm79
          have hRLTm83 := zR_LT_fr (zdis_fr (zfr_up hmm83 (zfr_rf [(124, 0)] _) zq_215 rfl) rfl) hRLTm79
          have hRS1m83 := zR_S1_fr (zdis_fr (zfr_up hmm83 (zfr_rf [(124, 0)] _) zq_215 rfl) rfl) hRS1m79
          have hRSEm83 := zR_SE_fr (zdis_fr (zfr_up hmm83 (zfr_rf [(124, 0)] _) zq_215 rfl) rfl) hRSEm79
          have b84 : 0 ≤ (1 : Int) ∧ (1 : Int) < 2 := by omega
          refine zw_if b84 ?_
          have r85 : 0 ≤ (m83 216 1) ∧ (m83 216 1) ≤ 18 := zi_rdr (m := 2) (r0 := 1) (r1 := 1) hIm83 zq_216 (by omega) (by decide +kernel)
          have e86 : (m83 216 1) = (m71 216 1) := (Eq.trans (zs_ne hmm83 (Or.inl (zc_ne zq_216 zq_215 (by decide)))) (Eq.trans (zs_ne hmm79 (Or.inl (zc_ne zq_216 zq_199 (by decide)))) (Eq.trans (zs_ne hmm77 (Or.inl (zc_ne zq_216 zq_198 (by decide)))) (zs_ne hmm75 (Or.inl (zc_ne zq_216 zq_197 (by decide)))))))
          have w87 := zu_w32_id (z := (m83 216 1) + 1) (by omega) (by omega)
          have b88 : 0 ≤ (1 : Int) ∧ (1 : Int) < 2 := by omega
          refine zw_if b88 ?_
          generalize hmm89 : zu_up m83 216 1 (zu_w32 ((m83 216 1) + 1)) = m89
          have hIm89 := zi_upr (m := 2) (r0 := 1) (r1 := 1) (lo := 0) (hi := 18) hmm89 hIm83 zq_216 (by omega) (by decide +kernel) (by omega) (by omega)
          have hFm89 := zfr_up hmm89 hFm83 zq_216 rfl
          have hLm89 := zs2_ne hmm89 hLm83 zq_216 (by decide)
          have hRKNm89 := zR_KN_fr (zdis_fr (zfr_up hmm89 (zfr_rf [(125, 2)] _) zq_216 rfl) rfl) hRKNm83
          have hRLTm89 := zR_LT_fr (zdis_fr (zfr_up hmm89 (zfr_rf [(125, 2)] _) zq_216 rfl) rfl) hRLTm83
          have hRS1m89 := zR_S1_fr (zdis_fr (zfr_up hmm89 (zfr_rf [(125, 2)] _) zq_216 rfl) rfl) hRS1m83
          have hRSEm89 := zR_SE_fr (zdis_fr (zfr_up hmm89 (zfr_rf [(125, 2)] _) zq_216 rfl) rfl) hRSEm83
          refine zw_some ?_
          refine zw_ite (fun h90 => ?_) (fun h90 => ?_)
          · refine zw_bd (zw_mono (zk_159k n hIm89 hc0 ⟨by omega, by omega⟩ hRKNm89 hRLTm89 hRS1m89 hRSEm89) (fun v92 m91 hqm91 => ?_))
            obtain ⟨hIm91, hfm91, hlm91, hvm91⟩ := hqm91
            have hFm91 := zfr_tr hFm89 hfm91 rfl
            have hLm91 := zs2_go hLm89 hlm91
            obtain ⟨hRKNm91, hRLTm91, hRS1m91, hRSEm91, hvm91⟩ := hvm91
            refine zw_bd (zw_mono (zk_141 n hIm91 hc0 ⟨by decide, by decide⟩) (fun v94 m93 hqm93 => ?_))
            obtain ⟨hIm93, hfm93, hvm93⟩ := hqm93
            have hFm93 := zfr_tr hFm91 hfm93 rfl
            have hLm93 := zs2_tr hLm91 hfm93 rfl
            have hRKNm93 := zR_KN_fr (zdis_fr hfm93 rfl) hRKNm91
            have hRLTm93 := zR_LT_fr (zdis_fr hfm93 rfl) hRLTm91
            have hRS1m93 := zR_S1_fr (zdis_fr hfm93 rfl) hRS1m91
            have hRSEm93 := zR_SE_fr (zdis_fr hfm93 rfl) hRSEm91
            have r95 : (-2147483648) ≤ (m93 a0 71) ∧ (m93 a0 71) ≤ 2147483647 := zi_rd hIm93 hc0 zb_28_71
            refine zw_ite (fun h96 => ?_) (fun h96 => ?_)
            · generalize hmm97 : zu_up m93 a0 71 v94 = m97
              have hIm97 := zi_up hmm97 hIm93 hc0 zb_28_71 (by omega) (by omega)
              have hFm97 := zfr_up hmm97 hFm93 hc0 rfl
              have hLm97 := zs2_ne hmm97 hLm93 hc0 (by decide)
              have hRKNm97 := zR_KN_fr (zdis_fr (zfr_up hmm97 (zfr_rf [(28, 72)] _) hc0 rfl) rfl) hRKNm93
              have hRLTm97 := zR_LT_fr (zdis_fr (zfr_up hmm97 (zfr_rf [(28, 72)] _) hc0 rfl) rfl) hRLTm93
              have hRS1m97 := zR_S1_fr (zdis_fr (zfr_up hmm97 (zfr_rf [(28, 72)] _) hc0 rfl) rfl) hRS1m93
              have hRSEm97 := zR_SE_fr (zdis_fr (zfr_up hmm97 (zfr_rf [(28, 72)] _) hc0 rfl) rfl) hRSEm93
              generalize hmm98 : zu_up m97 a0 72 x5 = m98
              have hIm98 := zi_up hmm98 hIm97 hc0 zb_28_72 (by omega) (by omega)
              have hFm98 := zfr_up hmm98 hFm97 hc0 rfl
              have hLm98 := zs2_ne hmm98 hLm97 hc0 (by decide)
              have hRKNm98 := zR_KN_fr (zdis_fr (zfr_up hmm98 (zfr_rf [(28, 73)] _) hc0 rfl) rfl) hRKNm97
              have hRLTm98 := zR_LT_fr (zdis_fr (zfr_up hmm98 (zfr_rf [(28, 73)] _) hc0 rfl) rfl) hRLTm97
              have hRS1m98 := zR_S1_fr (zdis_fr (zfr_up hmm98 (zfr_rf [(28, 73)] _) hc0 rfl) rfl) hRS1m97
              have hRSEm98 := zR_SE_fr (zdis_fr (zfr_up hmm98 (zfr_rf [(28, 73)] _) hc0 rfl) rfl) hRSEm97
              generalize hmm99 : zu_up m98 a0 73 x6 = m99
              have hIm99 := zi_up hmm99 hIm98 hc0 zb_28_73 (by omega) (by omega)
              have hFm99 := zfr_up hmm99 hFm98 hc0 rfl
              have hLm99 := zs2_ne hmm99 hLm98 hc0 (by decide)
              have hRKNm99 := zR_KN_fr (zdis_fr (zfr_up hmm99 (zfr_rf [(28, 74)] _) hc0 rfl) rfl) hRKNm98
              have hRLTm99 := zR_LT_fr (zdis_fr (zfr_up hmm99 (zfr_rf [(28, 74)] _) hc0 rfl) rfl) hRLTm98
              have hRS1m99 := zR_S1_fr (zdis_fr (zfr_up hmm99 (zfr_rf [(28, 74)] _) hc0 rfl) rfl) hRS1m98
              have hRSEm99 := zR_SE_fr (zdis_fr (zfr_up hmm99 (zfr_rf [(28, 74)] _) hc0 rfl) rfl) hRSEm98
              have w100 := zu_w32_id (z := x6 + 1) (by omega) (by omega)
              have hM : (48 - (zu_w32 (x6 + 1))) * 1 + (48 - x5) * 49 + 0 < (k : Int) := by omega
              exact zw_le (zu_forget (zu_lr_same (zu_lr_same (zu_lr_same (zu_lr_same (zu_lr_same (zu_lr_same (zu_lr_same (zu_lr_drop zu_lr_nil))))))))) (ih.2 x5 (zu_w32 (x6 + 1)) m99 hIm99 hFm99 hLm99 ⟨by omega, by omega⟩ ⟨by omega, by omega⟩ ⟨by omega, by omega⟩ ⟨by omega, by omega⟩ ⟨by omega, by omega⟩ ⟨by omega, by omega⟩ hRKNm99 hRLTm99 hRSEm99 hM)
            · refine zw_ite (fun h101 => ?_) (fun h101 => ?_)
              · generalize hmm102 : zu_up m93 a0 71 v94 = m102
                have hIm102 := zi_up hmm102 hIm93 hc0 zb_28_71 (by omega) (by omega)
                have hFm102 := zfr_up hmm102 hFm93 hc0 rfl
                have hLm102 := zs2_ne hmm102 hLm93 hc0 (by decide)
                have hRKNm102 := zR_KN_fr (zdis_fr (zfr_up hmm102 (zfr_rf [(28, 72)] _) hc0 rfl) rfl) hRKNm93
                have hRLTm102 := zR_LT_fr (zdis_fr (zfr_up hmm102 (zfr_rf [(28, 72)] _) hc0 rfl) rfl) hRLTm93
                have hRS1m102 := zR_S1_fr (zdis_fr (zfr_up hmm102 (zfr_rf [(28, 72)] _) hc0 rfl) rfl) hRS1m93
                have hRSEm102 := zR_SE_fr (zdis_fr (zfr_up hmm102 (zfr_rf [(28, 72)] _) hc0 rfl) rfl) hRSEm93
                generalize hmm103 : zu_up m102 a0 72 x5 = m103
                have hIm103 := zi_up hmm103 hIm102 hc0 zb_28_72 (by omega) (by omega)
                have hFm103 := zfr_up hmm103 hFm102 hc0 rfl
                have hLm103 := zs2_ne hmm103 hLm102 hc0 (by decide)
                have hRKNm103 := zR_KN_fr (zdis_fr (zfr_up hmm103 (zfr_rf [(28, 73)] _) hc0 rfl) rfl) hRKNm102
                have hRLTm103 := zR_LT_fr (zdis_fr (zfr_up hmm103 (zfr_rf [(28, 73)] _) hc0 rfl) rfl) hRLTm102
                have hRS1m103 := zR_S1_fr (zdis_fr (zfr_up hmm103 (zfr_rf [(28, 73)] _) hc0 rfl) rfl) hRS1m102
                have hRSEm103 := zR_SE_fr (zdis_fr (zfr_up hmm103 (zfr_rf [(28, 73)] _) hc0 rfl) rfl) hRSEm102
                generalize hmm104 : zu_up m103 a0 73 x6 = m104
                have hIm104 := zi_up hmm104 hIm103 hc0 zb_28_73 (by omega) (by omega)
                have hFm104 := zfr_up hmm104 hFm103 hc0 rfl
                have hLm104 := zs2_ne hmm104 hLm103 hc0 (by decide)
                have hRKNm104 := zR_KN_fr (zdis_fr (zfr_up hmm104 (zfr_rf [(28, 74)] _) hc0 rfl) rfl) hRKNm103
                have hRLTm104 := zR_LT_fr (zdis_fr (zfr_up hmm104 (zfr_rf [(28, 74)] _) hc0 rfl) rfl) hRLTm103
                have hRS1m104 := zR_S1_fr (zdis_fr (zfr_up hmm104 (zfr_rf [(28, 74)] _) hc0 rfl) rfl) hRS1m103
                have hRSEm104 := zR_SE_fr (zdis_fr (zfr_up hmm104 (zfr_rf [(28, 74)] _) hc0 rfl) rfl) hRSEm103
                have w105 := zu_w32_id (z := x6 + 1) (by omega) (by omega)
                have hM : (48 - (zu_w32 (x6 + 1))) * 1 + (48 - x5) * 49 + 0 < (k : Int) := by omega
                exact zw_le (zu_forget (zu_lr_same (zu_lr_same (zu_lr_same (zu_lr_same (zu_lr_same (zu_lr_same (zu_lr_same (zu_lr_drop zu_lr_nil))))))))) (ih.2 x5 (zu_w32 (x6 + 1)) m104 hIm104 hFm104 hLm104 ⟨by omega, by omega⟩ ⟨by omega, by omega⟩ ⟨by omega, by omega⟩ ⟨by omega, by omega⟩ ⟨by omega, by omega⟩ ⟨by omega, by omega⟩ hRKNm104 hRLTm104 hRSEm104 hM)
              · have w106 := zu_w32_id (z := x6 + 1) (by omega) (by omega)
                have hM : (48 - (zu_w32 (x6 + 1))) * 1 + (48 - x5) * 49 + 0 < (k : Int) := by omega
                exact zw_le (zu_forget (zu_lr_same (zu_lr_same (zu_lr_same (zu_lr_same (zu_lr_same (zu_lr_same (zu_lr_same (zu_lr_drop zu_lr_nil))))))))) (ih.2 x5 (zu_w32 (x6 + 1)) m93 hIm93 hFm93 hLm93 ⟨by omega, by omega⟩ ⟨by omega, by omega⟩ ⟨by omega, by omega⟩ ⟨by omega, by omega⟩ ⟨by omega, by omega⟩ ⟨by omega, by omega⟩ hRKNm93 hRLTm93 hRSEm93 hM)
          · exfalso; omega
set_option maxHeartbeats 4000000 in
theorem zl_160k (n : Nat) {a0 a1 a2 a3 a4 : Int} {m0 : zu_m} (hc0 : zcls a0 = 28)   : ∀ k : Nat, (∀ (x5 : Int) (mh : zu_m), zi_I mh → zfr [(28, 54), (28, 64), (28, 65), (28, 66), (28, 67), (28, 68), (28, 69), (28, 70), (28, 72), (28, 73), (28, 74), (106, 0), (107, 0), (108, 0), (122, 0), (123, 0), (124, 0), (125, 2), (126, 0), (127, 0), (128, 0), (129, 0), (130, 0), (131, 0)] m0 mh → zs2 m0 mh → (1 ≤ a1 ∧ a1 ≤ 2) → (0 ≤ a2 ∧ a2 ≤ 3) → (0 ≤ a3 ∧ a3 ≤ 9) → (1 ≤ a4 ∧ a4 ≤ 40) → (0 ≤ x5 ∧ x5 ≤ 48) → (zR_KN mh) → (zR_LT mh) → (zE1 mh 0) → (48 - x5) * 49 + 48 < (k : Int) → zw (zu_ex (zt_T n) 160 8 [(40, a0), (0, a1), (0, a2), (0, a3), (0, a4), (0, x5), (2, 0), (2, 0)] [] mh) (fun v m => zi_I m ∧ zfr [(28, 54), (28, 64), (28, 65), (28, 66), (28, 67), (28, 68), (28, 69), (28, 70), (28, 72), (28, 73), (28, 74), (106, 0), (107, 0), (108, 0), (122, 0), (123, 0), (124, 0), (125, 2), (126, 0), (127, 0), (128, 0), (129, 0), (130, 0), (131, 0)] m0 m ∧ zs2 m0 m ∧ zR_KN m ∧ zR_LT m ∧ zE1 m 0 ∧ True)) ∧ (∀ (x5 x6 : Int) (mh : zu_m), zi_I mh → zfr [(28, 54), (28, 64), (28, 65), (28, 66), (28, 67), (28, 68), (28, 69), (28, 70), (28, 72), (28, 73), (28, 74), (106, 0), (107, 0), (108, 0), (122, 0), (123, 0), (124, 0), (125, 2), (126, 0), (127, 0), (128, 0), (129, 0), (130, 0), (131, 0)] m0 mh → zs2 m0 mh → (1 ≤ a1 ∧ a1 ≤ 2) → (0 ≤ a2 ∧ a2 ≤ 3) → (0 ≤ a3 ∧ a3 ≤ 9) → (1 ≤ a4 ∧ a4 ≤ 40) → (0 ≤ x5 ∧ x5 ≤ 47) → (1 ≤ x6 ∧ x6 ≤ 48) → (zR_KN mh) → (zR_LT mh) → (zE1 mh 0) → (48 - x6) * 1 + (48 - x5) * 49 + 0 < (k : Int) → zw (zu_ex (zt_T n) 160 33 [(40, a0), (0, a1), (0, a2), (0, a3), (0, a4), (0, x5), (0, x6), (2, 0)] [] mh) (fun v m => zi_I m ∧ zfr [(28, 54), (28, 64), (28, 65), (28, 66), (28, 67), (28, 68), (28, 69), (28, 70), (28, 72), (28, 73), (28, 74), (106, 0), (107, 0), (108, 0), (122, 0), (123, 0), (124, 0), (125, 2), (126, 0), (127, 0), (128, 0), (129, 0), (130, 0), (131, 0)] m0 m ∧ zs2 m0 m ∧ zR_KN m ∧ zR_LT m ∧ zE1 m 0 ∧ True)) := by
  intro k
  induction k with
  | zero => exact ⟨fun x5 mh hImh hFmh hLmh hba1 hba2 hba3 hba4 hbx5 hRKNmh hRLTmh hRSEmh hM => by exfalso; omega, fun x5 x6 mh hImh hFmh hLmh hba1 hba2 hba3 hba4 hbx5 hbx6 hRKNmh hRLTmh hRSEmh hM => by exfalso; omega⟩
  | succ k ih => exact ⟨zl_160H0k n (m0 := m0) hc0 k ih, zl_160H1k n (m0 := m0) hc0 k ih⟩
set_option maxHeartbeats 4000000 in
theorem zk_160k (n : Nat) {a0 a1 a2 a3 a4 : Int} {m0 : zu_m} (hIm0 : zi_I m0) (hc0 : zcls a0 = 28) (ha1 : 1 ≤ a1 ∧ a1 ≤ 2) (ha2 : 0 ≤ a2 ∧ a2 ≤ 3) (ha3 : 0 ≤ a3 ∧ a3 ≤ 9) (ha4 : 1 ≤ a4 ∧ a4 ≤ 40)    (hRKNm0 : zR_KN m0) (hRLTm0 : zR_LT m0) (hRSEm0 : zE1 m0 0) : zw (zu_call (zt_T n) 160 [(40, a0), (0, a1), (0, a2), (0, a3), (0, a4)] m0) (fun v m => zi_I m ∧ zfr [(28, 54), (28, 64), (28, 65), (28, 66), (28, 67), (28, 68), (28, 69), (28, 70), (28, 72), (28, 73), (28, 74), (106, 0), (107, 0), (108, 0), (122, 0), (123, 0), (124, 0), (125, 2), (126, 0), (127, 0), (128, 0), (129, 0), (130, 0), (131, 0)] m0 m ∧ zs2 m0 m ∧ zR_KN m ∧ zR_LT m ∧ zE1 m 0 ∧ True) := by
  have hFm0 : zfr [(28, 54), (28, 64), (28, 65), (28, 66), (28, 67), (28, 68), (28, 69), (28, 70), (28, 72), (28, 73), (28, 74), (106, 0), (107, 0), (108, 0), (122, 0), (123, 0), (124, 0), (125, 2), (126, 0), (127, 0), (128, 0), (129, 0), (130, 0), (131, 0)] m0 m0 := zfr_rf _ _
  have hLm0 : zs2 m0 m0 := rfl
  refine zw_eq (zu_call_at (zt_T n) (zm_160 n) (zdp_160 n) _ _ _ _ _ rfl (zr_160_0 n _ _ a0 a1 a2 a3 a4 m0)) ?_
  generalize hmm107 : zu_up m0 a0 71 (-1) = m107
  have hIm107 := zi_up hmm107 hIm0 hc0 zb_28_71 (by omega) (by omega)
  have hFm107 := zfr_up hmm107 hFm0 hc0 rfl
  have hLm107 := zs2_ne hmm107 hLm0 hc0 (by decide)
  have hRKNm107 := zR_KN_fr (zdis_fr (zfr_up hmm107 (zfr_rf [(28, 72)] _) hc0 rfl) rfl) hRKNm0
  have hRLTm107 := zR_LT_fr (zdis_fr (zfr_up hmm107 (zfr_rf [(28, 72)] _) hc0 rfl) rfl) hRLTm0
  have hRSEm107 := zR_SE_fr (zdis_fr (zfr_up hmm107 (zfr_rf [(28, 72)] _) hc0 rfl) rfl) hRSEm0
  have hM : (48 - 0) * 49 + 48 < ((2401 : Nat) : Int) := by omega
  exact (zl_160k n (m0 := m0) hc0 2401).1 0 m107 hIm107 hFm107 hLm107 ⟨by omega, by omega⟩ ⟨by omega, by omega⟩ ⟨by omega, by omega⟩ ⟨by omega, by omega⟩ ⟨by omega, by omega⟩ hRKNm107 hRLTm107 hRSEm107 hM
set_option maxHeartbeats 4000000 in
theorem zk_161k (n : Nat) {a0 a1 a2 a3 a4 a5 : Int} {m0 : zu_m} (hIm0 : zi_I m0) (hc0 : zcls a0 = 28) (ha1 : (-2147483648) ≤ a1 ∧ a1 ≤ 2147483647) (ha2 : (-2147483648) ≤ a2 ∧ a2 ≤ 2147483647) (ha3 : (-2147483648) ≤ a3 ∧ a3 ≤ 2147483647) (ha4 : (-2147483648) ≤ a4 ∧ a4 ≤ 2147483647) (ha5 : (-2147483648) ≤ a5 ∧ a5 ≤ 2147483647)    (hRKNm0 : zR_KN m0) (hRLTm0 : zR_LT m0) (hRSEm0 : zE1 m0 0) : zw (zu_call (zt_T n) 161 [(40, a0), (0, a1), (0, a2), (0, a3), (0, a4), (0, a5)] m0) (fun v m => zi_I m ∧ zfr [(28, 3), (28, 54), (28, 64), (28, 65), (28, 66), (28, 67), (28, 68), (28, 69), (28, 70), (28, 72), (28, 73), (28, 74), (106, 0), (107, 0), (108, 0), (122, 0), (123, 0), (124, 0), (125, 2), (126, 0), (127, 0), (128, 0), (129, 0), (130, 0), (131, 0)] m0 m ∧ zs2 m0 m ∧ zR_KN m ∧ zR_LT m ∧ zE1 m 0 ∧ ((-2147483648) ≤ v ∧ v ≤ 2147483647) ∧ (0 ≤ m a0 2 ∧ m a0 2 ≤ 0)) := by
  have hFm0 : zfr [(28, 3), (28, 54), (28, 64), (28, 65), (28, 66), (28, 67), (28, 68), (28, 69), (28, 70), (28, 72), (28, 73), (28, 74), (106, 0), (107, 0), (108, 0), (122, 0), (123, 0), (124, 0), (125, 2), (126, 0), (127, 0), (128, 0), (129, 0), (130, 0), (131, 0)] m0 m0 := zfr_rf _ _
  have hLm0 : zs2 m0 m0 := rfl
  refine zw_eq (zu_call_at (zt_T n) (zm_161 n) (zdp_161 n) _ _ _ _ _ rfl (zr_161_0 n _ _ a0 a1 a2 a3 a4 a5 m0)) ?_
  generalize hmm1 : zu_up m0 a0 2 0 = m1
  have hIm1 := zi_up hmm1 hIm0 hc0 zb_28_2 (by omega) (by omega)
  have hFm1 := zfr_up hmm1 hFm0 hc0 rfl
  have hLm1 := zs2_ne hmm1 hLm0 hc0 (by decide)
  have hRKNm1 := zR_KN_fr (zdis_fr (zfr_up hmm1 (zfr_rf [(28, 3)] _) hc0 rfl) rfl) hRKNm0
  have hRLTm1 := zR_LT_fr (zdis_fr (zfr_up hmm1 (zfr_rf [(28, 3)] _) hc0 rfl) rfl) hRLTm0
  have hRSEm1 := zR_SE_fr (zdis_fr (zfr_up hmm1 (zfr_rf [(28, 3)] _) hc0 rfl) rfl) hRSEm0
  refine zw_bd (zw_eq (zu_call_at (zt_T n) (zm_83 n) (zdp_83 n) _ _ _ _ _ rfl (zr_83_0 n _ _ a1 1 2 m1)) ?_)
  refine zw_ite (fun h2 => ?_) (fun h2 => ?_)
  · refine zw_b (by omega) ?_
    refine zw_some ?_
    refine zw_ite (fun h3 => ?_) (fun h3 => ?_)
    · have r4 : (-2147483648) ≤ (m1 a0 2) ∧ (m1 a0 2) ≤ 2147483647 := zi_rd hIm1 hc0 zb_28_2
      have e5 : (m1 a0 2) = 0 := (zs_eq hmm1)
      exact zw_some ⟨hIm1, hFm1, hLm1, hRKNm1, hRLTm1, hRSEm1, ⟨by decide, by decide⟩, ⟨by omega, by omega⟩⟩
    · exfalso; omega
  · refine zw_ite (fun h6 => ?_) (fun h6 => ?_)
    · refine zw_b (by omega) ?_
      refine zw_some ?_
      refine zw_ite (fun h7 => ?_) (fun h7 => ?_)
      · have r8 : (-2147483648) ≤ (m1 a0 2) ∧ (m1 a0 2) ≤ 2147483647 := zi_rd hIm1 hc0 zb_28_2
        have e9 : (m1 a0 2) = 0 := (zs_eq hmm1)
        exact zw_some ⟨hIm1, hFm1, hLm1, hRKNm1, hRLTm1, hRSEm1, ⟨by decide, by decide⟩, ⟨by omega, by omega⟩⟩
      · exfalso; omega
    · refine zw_b (by omega) ?_
      refine zw_some ?_
      refine zw_ite (fun h10 => ?_) (fun h10 => ?_)
      · exfalso; omega
      · refine zw_bd (zw_eq (zu_call_at (zt_T n) (zm_83 n) (zdp_83 n) _ _ _ _ _ rfl (zr_83_0 n _ _ a2 0 3 m1)) ?_)
        refine zw_ite (fun h11 => ?_) (fun h11 => ?_)
        · refine zw_b (by omega) ?_
          refine zw_some ?_
          refine zw_ite (fun h12 => ?_) (fun h12 => ?_)
          · have r13 : (-2147483648) ≤ (m1 a0 2) ∧ (m1 a0 2) ≤ 2147483647 := zi_rd hIm1 hc0 zb_28_2
            have e14 : (m1 a0 2) = 0 := (zs_eq hmm1)
            exact zw_some ⟨hIm1, hFm1, hLm1, hRKNm1, hRLTm1, hRSEm1, ⟨by decide, by decide⟩, ⟨by omega, by omega⟩⟩
          · exfalso; omega
        · refine zw_ite (fun h15 => ?_) (fun h15 => ?_)
          · refine zw_b (by omega) ?_
            refine zw_some ?_
            refine zw_ite (fun h16 => ?_) (fun h16 => ?_)
            · have r17 : (-2147483648) ≤ (m1 a0 2) ∧ (m1 a0 2) ≤ 2147483647 := zi_rd hIm1 hc0 zb_28_2
              have e18 : (m1 a0 2) = 0 := (zs_eq hmm1)
              exact zw_some ⟨hIm1, hFm1, hLm1, hRKNm1, hRLTm1, hRSEm1, ⟨by decide, by decide⟩, ⟨by omega, by omega⟩⟩
            · exfalso; omega
          · refine zw_b (by omega) ?_
            refine zw_some ?_
            refine zw_ite (fun h19 => ?_) (fun h19 => ?_)
            · exfalso; omega
            · refine zw_bd (zw_eq (zu_call_at (zt_T n) (zm_83 n) (zdp_83 n) _ _ _ _ _ rfl (zr_83_0 n _ _ a3 0 9 m1)) ?_)
              refine zw_ite (fun h20 => ?_) (fun h20 => ?_)
              · refine zw_b (by omega) ?_
                refine zw_some ?_
                refine zw_ite (fun h21 => ?_) (fun h21 => ?_)
                · have r22 : (-2147483648) ≤ (m1 a0 2) ∧ (m1 a0 2) ≤ 2147483647 := zi_rd hIm1 hc0 zb_28_2
                  have e23 : (m1 a0 2) = 0 := (zs_eq hmm1)
                  exact zw_some ⟨hIm1, hFm1, hLm1, hRKNm1, hRLTm1, hRSEm1, ⟨by decide, by decide⟩, ⟨by omega, by omega⟩⟩
                · exfalso; omega
              · refine zw_ite (fun h24 => ?_) (fun h24 => ?_)
                · refine zw_b (by omega) ?_
                  refine zw_some ?_
                  refine zw_ite (fun h25 => ?_) (fun h25 => ?_)
                  · have r26 : (-2147483648) ≤ (m1 a0 2) ∧ (m1 a0 2) ≤ 2147483647 := zi_rd hIm1 hc0 zb_28_2
                    have e27 : (m1 a0 2) = 0 := (zs_eq hmm1)
                    exact zw_some ⟨hIm1, hFm1, hLm1, hRKNm1, hRLTm1, hRSEm1, ⟨by decide, by decide⟩, ⟨by omega, by omega⟩⟩
                  · exfalso; omega
                · refine zw_b (by omega) ?_
                  refine zw_some ?_
                  refine zw_ite (fun h28 => ?_) (fun h28 => ?_)
                  · exfalso; omega
                  · refine zw_bd (zw_eq (zu_call_at (zt_T n) (zm_83 n) (zdp_83 n) _ _ _ _ _ rfl (zr_83_0 n _ _ a4 1 40 m1)) ?_)
                    refine zw_ite (fun h29 => ?_) (fun h29 => ?_)
                    · refine zw_b (by omega) ?_
                      refine zw_some ?_
                      refine zw_ite (fun h30 => ?_) (fun h30 => ?_)
                      · have r31 : (-2147483648) ≤ (m1 a0 2) ∧ (m1 a0 2) ≤ 2147483647 := zi_rd hIm1 hc0 zb_28_2
                        have e32 : (m1 a0 2) = 0 := (zs_eq hmm1)
                        exact zw_some ⟨hIm1, hFm1, hLm1, hRKNm1, hRLTm1, hRSEm1, ⟨by decide, by decide⟩, ⟨by omega, by omega⟩⟩
                      · exfalso; omega
                    · refine zw_ite (fun h33 => ?_) (fun h33 => ?_)
                      · refine zw_b (by omega) ?_
                        refine zw_some ?_
                        refine zw_ite (fun h34 => ?_) (fun h34 => ?_)
                        · have r35 : (-2147483648) ≤ (m1 a0 2) ∧ (m1 a0 2) ≤ 2147483647 := zi_rd hIm1 hc0 zb_28_2
                          have e36 : (m1 a0 2) = 0 := (zs_eq hmm1)
                          exact zw_some ⟨hIm1, hFm1, hLm1, hRKNm1, hRLTm1, hRSEm1, ⟨by decide, by decide⟩, ⟨by omega, by omega⟩⟩
                        · exfalso; omega
                      · refine zw_b (by omega) ?_
                        refine zw_some ?_
                        refine zw_ite (fun h37 => ?_) (fun h37 => ?_)
                        · exfalso; omega
                        · refine zw_bd (zw_eq (zu_call_at (zt_T n) (zm_83 n) (zdp_83 n) _ _ _ _ _ rfl (zr_83_0 n _ _ a5 0 2 m1)) ?_)
                          refine zw_ite (fun h38 => ?_) (fun h38 => ?_)
                          · refine zw_b (by omega) ?_
                            refine zw_some ?_
                            refine zw_ite (fun h39 => ?_) (fun h39 => ?_)
                            · have r40 : (-2147483648) ≤ (m1 a0 2) ∧ (m1 a0 2) ≤ 2147483647 := zi_rd hIm1 hc0 zb_28_2
                              have e41 : (m1 a0 2) = 0 := (zs_eq hmm1)
                              exact zw_some ⟨hIm1, hFm1, hLm1, hRKNm1, hRLTm1, hRSEm1, ⟨by decide, by decide⟩, ⟨by omega, by omega⟩⟩
                            · exfalso; omega
                          · refine zw_ite (fun h42 => ?_) (fun h42 => ?_)
                            · refine zw_b (by omega) ?_
                              refine zw_some ?_
                              refine zw_ite (fun h43 => ?_) (fun h43 => ?_)
                              · have r44 : (-2147483648) ≤ (m1 a0 2) ∧ (m1 a0 2) ≤ 2147483647 := zi_rd hIm1 hc0 zb_28_2
                                have e45 : (m1 a0 2) = 0 := (zs_eq hmm1)
                                exact zw_some ⟨hIm1, hFm1, hLm1, hRKNm1, hRLTm1, hRSEm1, ⟨by decide, by decide⟩, ⟨by omega, by omega⟩⟩
                              · exfalso; omega
                            · refine zw_b (by omega) ?_
                              refine zw_some ?_
                              refine zw_ite (fun h46 => ?_) (fun h46 => ?_)
                              · exfalso; omega
                              · have r47 : 0 ≤ (m1 a0 15) ∧ (m1 a0 15) ≤ 4 := zi_rd hIm1 hc0 zb_28_15
                                refine zw_ite (fun h48 => ?_) (fun h48 => ?_)
                                · refine zw_bd (zw_eq (zu_call_at (zt_T n) (zm_36 n) (zdp_36 n) _ _ _ _ _ rfl (zr_36_0 n _ _ a0 m1)) ?_)
                                  have r49 : 1 ≤ (m1 a0 12) ∧ (m1 a0 12) ≤ 8 := zi_rd hIm1 hc0 zb_28_12
                                  have r50 : 1 ≤ (m1 a0 13) ∧ (m1 a0 13) ≤ 6 := zi_rd hIm1 hc0 zb_28_13
                                  have p51 := zmul_bd (x := (m1 a0 12)) (y := (m1 a0 13)) (a := 1) (b := 1) (A := 8) (B := 6) (by omega) (by omega) (by omega) (by omega) (by omega) (by omega)
                                  have w52 := zu_w32_id (z := (m1 a0 12) * (m1 a0 13)) (by omega) (by omega)
                                  refine zw_some ?_
                                  refine zw_ite (fun h53 => ?_) (fun h53 => ?_)
                                  · refine zw_ite (fun h54 => ?_) (fun h54 => ?_)
                                    · refine zw_bd (zw_mono (zk_160k n hIm1 hc0 ⟨by omega, by omega⟩ ⟨by omega, by omega⟩ ⟨by omega, by omega⟩ ⟨by omega, by omega⟩ hRKNm1 hRLTm1 hRSEm1) (fun v56 m55 hqm55 => ?_))
                                      obtain ⟨hIm55, hfm55, hlm55, hvm55⟩ := hqm55
                                      have hFm55 := zfr_tr hFm1 hfm55 rfl
                                      have hLm55 := zs2_go hLm1 hlm55
                                      obtain ⟨hRKNm55, hRLTm55, hRSEm55, hvm55⟩ := hvm55
                                      refine zw_ite (fun h57 => ?_) (fun h57 => ?_)
                                      · refine zw_ite (fun h58 => ?_) (fun h58 => ?_)
                                        · have r59 : (-2147483648) ≤ (m55 a0 73) ∧ (m55 a0 73) ≤ 2147483647 := zi_rd hIm55 hc0 zb_28_73
                                          have r60 : (-2147483648) ≤ (m55 a0 2) ∧ (m55 a0 2) ≤ 2147483647 := zi_rd hIm55 hc0 zb_28_2
                                          have e61 : (m55 a0 2) = 0 := (Eq.trans (zfr_ap hfm55 hc0 rfl) (zs_eq hmm1))
                                          exact zw_some ⟨hIm55, hFm55, hLm55, hRKNm55, hRLTm55, hRSEm55, ⟨by omega, by omega⟩, ⟨by omega, by omega⟩⟩
                                        · have r62 : (-2147483648) ≤ (m55 a0 72) ∧ (m55 a0 72) ≤ 2147483647 := zi_rd hIm55 hc0 zb_28_72
                                          have r63 : (-2147483648) ≤ (m55 a0 2) ∧ (m55 a0 2) ≤ 2147483647 := zi_rd hIm55 hc0 zb_28_2
                                          have e64 : (m55 a0 2) = 0 := (Eq.trans (zfr_ap hfm55 hc0 rfl) (zs_eq hmm1))
                                          exact zw_some ⟨hIm55, hFm55, hLm55, hRKNm55, hRLTm55, hRSEm55, ⟨by omega, by omega⟩, ⟨by omega, by omega⟩⟩
                                      · have r65 : (-2147483648) ≤ (m55 a0 71) ∧ (m55 a0 71) ≤ 2147483647 := zi_rd hIm55 hc0 zb_28_71
                                        have r66 : (-2147483648) ≤ (m55 a0 2) ∧ (m55 a0 2) ≤ 2147483647 := zi_rd hIm55 hc0 zb_28_2
                                        have e67 : (m55 a0 2) = 0 := (Eq.trans (zfr_ap hfm55 hc0 rfl) (zs_eq hmm1))
                                        exact zw_some ⟨hIm55, hFm55, hLm55, hRKNm55, hRLTm55, hRSEm55, ⟨by omega, by omega⟩, ⟨by omega, by omega⟩⟩
                                    · have r68 : (-2147483648) ≤ (m1 a0 2) ∧ (m1 a0 2) ≤ 2147483647 := zi_rd hIm1 hc0 zb_28_2
                                      have e69 : (m1 a0 2) = 0 := (zs_eq hmm1)
                                      exact zw_some ⟨hIm1, hFm1, hLm1, hRKNm1, hRLTm1, hRSEm1, ⟨by decide, by decide⟩, ⟨by omega, by omega⟩⟩
                                  · have r70 : (-2147483648) ≤ (m1 a0 2) ∧ (m1 a0 2) ≤ 2147483647 := zi_rd hIm1 hc0 zb_28_2
                                    have e71 : (m1 a0 2) = 0 := (zs_eq hmm1)
                                    exact zw_some ⟨hIm1, hFm1, hLm1, hRKNm1, hRLTm1, hRSEm1, ⟨by decide, by decide⟩, ⟨by omega, by omega⟩⟩
                                · have r72 : (-2147483648) ≤ (m1 a0 2) ∧ (m1 a0 2) ≤ 2147483647 := zi_rd hIm1 hc0 zb_28_2
                                  have e73 : (m1 a0 2) = 0 := (zs_eq hmm1)
                                  exact zw_some ⟨hIm1, hFm1, hLm1, hRKNm1, hRLTm1, hRSEm1, ⟨by decide, by decide⟩, ⟨by omega, by omega⟩⟩
set_option maxHeartbeats 4000000 in
theorem zl_162k (n : Nat) {a0 a1 a2 : Int} {m0 : zu_m} (hc0 : zcls a0 = 28)   : ∀ k : Nat, (∀ (x3 x4 : Int) (mh : zu_m), zi_I mh → zfr [(28, 3), (28, 54), (28, 64), (28, 65), (28, 66), (28, 67), (28, 68), (28, 69), (28, 70), (122, 0), (123, 0), (124, 0), (125, 2), (126, 0), (127, 0), (128, 0), (129, 0), (130, 0), (131, 0)] m0 mh → zs2 m0 mh → (1 ≤ a1 ∧ a1 ≤ 200) → (0 ≤ a2 ∧ a2 ≤ 1) → (0 ≤ x3 ∧ x3 ≤ 3) → (1 ≤ x4 ∧ x4 ≤ 4) → (1 ≤ mh a0 15 ∧ mh a0 15 ≤ 4) → (0 ≤ mh a0 2 ∧ mh a0 2 ≤ 0) → (zR_KN mh) → (zR_LT mh) → (zE1 mh 0) → (4 - x4) * 1 + 32 < (k : Int) → zw (zu_ex (zt_T n) 162 39 [(40, a0), (0, a1), (0, a2), (0, x3), (0, x4), (2, 0), (2, 0), (2, 0)] [] mh) (fun v m => zi_I m ∧ zfr [(28, 3), (28, 54), (28, 64), (28, 65), (28, 66), (28, 67), (28, 68), (28, 69), (28, 70), (122, 0), (123, 0), (124, 0), (125, 2), (126, 0), (127, 0), (128, 0), (129, 0), (130, 0), (131, 0)] m0 m ∧ zs2 m0 m ∧ zR_KN m ∧ zR_LT m ∧ zE1 m 0 ∧ ((-2147483648) ≤ v ∧ v ≤ 2147483647) ∧ (0 ≤ m a0 2 ∧ m a0 2 ≤ 0))) ∧ (∀ (x3 x4 x5 x6 : Int) (mh : zu_m), zi_I mh → zfr [(28, 3), (28, 54), (28, 64), (28, 65), (28, 66), (28, 67), (28, 68), (28, 69), (28, 70), (122, 0), (123, 0), (124, 0), (125, 2), (126, 0), (127, 0), (128, 0), (129, 0), (130, 0), (131, 0)] m0 mh → zs2 m0 mh → (1 ≤ a1 ∧ a1 ≤ 200) → (0 ≤ a2 ∧ a2 ≤ 1) → (0 ≤ x3 ∧ x3 ≤ 3) → (0 ≤ x4 ∧ x4 ≤ 30) → ((-2147483648) ≤ x5 ∧ x5 ≤ 2147483647) → (0 ≤ x6 ∧ x6 ≤ 31) → (1 ≤ mh a0 15 ∧ mh a0 15 ≤ 4) → (0 ≤ mh a0 2 ∧ mh a0 2 ≤ 0) → (zR_KN mh) → (zR_LT mh) → (zE1 mh 0) → (31 - x6) * 1 + 0 < (k : Int) → zw (zu_ex (zt_T n) 162 86 [(40, a0), (0, a1), (0, a2), (0, x3), (0, x4), (0, x5), (0, x6), (2, 0)] [] mh) (fun v m => zi_I m ∧ zfr [(28, 3), (28, 54), (28, 64), (28, 65), (28, 66), (28, 67), (28, 68), (28, 69), (28, 70), (122, 0), (123, 0), (124, 0), (125, 2), (126, 0), (127, 0), (128, 0), (129, 0), (130, 0), (131, 0)] m0 m ∧ zs2 m0 m ∧ zR_KN m ∧ zR_LT m ∧ zE1 m 0 ∧ ((-2147483648) ≤ v ∧ v ≤ 2147483647) ∧ (0 ≤ m a0 2 ∧ m a0 2 ≤ 0))) := by
  intro k
  induction k with
  | zero => exact ⟨fun x3 x4 mh hImh hFmh hLmh hba1 hba2 hbx3 hbx4 hg4 hg5 hRKNmh hRLTmh hRSEmh hM => by exfalso; omega, fun x3 x4 x5 x6 mh hImh hFmh hLmh hba1 hba2 hbx3 hbx4 hbx5 hbx6 hg6 hg7 hRKNmh hRLTmh hRSEmh hM => by exfalso; omega⟩
  | succ k ih =>
    refine ⟨?_, ?_⟩
    · intro x3 x4 mh hImh hFmh hLmh hba1 hba2 hbx3 hbx4 hg4 hg5 hRKNmh hRLTmh hRSEmh hM
      refine zw_eq (zu_rega_at (zt_T n) (zm_162 n) (zdp_162 n) _ _ _ _ _ _ (zr_162_39 n _ _ a0 a1 a2 x3 x4 mh)) ?_
      refine zw_ite (fun h1 => ?_) (fun h1 => ?_)
      · have hM : (31 - 0) * 1 + 0 < (k : Int) := by omega
        exact ih.2 x3 0 (-1) 0 mh hImh hFmh hLmh ⟨by omega, by omega⟩ ⟨by omega, by omega⟩ ⟨by omega, by omega⟩ ⟨by omega, by omega⟩ ⟨by omega, by omega⟩ ⟨by omega, by omega⟩ ⟨by omega, by omega⟩ ⟨by omega, by omega⟩ hRKNmh hRLTmh hRSEmh hM
      · have b2 : 0 ≤ x4 ∧ x4 < 8 := by omega
        refine zw_if b2 ?_
        have r3 : 0 ≤ (mh 202 x4) ∧ (mh 202 x4) ≤ 15 := zi_rd hImh zq_202 (zb_111 _)
        have b4 : 0 ≤ x3 ∧ x3 < 8 := by omega
        refine zw_if b4 ?_
        have r5 : 0 ≤ (mh 202 x3) ∧ (mh 202 x3) ≤ 15 := zi_rd hImh zq_202 (zb_111 _)
        refine zw_ite (fun h6 => ?_) (fun h6 => ?_)
        · have w7 := zu_w32_id (z := x4 + 1) (by omega) (by omega)
          have hM : (4 - (zu_w32 (x4 + 1))) * 1 + 32 < (k : Int) := by omega
          exact ih.1 x3 (zu_w32 (x4 + 1)) mh hImh hFmh hLmh ⟨by omega, by omega⟩ ⟨by omega, by omega⟩ ⟨by omega, by omega⟩ ⟨by omega, by omega⟩ ⟨by omega, by omega⟩ ⟨by omega, by omega⟩ hRKNmh hRLTmh hRSEmh hM
        · have w8 := zu_w32_id (z := x4 + 1) (by omega) (by omega)
          have hM : (4 - (zu_w32 (x4 + 1))) * 1 + 32 < (k : Int) := by omega
          exact ih.1 x4 (zu_w32 (x4 + 1)) mh hImh hFmh hLmh ⟨by omega, by omega⟩ ⟨by omega, by omega⟩ ⟨by omega, by omega⟩ ⟨by omega, by omega⟩ ⟨by omega, by omega⟩ ⟨by omega, by omega⟩ hRKNmh hRLTmh hRSEmh hM
    · intro x3 x4 x5 x6 mh hImh hFmh hLmh hba1 hba2 hbx3 hbx4 hbx5 hbx6 hg6 hg7 hRKNmh hRLTmh hRSEmh hM
      refine zw_eq (zu_rega_at (zt_T n) (zm_162 n) (zdp_162 n) _ _ _ _ _ _ (zr_162_86 n _ _ a0 a1 a2 x3 x4 x5 x6 mh)) ?_
      refine zw_ite (fun h9 => ?_) (fun h9 => ?_)
      · refine zw_ite (fun h10 => ?_) (fun h10 => ?_)
        · exact zw_some ⟨hImh, hFmh, hLmh, hRKNmh, hRLTmh, hRSEmh, ⟨by omega, by omega⟩, ⟨by omega, by omega⟩⟩
        · exact zw_some ⟨hImh, hFmh, hLmh, hRKNmh, hRLTmh, hRSEmh, ⟨by omega, by omega⟩, ⟨by omega, by omega⟩⟩
      · refine zw_bd (zw_mono (zk_126k n hImh hc0 hRSEmh) (fun v12 m11 hqm11 => ?_))
        obtain ⟨hIm11, hfm11, hlm11, hvm11⟩ := hqm11
        have hFm11 := zfr_tr hFmh hfm11 rfl
        have hLm11 := zs2_go hLmh hlm11
        obtain ⟨hRS1m11, hRSEm11, hvm11⟩ := hvm11
        have hRKNm11 := zR_KN_fr (zdis_fr hfm11 rfl) hRKNmh
        have hRLTm11 := zR_LT_fr (zdis_fr hfm11 rfl) hRLTmh
        have w13 := zu_w32_id (z := 4 + x3) (by omega) (by omega)
        have b14 : 0 ≤ (zu_w32 (4 + x3)) ∧ (zu_w32 (4 + x3)) < 8 := by omega
        refine zw_if b14 ?_
        have r15 : (-2147483648) ≤ (m11 218 (zu_w32 (4 + x3))) ∧ (m11 218 (zu_w32 (4 + x3))) ≤ 2147483647 := zi_rd hIm11 zq_218 (zb_127 _)
        have w16 := zu_w32_rg ((m11 218 (zu_w32 (4 + x3))) + x6)
        have b17 : 0 ≤ (zu_w32 (4 + x3)) ∧ (zu_w32 (4 + x3)) < 8 := by omega
        refine zw_if b17 ?_
        generalize hmm18 : zu_up m11 218 (zu_w32 (4 + x3)) (zu_w32 ((m11 218 (zu_w32 (4 + x3))) + x6)) = m18
        have hIm18 := zi_up hmm18 hIm11 zq_218 (zb_127 _) (by omega) (by omega)
        have hFm18 := zfr_up hmm18 hFm11 zq_218 rfl
        have hLm18 := zs2_ne hmm18 hLm11 zq_218 (by decide)
        have hRKNm18 := zR_KN_fr (zdis_fr (zfr_up hmm18 (zfr_rf [(127, 0)] _) zq_218 rfl) rfl) hRKNm11
        have hRLTm18 := zR_LT_fr (zdis_fr (zfr_up hmm18 (zfr_rf [(127, 0)] _) zq_218 rfl) rfl) hRLTm11
        have hRS1m18 := zR_S1_fr (zdis_fr (zfr_up hmm18 (zfr_rf [(127, 0)] _) zq_218 rfl) rfl) hRS1m11
        have hRSEm18 := zR_SE_fr (zdis_fr (zfr_up hmm18 (zfr_rf [(127, 0)] _) zq_218 rfl) rfl) hRSEm11
        refine zw_bd (zw_mono (zk_159k n hIm18 hc0 ⟨by omega, by omega⟩ hRKNm18 hRLTm18 hRS1m18 hRSEm18) (fun v20 m19 hqm19 => ?_))
        obtain ⟨hIm19, hfm19, hlm19, hvm19⟩ := hqm19
        have hFm19 := zfr_tr hFm18 hfm19 rfl
        have hLm19 := zs2_go hLm18 hlm19
        obtain ⟨hRKNm19, hRLTm19, hRS1m19, hRSEm19, hvm19⟩ := hvm19
        refine zw_bd (zw_mono (zk_141 n hIm19 hc0 ⟨by decide, by decide⟩) (fun v22 m21 hqm21 => ?_))
        obtain ⟨hIm21, hfm21, hvm21⟩ := hqm21
        have hFm21 := zfr_tr hFm19 hfm21 rfl
        have hLm21 := zs2_tr hLm19 hfm21 rfl
        have hRKNm21 := zR_KN_fr (zdis_fr hfm21 rfl) hRKNm19
        have hRLTm21 := zR_LT_fr (zdis_fr hfm21 rfl) hRLTm19
        have hRS1m21 := zR_S1_fr (zdis_fr hfm21 rfl) hRS1m19
        have hRSEm21 := zR_SE_fr (zdis_fr hfm21 rfl) hRSEm19
        refine zw_ite (fun h23 => ?_) (fun h23 => ?_)
        · have w24 := zu_w32_id (z := x6 + 1) (by omega) (by omega)
          have r25 : (-2147483648) ≤ (m21 a0 2) ∧ (m21 a0 2) ≤ 2147483647 := zi_rd hIm21 hc0 zb_28_2
          have e26 : (m21 a0 2) = (mh a0 2) := (Eq.trans (zfr_ap hfm21 hc0 rfl) (Eq.trans (zfr_ap hfm19 hc0 rfl) (Eq.trans (zs_ne hmm18 (Or.inl (zc_ne hc0 zq_218 (by decide)))) (zfr_ap hfm11 hc0 rfl))))
          have r27 : 0 ≤ (m21 a0 15) ∧ (m21 a0 15) ≤ 4 := zi_rd hIm21 hc0 zb_28_15
          have e28 : (m21 a0 15) = (mh a0 15) := (Eq.trans (zfr_ap hfm21 hc0 rfl) (Eq.trans (zfr_ap hfm19 hc0 rfl) (Eq.trans (zs_ne hmm18 (Or.inl (zc_ne hc0 zq_218 (by decide)))) (zfr_ap hfm11 hc0 rfl))))
          have hM : (31 - (zu_w32 (x6 + 1))) * 1 + 0 < (k : Int) := by omega
          exact zw_le (zu_forget (zu_lr_same (zu_lr_same (zu_lr_same (zu_lr_same (zu_lr_same (zu_lr_same (zu_lr_same (zu_lr_drop zu_lr_nil))))))))) (ih.2 x3 x6 v22 (zu_w32 (x6 + 1)) m21 hIm21 hFm21 hLm21 ⟨by omega, by omega⟩ ⟨by omega, by omega⟩ ⟨by omega, by omega⟩ ⟨by omega, by omega⟩ ⟨by omega, by omega⟩ ⟨by omega, by omega⟩ ⟨by omega, by omega⟩ ⟨by omega, by omega⟩ hRKNm21 hRLTm21 hRSEm21 hM)
        · refine zw_ite (fun h29 => ?_) (fun h29 => ?_)
          · have w30 := zu_w32_id (z := x6 + 1) (by omega) (by omega)
            have r31 : (-2147483648) ≤ (m21 a0 2) ∧ (m21 a0 2) ≤ 2147483647 := zi_rd hIm21 hc0 zb_28_2
            have e32 : (m21 a0 2) = (mh a0 2) := (Eq.trans (zfr_ap hfm21 hc0 rfl) (Eq.trans (zfr_ap hfm19 hc0 rfl) (Eq.trans (zs_ne hmm18 (Or.inl (zc_ne hc0 zq_218 (by decide)))) (zfr_ap hfm11 hc0 rfl))))
            have r33 : 0 ≤ (m21 a0 15) ∧ (m21 a0 15) ≤ 4 := zi_rd hIm21 hc0 zb_28_15
            have e34 : (m21 a0 15) = (mh a0 15) := (Eq.trans (zfr_ap hfm21 hc0 rfl) (Eq.trans (zfr_ap hfm19 hc0 rfl) (Eq.trans (zs_ne hmm18 (Or.inl (zc_ne hc0 zq_218 (by decide)))) (zfr_ap hfm11 hc0 rfl))))
            have hM : (31 - (zu_w32 (x6 + 1))) * 1 + 0 < (k : Int) := by omega
            exact zw_le (zu_forget (zu_lr_same (zu_lr_same (zu_lr_same (zu_lr_same (zu_lr_same (zu_lr_same (zu_lr_same (zu_lr_drop zu_lr_nil))))))))) (ih.2 x3 x6 v22 (zu_w32 (x6 + 1)) m21 hIm21 hFm21 hLm21 ⟨by omega, by omega⟩ ⟨by omega, by omega⟩ ⟨by omega, by omega⟩ ⟨by omega, by omega⟩ ⟨by omega, by omega⟩ ⟨by omega, by omega⟩ ⟨by omega, by omega⟩ ⟨by omega, by omega⟩ hRKNm21 hRLTm21 hRSEm21 hM)
          · have w35 := zu_w32_id (z := x6 + 1) (by omega) (by omega)
            have r36 : (-2147483648) ≤ (m21 a0 2) ∧ (m21 a0 2) ≤ 2147483647 := zi_rd hIm21 hc0 zb_28_2
            have e37 : (m21 a0 2) = (mh a0 2) := (Eq.trans (zfr_ap hfm21 hc0 rfl) (Eq.trans (zfr_ap hfm19 hc0 rfl) (Eq.trans (zs_ne hmm18 (Or.inl (zc_ne hc0 zq_218 (by decide)))) (zfr_ap hfm11 hc0 rfl))))
            have r38 : 0 ≤ (m21 a0 15) ∧ (m21 a0 15) ≤ 4 := zi_rd hIm21 hc0 zb_28_15
            have e39 : (m21 a0 15) = (mh a0 15) := (Eq.trans (zfr_ap hfm21 hc0 rfl) (Eq.trans (zfr_ap hfm19 hc0 rfl) (Eq.trans (zs_ne hmm18 (Or.inl (zc_ne hc0 zq_218 (by decide)))) (zfr_ap hfm11 hc0 rfl))))
            have hM : (31 - (zu_w32 (x6 + 1))) * 1 + 0 < (k : Int) := by omega
            exact zw_le (zu_forget (zu_lr_same (zu_lr_same (zu_lr_same (zu_lr_same (zu_lr_same (zu_lr_same (zu_lr_same (zu_lr_drop zu_lr_nil))))))))) (ih.2 x3 x4 x5 (zu_w32 (x6 + 1)) m21 hIm21 hFm21 hLm21 ⟨by omega, by omega⟩ ⟨by omega, by omega⟩ ⟨by omega, by omega⟩ ⟨by omega, by omega⟩ ⟨by omega, by omega⟩ ⟨by omega, by omega⟩ ⟨by omega, by omega⟩ ⟨by omega, by omega⟩ hRKNm21 hRLTm21 hRSEm21 hM)
set_option maxHeartbeats 4000000 in
theorem zk_162k (n : Nat) {a0 a1 a2 : Int} {m0 : zu_m} (hIm0 : zi_I m0) (hc0 : zcls a0 = 28) (ha1 : (-2147483648) ≤ a1 ∧ a1 ≤ 2147483647) (ha2 : (-2147483648) ≤ a2 ∧ a2 ≤ 2147483647)    (hRKNm0 : zR_KN m0) (hRLTm0 : zR_LT m0) (hRSEm0 : zE1 m0 0) : zw (zu_call (zt_T n) 162 [(40, a0), (0, a1), (0, a2)] m0) (fun v m => zi_I m ∧ zfr [(28, 3), (28, 54), (28, 64), (28, 65), (28, 66), (28, 67), (28, 68), (28, 69), (28, 70), (122, 0), (123, 0), (124, 0), (125, 2), (126, 0), (127, 0), (128, 0), (129, 0), (130, 0), (131, 0)] m0 m ∧ zs2 m0 m ∧ zR_KN m ∧ zR_LT m ∧ zE1 m 0 ∧ ((-2147483648) ≤ v ∧ v ≤ 2147483647) ∧ (0 ≤ m a0 2 ∧ m a0 2 ≤ 0)) := by
  have hFm0 : zfr [(28, 3), (28, 54), (28, 64), (28, 65), (28, 66), (28, 67), (28, 68), (28, 69), (28, 70), (122, 0), (123, 0), (124, 0), (125, 2), (126, 0), (127, 0), (128, 0), (129, 0), (130, 0), (131, 0)] m0 m0 := zfr_rf _ _
  have hLm0 : zs2 m0 m0 := rfl
  refine zw_eq (zu_call_at (zt_T n) (zm_162 n) (zdp_162 n) _ _ _ _ _ rfl (zr_162_0 n _ _ a0 a1 a2 m0)) ?_
  generalize hmm40 : zu_up m0 a0 2 0 = m40
  have hIm40 := zi_up hmm40 hIm0 hc0 zb_28_2 (by omega) (by omega)
  have hFm40 := zfr_up hmm40 hFm0 hc0 rfl
  have hLm40 := zs2_ne hmm40 hLm0 hc0 (by decide)
  have hRKNm40 := zR_KN_fr (zdis_fr (zfr_up hmm40 (zfr_rf [(28, 3)] _) hc0 rfl) rfl) hRKNm0
  have hRLTm40 := zR_LT_fr (zdis_fr (zfr_up hmm40 (zfr_rf [(28, 3)] _) hc0 rfl) rfl) hRLTm0
  have hRSEm40 := zR_SE_fr (zdis_fr (zfr_up hmm40 (zfr_rf [(28, 3)] _) hc0 rfl) rfl) hRSEm0
  refine zw_bd (zw_eq (zu_call_at (zt_T n) (zm_83 n) (zdp_83 n) _ _ _ _ _ rfl (zr_83_0 n _ _ a1 1 200 m40)) ?_)
  refine zw_ite (fun h41 => ?_) (fun h41 => ?_)
  · refine zw_b (by omega) ?_
    refine zw_some ?_
    refine zw_ite (fun h42 => ?_) (fun h42 => ?_)
    · have r43 : (-2147483648) ≤ (m40 a0 2) ∧ (m40 a0 2) ≤ 2147483647 := zi_rd hIm40 hc0 zb_28_2
      have e44 : (m40 a0 2) = 0 := (zs_eq hmm40)
      exact zw_some ⟨hIm40, hFm40, hLm40, hRKNm40, hRLTm40, hRSEm40, ⟨by decide, by decide⟩, ⟨by omega, by omega⟩⟩
    · exfalso; omega
  · refine zw_ite (fun h45 => ?_) (fun h45 => ?_)
    · refine zw_b (by omega) ?_
      refine zw_some ?_
      refine zw_ite (fun h46 => ?_) (fun h46 => ?_)
      · have r47 : (-2147483648) ≤ (m40 a0 2) ∧ (m40 a0 2) ≤ 2147483647 := zi_rd hIm40 hc0 zb_28_2
        have e48 : (m40 a0 2) = 0 := (zs_eq hmm40)
        exact zw_some ⟨hIm40, hFm40, hLm40, hRKNm40, hRLTm40, hRSEm40, ⟨by decide, by decide⟩, ⟨by omega, by omega⟩⟩
      · exfalso; omega
    · refine zw_b (by omega) ?_
      refine zw_some ?_
      refine zw_ite (fun h49 => ?_) (fun h49 => ?_)
      · exfalso; omega
      · refine zw_bd (zw_eq (zu_call_at (zt_T n) (zm_83 n) (zdp_83 n) _ _ _ _ _ rfl (zr_83_0 n _ _ a2 0 1 m40)) ?_)
        refine zw_ite (fun h50 => ?_) (fun h50 => ?_)
        · refine zw_b (by omega) ?_
          refine zw_some ?_
          refine zw_ite (fun h51 => ?_) (fun h51 => ?_)
          · have r52 : (-2147483648) ≤ (m40 a0 2) ∧ (m40 a0 2) ≤ 2147483647 := zi_rd hIm40 hc0 zb_28_2
            have e53 : (m40 a0 2) = 0 := (zs_eq hmm40)
            exact zw_some ⟨hIm40, hFm40, hLm40, hRKNm40, hRLTm40, hRSEm40, ⟨by decide, by decide⟩, ⟨by omega, by omega⟩⟩
          · exfalso; omega
        · refine zw_ite (fun h54 => ?_) (fun h54 => ?_)
          · refine zw_b (by omega) ?_
            refine zw_some ?_
            refine zw_ite (fun h55 => ?_) (fun h55 => ?_)
            · have r56 : (-2147483648) ≤ (m40 a0 2) ∧ (m40 a0 2) ≤ 2147483647 := zi_rd hIm40 hc0 zb_28_2
              have e57 : (m40 a0 2) = 0 := (zs_eq hmm40)
              exact zw_some ⟨hIm40, hFm40, hLm40, hRKNm40, hRLTm40, hRSEm40, ⟨by decide, by decide⟩, ⟨by omega, by omega⟩⟩
            · exfalso; omega
          · refine zw_b (by omega) ?_
            refine zw_some ?_
            refine zw_ite (fun h58 => ?_) (fun h58 => ?_)
            · exfalso; omega
            · have r59 : 0 ≤ (m40 a0 15) ∧ (m40 a0 15) ≤ 4 := zi_rd hIm40 hc0 zb_28_15
              refine zw_ite (fun h60 => ?_) (fun h60 => ?_)
              · have r61 : (-2147483648) ≤ (m40 a0 2) ∧ (m40 a0 2) ≤ 2147483647 := zi_rd hIm40 hc0 zb_28_2
                have e62 : (m40 a0 2) = 0 := (zs_eq hmm40)
                have hM : (4 - 1) * 1 + 32 < ((36 : Nat) : Int) := by omega
                exact (zl_162k n (m0 := m0) hc0 36).1 0 1 m40 hIm40 hFm40 hLm40 ⟨by omega, by omega⟩ ⟨by omega, by omega⟩ ⟨by omega, by omega⟩ ⟨by omega, by omega⟩ ⟨by omega, by omega⟩ ⟨by omega, by omega⟩ hRKNm40 hRLTm40 hRSEm40 hM
              · have r63 : (-2147483648) ≤ (m40 a0 2) ∧ (m40 a0 2) ≤ 2147483647 := zi_rd hIm40 hc0 zb_28_2
                have e64 : (m40 a0 2) = 0 := (zs_eq hmm40)
                exact zw_some ⟨hIm40, hFm40, hLm40, hRKNm40, hRLTm40, hRSEm40, ⟨by decide, by decide⟩, ⟨by omega, by omega⟩⟩
set_option maxHeartbeats 4000000 in
theorem zl_163k (n : Nat) {a0 a1 a2 : Int} {m0 : zu_m} (hc0 : zcls a0 = 28)   : ∀ k : Nat, (∀ (x3 x4 x5 : Int) (mh : zu_m), zi_I mh → zfr [(28, 54), (28, 64), (28, 65), (28, 66), (28, 67), (28, 68), (28, 69), (28, 70), (122, 0), (123, 0), (124, 0), (125, 2), (126, 0), (127, 0), (128, 0), (129, 0), (130, 0), (131, 0)] m0 mh → zs2 m0 mh → (0 ≤ a1 ∧ a1 ≤ 2) → (1 ≤ a2 ∧ a2 ≤ 200) → ((-2147483648) ≤ x3 ∧ x3 ≤ 2147483647) → (0 ≤ x4 ∧ x4 ≤ 0) → (0 ≤ x5 ∧ x5 ≤ 4) → (0 ≤ mh 216 1 ∧ mh 216 1 ≤ 16) → (zR_KN mh) → (zR_LT mh) → (zE1 mh 1) → (zE1 mh 0) → (4 - x5) * 1 + 5 < (k : Int) → zw (zu_ex (zt_T n) 163 22 [(40, a0), (0, a1), (0, a2), (0, x3), (0, x4), (0, x5)] [] mh) (fun v m => zi_I m ∧ zfr [(28, 54), (28, 64), (28, 65), (28, 66), (28, 67), (28, 68), (28, 69), (28, 70), (122, 0), (123, 0), (124, 0), (125, 2), (126, 0), (127, 0), (128, 0), (129, 0), (130, 0), (131, 0)] m0 m ∧ zs2 m0 m ∧ zR_KN m ∧ zR_LT m ∧ zE1 m 1 ∧ zE1 m 0 ∧ ((-2147483648) ≤ v ∧ v ≤ 2147483647))) ∧ (∀ (x3 x4 x5 : Int) (mh : zu_m), zi_I mh → zfr [(28, 54), (28, 64), (28, 65), (28, 66), (28, 67), (28, 68), (28, 69), (28, 70), (122, 0), (123, 0), (124, 0), (125, 2), (126, 0), (127, 0), (128, 0), (129, 0), (130, 0), (131, 0)] m0 mh → zs2 m0 mh → (0 ≤ a1 ∧ a1 ≤ 2) → (1 ≤ a2 ∧ a2 ≤ 200) → ((-2147483648) ≤ x3 ∧ x3 ≤ 2147483647) → ((-2147483648) ≤ x4 ∧ x4 ≤ 2147483647) → (0 ≤ x5 ∧ x5 ≤ 4) → (0 ≤ mh 216 1 ∧ mh 216 1 ≤ 16) → (zR_KN mh) → (zR_LT mh) → (zE1 mh 1) → (zE1 mh 0) → (4 - x5) * 1 + 0 < (k : Int) → zw (zu_ex (zt_T n) 163 63 [(40, a0), (0, a1), (0, a2), (0, x3), (0, x4), (0, x5)] [] mh) (fun v m => zi_I m ∧ zfr [(28, 54), (28, 64), (28, 65), (28, 66), (28, 67), (28, 68), (28, 69), (28, 70), (122, 0), (123, 0), (124, 0), (125, 2), (126, 0), (127, 0), (128, 0), (129, 0), (130, 0), (131, 0)] m0 m ∧ zs2 m0 m ∧ zR_KN m ∧ zR_LT m ∧ zE1 m 1 ∧ zE1 m 0 ∧ ((-2147483648) ≤ v ∧ v ≤ 2147483647))) := by
  intro k
  induction k with
  | zero => exact ⟨fun x3 x4 x5 mh hImh hFmh hLmh hba1 hba2 hbx3 hbx4 hbx5 hg5 hRKNmh hRLTmh hRS1mh hRSEmh hM => by exfalso; omega, fun x3 x4 x5 mh hImh hFmh hLmh hba1 hba2 hbx3 hbx4 hbx5 hg5 hRKNmh hRLTmh hRS1mh hRSEmh hM => by exfalso; omega⟩
  | succ k ih =>
    refine ⟨?_, ?_⟩
    · intro x3 x4 x5 mh hImh hFmh hLmh hba1 hba2 hbx3 hbx4 hbx5 hg5 hRKNmh hRLTmh hRS1mh hRSEmh hM
      refine zw_eq (zu_rega_at (zt_T n) (zm_163 n) (zdp_163 n) _ _ _ _ _ _ (zr_163_22 n _ _ a0 a1 a2 x3 x4 x5 mh)) ?_
      have r1 : 0 ≤ (mh a0 15) ∧ (mh a0 15) ≤ 4 := zi_rd hImh hc0 zb_28_15
      refine zw_ite (fun h2 => ?_) (fun h2 => ?_)
      · have hM : (4 - 0) * 1 + 0 < (k : Int) := by omega
        exact ih.2 x3 x4 0 mh hImh hFmh hLmh ⟨by omega, by omega⟩ ⟨by omega, by omega⟩ ⟨by omega, by omega⟩ ⟨by omega, by omega⟩ ⟨by omega, by omega⟩ ⟨by omega, by omega⟩ hRKNmh hRLTmh hRS1mh hRSEmh hM
      · refine zw_bd (zw_mono (zk_130 n hImh hc0 ⟨by decide, by decide⟩ ⟨by omega, by omega⟩) (fun v4 m3 hqm3 => ?_))
        obtain ⟨hIm3, hfm3, hvm3⟩ := hqm3
        have hFm3 := zfr_tr hFmh hfm3 rfl
        have hLm3 := zs2_tr hLmh hfm3 rfl
        have hRKNm3 := zR_KN_fr (zdis_fr hfm3 rfl) hRKNmh
        have hRLTm3 := zR_LT_fr (zdis_fr hfm3 rfl) hRLTmh
        have hRS1m3 := zR_S1_fr (zdis_fr hfm3 rfl) hRS1mh
        have hRSEm3 := zR_SE_fr (zdis_fr hfm3 rfl) hRSEmh
        refine zw_ite (fun h5 => ?_) (fun h5 => ?_)
        · have w6 := zu_w32_id (z := x5 + 1) (by omega) (by omega)
          have r7 : 0 ≤ (m3 216 1) ∧ (m3 216 1) ≤ 18 := zi_rdr (m := 2) (r0 := 1) (r1 := 1) hIm3 zq_216 (by omega) (by decide +kernel)
          have e8 : (m3 216 1) = (mh 216 1) := (zfr_ap hfm3 zq_216 rfl)
          have hM : (4 - (zu_w32 (x5 + 1))) * 1 + 5 < (k : Int) := by omega
          exact ih.1 x3 x4 (zu_w32 (x5 + 1)) m3 hIm3 hFm3 hLm3 ⟨by omega, by omega⟩ ⟨by omega, by omega⟩ ⟨by omega, by omega⟩ ⟨by omega, by omega⟩ ⟨by omega, by omega⟩ ⟨by omega, by omega⟩ hRKNm3 hRLTm3 hRS1m3 hRSEm3 hM
        · refine zw_bd (zw_mono (zk_130 n hIm3 hc0 ⟨by decide, by decide⟩ ⟨by omega, by omega⟩) (fun v10 m9 hqm9 => ?_))
          obtain ⟨hIm9, hfm9, hvm9⟩ := hqm9
          have hFm9 := zfr_tr hFm3 hfm9 rfl
          have hLm9 := zs2_tr hLm3 hfm9 rfl
          have hRKNm9 := zR_KN_fr (zdis_fr hfm9 rfl) hRKNm3
          have hRLTm9 := zR_LT_fr (zdis_fr hfm9 rfl) hRLTm3
          have hRS1m9 := zR_S1_fr (zdis_fr hfm9 rfl) hRS1m3
          have hRSEm9 := zR_SE_fr (zdis_fr hfm9 rfl) hRSEm3
          have w11 := zu_w32_id (z := x5 + 1) (by omega) (by omega)
          have r12 : 0 ≤ (m9 216 1) ∧ (m9 216 1) ≤ 18 := zi_rdr (m := 2) (r0 := 1) (r1 := 1) hIm9 zq_216 (by omega) (by decide +kernel)
          have e13 : (m9 216 1) = (mh 216 1) := (Eq.trans (zfr_ap hfm9 zq_216 rfl) (zfr_ap hfm3 zq_216 rfl))
          have hM : (4 - (zu_w32 (x5 + 1))) * 1 + 5 < (k : Int) := by omega
          exact ih.1 v10 x4 (zu_w32 (x5 + 1)) m9 hIm9 hFm9 hLm9 ⟨by omega, by omega⟩ ⟨by omega, by omega⟩ ⟨by omega, by omega⟩ ⟨by omega, by omega⟩ ⟨by omega, by omega⟩ ⟨by omega, by omega⟩ hRKNm9 hRLTm9 hRS1m9 hRSEm9 hM
    · intro x3 x4 x5 mh hImh hFmh hLmh hba1 hba2 hbx3 hbx4 hbx5 hg5 hRKNmh hRLTmh hRS1mh hRSEmh hM
      refine zw_eq (zu_rega_at (zt_T n) (zm_163 n) (zdp_163 n) _ _ _ _ _ _ (zr_163_63 n _ _ a0 a1 a2 x3 x4 x5 mh)) ?_
      have r14 : 0 ≤ (mh a0 15) ∧ (mh a0 15) ≤ 4 := zi_rd hImh hc0 zb_28_15
      refine zw_ite (fun h15 => ?_) (fun h15 => ?_)
      · exact zw_some ⟨hImh, hFmh, hLmh, hRKNmh, hRLTmh, hRS1mh, hRSEmh, ⟨by omega, by omega⟩⟩
      · refine zw_bd (zw_mono (zk_130 n hImh hc0 ⟨by decide, by decide⟩ ⟨by omega, by omega⟩) (fun v17 m16 hqm16 => ?_))
        obtain ⟨hIm16, hfm16, hvm16⟩ := hqm16
        have hFm16 := zfr_tr hFmh hfm16 rfl
        have hLm16 := zs2_tr hLmh hfm16 rfl
        have hRKNm16 := zR_KN_fr (zdis_fr hfm16 rfl) hRKNmh
        have hRLTm16 := zR_LT_fr (zdis_fr hfm16 rfl) hRLTmh
        have hRS1m16 := zR_S1_fr (zdis_fr hfm16 rfl) hRS1mh
        have hRSEm16 := zR_SE_fr (zdis_fr hfm16 rfl) hRSEmh
        have w18 := zu_w32_rg (x3 - v17)
        have w19 := zu_w32_rg (x4 + (zu_w32 (x3 - v17)))
        have w20 := zu_w32_id (z := x5 + 1) (by omega) (by omega)
        have r21 : 0 ≤ (m16 216 1) ∧ (m16 216 1) ≤ 18 := zi_rdr (m := 2) (r0 := 1) (r1 := 1) hIm16 zq_216 (by omega) (by decide +kernel)
        have e22 : (m16 216 1) = (mh 216 1) := (zfr_ap hfm16 zq_216 rfl)
        have hM : (4 - (zu_w32 (x5 + 1))) * 1 + 0 < (k : Int) := by omega
        exact ih.2 x3 (zu_w32 (x4 + (zu_w32 (x3 - v17)))) (zu_w32 (x5 + 1)) m16 hIm16 hFm16 hLm16 ⟨by omega, by omega⟩ ⟨by omega, by omega⟩ ⟨by omega, by omega⟩ ⟨by omega, by omega⟩ ⟨by omega, by omega⟩ ⟨by omega, by omega⟩ hRKNm16 hRLTm16 hRS1m16 hRSEm16 hM
set_option maxHeartbeats 4000000 in
theorem zk_163k (n : Nat) {a0 a1 a2 : Int} {m0 : zu_m} (hIm0 : zi_I m0) (hc0 : zcls a0 = 28) (ha1 : 0 ≤ a1 ∧ a1 ≤ 2) (ha2 : 1 ≤ a2 ∧ a2 ≤ 200)    (hRKNm0 : zR_KN m0) (hRLTm0 : zR_LT m0) (hRSEm0 : zE1 m0 0) : zw (zu_call (zt_T n) 163 [(40, a0), (0, a1), (0, a2)] m0) (fun v m => zi_I m ∧ zfr [(28, 54), (28, 64), (28, 65), (28, 66), (28, 67), (28, 68), (28, 69), (28, 70), (122, 0), (123, 0), (124, 0), (125, 2), (126, 0), (127, 0), (128, 0), (129, 0), (130, 0), (131, 0)] m0 m ∧ zs2 m0 m ∧ zR_KN m ∧ zR_LT m ∧ zE1 m 1 ∧ zE1 m 0 ∧ ((-2147483648) ≤ v ∧ v ≤ 2147483647)) := by
  have hFm0 : zfr [(28, 54), (28, 64), (28, 65), (28, 66), (28, 67), (28, 68), (28, 69), (28, 70), (122, 0), (123, 0), (124, 0), (125, 2), (126, 0), (127, 0), (128, 0), (129, 0), (130, 0), (131, 0)] m0 m0 := zfr_rf _ _
  have hLm0 : zs2 m0 m0 := rfl
  refine zw_eq (zu_call_at (zt_T n) (zm_163 n) (zdp_163 n) _ _ _ _ _ rfl (zr_163_0 n _ _ a0 a1 a2 m0)) ?_
  refine zw_bd (zw_mono (zk_126k n hIm0 hc0 hRSEm0) (fun v24 m23 hqm23 => ?_))
  obtain ⟨hIm23, hfm23, hlm23, hvm23⟩ := hqm23
  have hFm23 := zfr_tr hFm0 hfm23 rfl
  have hLm23 := zs2_go hLm0 hlm23
  obtain ⟨hRS1m23, hRSEm23, hvm23⟩ := hvm23
  have hRKNm23 := zR_KN_fr (zdis_fr hfm23 rfl) hRKNm0
  have hRLTm23 := zR_LT_fr (zdis_fr hfm23 rfl) hRLTm0
  generalize hmm25 : zu_up m23 a0 64 a1 = m25
  have hIm25 := zi_up hmm25 hIm23 hc0 zb_28_64 (by omega) (by omega)
  have hFm25 := zfr_up hmm25 hFm23 hc0 rfl
  have hLm25 := zs2_ne hmm25 hLm23 hc0 (by decide)
  have hRKNm25 := zR_KN_fr (zdis_fr (zfr_up hmm25 (zfr_rf [(28, 65)] _) hc0 rfl) rfl) hRKNm23
  have hRLTm25 := zR_LT_fr (zdis_fr (zfr_up hmm25 (zfr_rf [(28, 65)] _) hc0 rfl) rfl) hRLTm23
  have hRS1m25 := zR_S1_fr (zdis_fr (zfr_up hmm25 (zfr_rf [(28, 65)] _) hc0 rfl) rfl) hRS1m23
  have hRSEm25 := zR_SE_fr (zdis_fr (zfr_up hmm25 (zfr_rf [(28, 65)] _) hc0 rfl) rfl) hRSEm23
  refine zw_bd (zw_mono (zk_159k n hIm25 hc0 ⟨by omega, by omega⟩ hRKNm25 hRLTm25 hRS1m25 hRSEm25) (fun v27 m26 hqm26 => ?_))
  obtain ⟨hIm26, hfm26, hlm26, hvm26⟩ := hqm26
  have hFm26 := zfr_tr hFm25 hfm26 rfl
  have hLm26 := zs2_go hLm25 hlm26
  obtain ⟨hRKNm26, hRLTm26, hRS1m26, hRSEm26, hvm26⟩ := hvm26
  have r28 : 0 ≤ (m26 216 1) ∧ (m26 216 1) ≤ 18 := zi_rdr (m := 2) (r0 := 1) (r1 := 1) hIm26 zq_216 (by omega) (by decide +kernel)
  have e29 : (m26 216 1) = (m23 216 1) := (Eq.trans (zfr_ap hfm26 zq_216 rfl) (zs_ne hmm25 (Or.inl (zc_ne zq_216 hc0 (by decide)))))
  have hM : (4 - 0) * 1 + 5 < ((10 : Nat) : Int) := by omega
  exact (zl_163k n (m0 := m0) hc0 10).1 0 0 0 m26 hIm26 hFm26 hLm26 ⟨by omega, by omega⟩ ⟨by omega, by omega⟩ ⟨by omega, by omega⟩ ⟨by omega, by omega⟩ ⟨by omega, by omega⟩ ⟨by omega, by omega⟩ hRKNm26 hRLTm26 hRS1m26 hRSEm26 hM
set_option maxHeartbeats 4000000 in
theorem zk_164k (n : Nat) {a0 a1 a2 : Int} {m0 : zu_m} (hIm0 : zi_I m0) (hc0 : zcls a0 = 28) (ha1 : (-2147483648) ≤ a1 ∧ a1 ≤ 2147483647) (ha2 : (-2147483648) ≤ a2 ∧ a2 ≤ 2147483647)    (hRKNm0 : zR_KN m0) (hRLTm0 : zR_LT m0) (hRSEm0 : zE1 m0 0) : zw (zu_call (zt_T n) 164 [(40, a0), (0, a1), (0, a2)] m0) (fun v m => zi_I m ∧ zfr [(28, 3), (28, 54), (28, 64), (28, 65), (28, 66), (28, 67), (28, 68), (28, 69), (28, 70), (122, 0), (123, 0), (124, 0), (125, 2), (126, 0), (127, 0), (128, 0), (129, 0), (130, 0), (131, 0)] m0 m ∧ zs2 m0 m ∧ zR_KN m ∧ zR_LT m ∧ zE1 m 0 ∧ ((-2147483648) ≤ v ∧ v ≤ 2147483647) ∧ (0 ≤ m a0 2 ∧ m a0 2 ≤ 0)) := by
  have hFm0 : zfr [(28, 3), (28, 54), (28, 64), (28, 65), (28, 66), (28, 67), (28, 68), (28, 69), (28, 70), (122, 0), (123, 0), (124, 0), (125, 2), (126, 0), (127, 0), (128, 0), (129, 0), (130, 0), (131, 0)] m0 m0 := zfr_rf _ _
  have hLm0 : zs2 m0 m0 := rfl
  refine zw_eq (zu_call_at (zt_T n) (zm_164 n) (zdp_164 n) _ _ _ _ _ rfl (zr_164_0 n _ _ a0 a1 a2 m0)) ?_
  generalize hmm1 : zu_up m0 a0 2 0 = m1
  have hIm1 := zi_up hmm1 hIm0 hc0 zb_28_2 (by omega) (by omega)
  have hFm1 := zfr_up hmm1 hFm0 hc0 rfl
  have hLm1 := zs2_ne hmm1 hLm0 hc0 (by decide)
  have hRKNm1 := zR_KN_fr (zdis_fr (zfr_up hmm1 (zfr_rf [(28, 3)] _) hc0 rfl) rfl) hRKNm0
  have hRLTm1 := zR_LT_fr (zdis_fr (zfr_up hmm1 (zfr_rf [(28, 3)] _) hc0 rfl) rfl) hRLTm0
  have hRSEm1 := zR_SE_fr (zdis_fr (zfr_up hmm1 (zfr_rf [(28, 3)] _) hc0 rfl) rfl) hRSEm0
  refine zw_bd (zw_eq (zu_call_at (zt_T n) (zm_83 n) (zdp_83 n) _ _ _ _ _ rfl (zr_83_0 n _ _ a1 0 2 m1)) ?_)
  refine zw_ite (fun h2 => ?_) (fun h2 => ?_)
  · refine zw_b (by omega) ?_
    refine zw_some ?_
    refine zw_ite (fun h3 => ?_) (fun h3 => ?_)
    · have r4 : (-2147483648) ≤ (m1 a0 2) ∧ (m1 a0 2) ≤ 2147483647 := zi_rd hIm1 hc0 zb_28_2
      have e5 : (m1 a0 2) = 0 := (zs_eq hmm1)
      exact zw_some ⟨hIm1, hFm1, hLm1, hRKNm1, hRLTm1, hRSEm1, ⟨by decide, by decide⟩, ⟨by omega, by omega⟩⟩
    · exfalso; omega
  · refine zw_ite (fun h6 => ?_) (fun h6 => ?_)
    · refine zw_b (by omega) ?_
      refine zw_some ?_
      refine zw_ite (fun h7 => ?_) (fun h7 => ?_)
      · have r8 : (-2147483648) ≤ (m1 a0 2) ∧ (m1 a0 2) ≤ 2147483647 := zi_rd hIm1 hc0 zb_28_2
        have e9 : (m1 a0 2) = 0 := (zs_eq hmm1)
        exact zw_some ⟨hIm1, hFm1, hLm1, hRKNm1, hRLTm1, hRSEm1, ⟨by decide, by decide⟩, ⟨by omega, by omega⟩⟩
      · exfalso; omega
    · refine zw_b (by omega) ?_
      refine zw_some ?_
      refine zw_ite (fun h10 => ?_) (fun h10 => ?_)
      · exfalso; omega
      · refine zw_bd (zw_eq (zu_call_at (zt_T n) (zm_83 n) (zdp_83 n) _ _ _ _ _ rfl (zr_83_0 n _ _ a2 1 200 m1)) ?_)
        refine zw_ite (fun h11 => ?_) (fun h11 => ?_)
        · refine zw_b (by omega) ?_
          refine zw_some ?_
          refine zw_ite (fun h12 => ?_) (fun h12 => ?_)
          · have r13 : (-2147483648) ≤ (m1 a0 2) ∧ (m1 a0 2) ≤ 2147483647 := zi_rd hIm1 hc0 zb_28_2
            have e14 : (m1 a0 2) = 0 := (zs_eq hmm1)
            exact zw_some ⟨hIm1, hFm1, hLm1, hRKNm1, hRLTm1, hRSEm1, ⟨by decide, by decide⟩, ⟨by omega, by omega⟩⟩
          · exfalso; omega
        · refine zw_ite (fun h15 => ?_) (fun h15 => ?_)
          · refine zw_b (by omega) ?_
            refine zw_some ?_
            refine zw_ite (fun h16 => ?_) (fun h16 => ?_)
            · have r17 : (-2147483648) ≤ (m1 a0 2) ∧ (m1 a0 2) ≤ 2147483647 := zi_rd hIm1 hc0 zb_28_2
              have e18 : (m1 a0 2) = 0 := (zs_eq hmm1)
              exact zw_some ⟨hIm1, hFm1, hLm1, hRKNm1, hRLTm1, hRSEm1, ⟨by decide, by decide⟩, ⟨by omega, by omega⟩⟩
            · exfalso; omega
          · refine zw_b (by omega) ?_
            refine zw_some ?_
            refine zw_ite (fun h19 => ?_) (fun h19 => ?_)
            · exfalso; omega
            · refine zw_bd (zw_mono (zk_163k n hIm1 hc0 ⟨by omega, by omega⟩ ⟨by omega, by omega⟩ hRKNm1 hRLTm1 hRSEm1) (fun v21 m20 hqm20 => ?_))
              obtain ⟨hIm20, hfm20, hlm20, hvm20⟩ := hqm20
              have hFm20 := zfr_tr hFm1 hfm20 rfl
              have hLm20 := zs2_go hLm1 hlm20
              obtain ⟨hRKNm20, hRLTm20, hRS1m20, hRSEm20, hvm20⟩ := hvm20
              have r22 : (-2147483648) ≤ (m20 a0 2) ∧ (m20 a0 2) ≤ 2147483647 := zi_rd hIm20 hc0 zb_28_2
              have e23 : (m20 a0 2) = 0 := (Eq.trans (zfr_ap hfm20 hc0 rfl) (zs_eq hmm1))
              exact zw_some ⟨hIm20, hFm20, hLm20, hRKNm20, hRLTm20, hRSEm20, ⟨by omega, by omega⟩, ⟨by omega, by omega⟩⟩
set_option maxHeartbeats 4000000 in
theorem zl_165k (n : Nat) {a0 a1 : Int} {m0 : zu_m} (hc0 : zcls a0 = 28)   : ∀ k : Nat, (∀ (x2 x3 : Int) (mh : zu_m), zi_I mh → zfr [(28, 3), (28, 54), (28, 64), (28, 65), (28, 66), (28, 67), (28, 68), (28, 69), (28, 70), (122, 0), (123, 0), (124, 0), (125, 2), (126, 0), (127, 0), (128, 0), (129, 0), (130, 0), (131, 0)] m0 mh → zs2 m0 mh → (1 ≤ a1 ∧ a1 ≤ 200) → (0 ≤ x2 ∧ x2 ≤ 2) → (1 ≤ x3 ∧ x3 ≤ 3) → (0 ≤ mh a0 2 ∧ mh a0 2 ≤ 0) → (zR_KN mh) → (zR_LT mh) → (zE1 mh 0) → (3 - x3) * 1 + 0 < (k : Int) → zw (zu_ex (zt_T n) 165 22 [(40, a0), (0, a1), (0, x2), (0, x3)] [] mh) (fun v m => zi_I m ∧ zfr [(28, 3), (28, 54), (28, 64), (28, 65), (28, 66), (28, 67), (28, 68), (28, 69), (28, 70), (122, 0), (123, 0), (124, 0), (125, 2), (126, 0), (127, 0), (128, 0), (129, 0), (130, 0), (131, 0)] m0 m ∧ zs2 m0 m ∧ zR_KN m ∧ zR_LT m ∧ zE1 m 0 ∧ ((-1) ≤ v ∧ v ≤ 2) ∧ (0 ≤ m a0 2 ∧ m a0 2 ≤ 0))) := by
  intro k
  induction k with
  | zero => exact fun x2 x3 mh hImh hFmh hLmh hba1 hbx2 hbx3 hg3 hRKNmh hRLTmh hRSEmh hM => by exfalso; omega
  | succ k ih =>
    intro x2 x3 mh hImh hFmh hLmh hba1 hbx2 hbx3 hg3 hRKNmh hRLTmh hRSEmh hM
    refine zw_eq (zu_rega_at (zt_T n) (zm_165 n) (zdp_165 n) _ _ _ _ _ _ (zr_165_22 n _ _ a0 a1 x2 x3 mh)) ?_
    refine zw_ite (fun h1 => ?_) (fun h1 => ?_)
    · exact zw_some ⟨hImh, hFmh, hLmh, hRKNmh, hRLTmh, hRSEmh, ⟨by omega, by omega⟩, ⟨by omega, by omega⟩⟩
    · refine zw_bd (zw_mono (zk_163k n hImh hc0 ⟨by omega, by omega⟩ ⟨by omega, by omega⟩ hRKNmh hRLTmh hRSEmh) (fun v3 m2 hqm2 => ?_))
      obtain ⟨hIm2, hfm2, hlm2, hvm2⟩ := hqm2
      have hFm2 := zfr_tr hFmh hfm2 rfl
      have hLm2 := zs2_go hLmh hlm2
      obtain ⟨hRKNm2, hRLTm2, hRS1m2, hRSEm2, hvm2⟩ := hvm2
      refine zw_bd (zw_mono (zk_163k n hIm2 hc0 ⟨by omega, by omega⟩ ⟨by omega, by omega⟩ hRKNm2 hRLTm2 hRSEm2) (fun v5 m4 hqm4 => ?_))
      obtain ⟨hIm4, hfm4, hlm4, hvm4⟩ := hqm4
      have hFm4 := zfr_tr hFm2 hfm4 rfl
      have hLm4 := zs2_go hLm2 hlm4
      obtain ⟨hRKNm4, hRLTm4, hRS1m4, hRSEm4, hvm4⟩ := hvm4
      refine zw_ite (fun h6 => ?_) (fun h6 => ?_)
      · have w7 := zu_w32_id (z := x3 + 1) (by omega) (by omega)
        have r8 : (-2147483648) ≤ (m4 a0 2) ∧ (m4 a0 2) ≤ 2147483647 := zi_rd hIm4 hc0 zb_28_2
        have e9 : (m4 a0 2) = (mh a0 2) := (Eq.trans (zfr_ap hfm4 hc0 rfl) (zfr_ap hfm2 hc0 rfl))
        have hM : (3 - (zu_w32 (x3 + 1))) * 1 + 0 < (k : Int) := by omega
        exact ih x2 (zu_w32 (x3 + 1)) m4 hIm4 hFm4 hLm4 ⟨by omega, by omega⟩ ⟨by omega, by omega⟩ ⟨by omega, by omega⟩ ⟨by omega, by omega⟩ hRKNm4 hRLTm4 hRSEm4 hM
      · have w10 := zu_w32_id (z := x3 + 1) (by omega) (by omega)
        have r11 : (-2147483648) ≤ (m4 a0 2) ∧ (m4 a0 2) ≤ 2147483647 := zi_rd hIm4 hc0 zb_28_2
        have e12 : (m4 a0 2) = (mh a0 2) := (Eq.trans (zfr_ap hfm4 hc0 rfl) (zfr_ap hfm2 hc0 rfl))
        have hM : (3 - (zu_w32 (x3 + 1))) * 1 + 0 < (k : Int) := by omega
        exact ih x3 (zu_w32 (x3 + 1)) m4 hIm4 hFm4 hLm4 ⟨by omega, by omega⟩ ⟨by omega, by omega⟩ ⟨by omega, by omega⟩ ⟨by omega, by omega⟩ hRKNm4 hRLTm4 hRSEm4 hM
set_option maxHeartbeats 4000000 in
theorem zk_165k (n : Nat) {a0 a1 : Int} {m0 : zu_m} (hIm0 : zi_I m0) (hc0 : zcls a0 = 28) (ha1 : (-2147483648) ≤ a1 ∧ a1 ≤ 2147483647)    (hRKNm0 : zR_KN m0) (hRLTm0 : zR_LT m0) (hRSEm0 : zE1 m0 0) : zw (zu_call (zt_T n) 165 [(40, a0), (0, a1)] m0) (fun v m => zi_I m ∧ zfr [(28, 3), (28, 54), (28, 64), (28, 65), (28, 66), (28, 67), (28, 68), (28, 69), (28, 70), (122, 0), (123, 0), (124, 0), (125, 2), (126, 0), (127, 0), (128, 0), (129, 0), (130, 0), (131, 0)] m0 m ∧ zs2 m0 m ∧ zR_KN m ∧ zR_LT m ∧ zE1 m 0 ∧ ((-1) ≤ v ∧ v ≤ 2) ∧ (0 ≤ m a0 2 ∧ m a0 2 ≤ 0)) := by
  have hFm0 : zfr [(28, 3), (28, 54), (28, 64), (28, 65), (28, 66), (28, 67), (28, 68), (28, 69), (28, 70), (122, 0), (123, 0), (124, 0), (125, 2), (126, 0), (127, 0), (128, 0), (129, 0), (130, 0), (131, 0)] m0 m0 := zfr_rf _ _
  have hLm0 : zs2 m0 m0 := rfl
  refine zw_eq (zu_call_at (zt_T n) (zm_165 n) (zdp_165 n) _ _ _ _ _ rfl (zr_165_0 n _ _ a0 a1 m0)) ?_
  generalize hmm13 : zu_up m0 a0 2 0 = m13
  have hIm13 := zi_up hmm13 hIm0 hc0 zb_28_2 (by omega) (by omega)
  have hFm13 := zfr_up hmm13 hFm0 hc0 rfl
  have hLm13 := zs2_ne hmm13 hLm0 hc0 (by decide)
  have hRKNm13 := zR_KN_fr (zdis_fr (zfr_up hmm13 (zfr_rf [(28, 3)] _) hc0 rfl) rfl) hRKNm0
  have hRLTm13 := zR_LT_fr (zdis_fr (zfr_up hmm13 (zfr_rf [(28, 3)] _) hc0 rfl) rfl) hRLTm0
  have hRSEm13 := zR_SE_fr (zdis_fr (zfr_up hmm13 (zfr_rf [(28, 3)] _) hc0 rfl) rfl) hRSEm0
  refine zw_bd (zw_eq (zu_call_at (zt_T n) (zm_83 n) (zdp_83 n) _ _ _ _ _ rfl (zr_83_0 n _ _ a1 1 200 m13)) ?_)
  refine zw_ite (fun h14 => ?_) (fun h14 => ?_)
  · refine zw_b (by omega) ?_
    refine zw_some ?_
    refine zw_ite (fun h15 => ?_) (fun h15 => ?_)
    · exfalso; omega
    · have r16 : (-2147483648) ≤ (m13 a0 2) ∧ (m13 a0 2) ≤ 2147483647 := zi_rd hIm13 hc0 zb_28_2
      have e17 : (m13 a0 2) = 0 := (zs_eq hmm13)
      exact zw_some ⟨hIm13, hFm13, hLm13, hRKNm13, hRLTm13, hRSEm13, ⟨by decide, by decide⟩, ⟨by omega, by omega⟩⟩
  · refine zw_ite (fun h18 => ?_) (fun h18 => ?_)
    · refine zw_b (by omega) ?_
      refine zw_some ?_
      refine zw_ite (fun h19 => ?_) (fun h19 => ?_)
      · exfalso; omega
      · have r20 : (-2147483648) ≤ (m13 a0 2) ∧ (m13 a0 2) ≤ 2147483647 := zi_rd hIm13 hc0 zb_28_2
        have e21 : (m13 a0 2) = 0 := (zs_eq hmm13)
        exact zw_some ⟨hIm13, hFm13, hLm13, hRKNm13, hRLTm13, hRSEm13, ⟨by decide, by decide⟩, ⟨by omega, by omega⟩⟩
    · refine zw_b (by omega) ?_
      refine zw_some ?_
      refine zw_ite (fun h22 => ?_) (fun h22 => ?_)
      · have r23 : (-2147483648) ≤ (m13 a0 2) ∧ (m13 a0 2) ≤ 2147483647 := zi_rd hIm13 hc0 zb_28_2
        have e24 : (m13 a0 2) = 0 := (zs_eq hmm13)
        have hM : (3 - 1) * 1 + 0 < ((3 : Nat) : Int) := by omega
        exact (zl_165k n (m0 := m0) hc0 3) 0 1 m13 hIm13 hFm13 hLm13 ⟨by omega, by omega⟩ ⟨by omega, by omega⟩ ⟨by omega, by omega⟩ ⟨by omega, by omega⟩ hRKNm13 hRLTm13 hRSEm13 hM
      · exfalso; omega
set_option maxHeartbeats 4000000 in
theorem zl_184H0k (n : Nat) {a0 a1 : Int} {m0 : zu_m} (hc0 : zcls a0 = 28)   (k : Nat) (ih : (∀ (x2 x3 : Int) (mh : zu_m), zi_I mh → zfr [(28, 3), (28, 54), (28, 64), (28, 65), (28, 66), (28, 67), (28, 68), (28, 69), (28, 70), (122, 0), (123, 0), (124, 0), (125, 0), (126, 0), (127, 0), (128, 0), (129, 0), (130, 0), (131, 0), (136, 0)] m0 mh → zs2 m0 mh → (0 ≤ a1 ∧ a1 ≤ 3) → (0 ≤ x2 ∧ x2 ≤ 0) → (0 ≤ x3 ∧ x3 ≤ 24) → (1 ≤ mh a0 15 ∧ mh a0 15 ≤ 4) → (0 ≤ mh a0 2 ∧ mh a0 2 ≤ 0) → (zR_C0 mh) → (zR_KN mh) → (zR_LT mh) → (zE1 mh 0) → (zR_TE mh) → (24 - x3) * 1 + 6514 < (k : Int) → zw (zu_ex (zt_T n) 184 19 [(40, a0), (0, a1), (0, x2), (0, x3), (2, 0), (2, 0), (2, 0)] [] mh) (fun v m => zi_I m ∧ zfr [(28, 3), (28, 54), (28, 64), (28, 65), (28, 66), (28, 67), (28, 68), (28, 69), (28, 70), (122, 0), (123, 0), (124, 0), (125, 0), (126, 0), (127, 0), (128, 0), (129, 0), (130, 0), (131, 0), (136, 0)] m0 m ∧ zs2 m0 m ∧ zR_C0 m ∧ zR_KN m ∧ zR_LT m ∧ zE1 m 0 ∧ zR_TE m ∧ ((-2147483648) ≤ v ∧ v ≤ 2147483647) ∧ (0 ≤ m a0 2 ∧ m a0 2 ≤ 0))) ∧ (∀ (x2 x3 : Int) (mh : zu_m), zi_I mh → zfr [(28, 3), (28, 54), (28, 64), (28, 65), (28, 66), (28, 67), (28, 68), (28, 69), (28, 70), (122, 0), (123, 0), (124, 0), (125, 0), (126, 0), (127, 0), (128, 0), (129, 0), (130, 0), (131, 0), (136, 0)] m0 mh → zs2 m0 mh → (0 ≤ a1 ∧ a1 ≤ 3) → (0 ≤ x2 ∧ x2 ≤ 0) → ((-1) ≤ x3 ∧ x3 ≤ 23) → (1 ≤ mh a0 15 ∧ mh a0 15 ≤ 4) → (0 ≤ mh a0 2 ∧ mh a0 2 ≤ 0) → (zR_C0 mh) → (zR_KN mh) → (zR_LT mh) → (zE1 mh 0) → (zR_TE mh) → (x3 - (-1)) * 1 + 6489 < (k : Int) → zw (zu_ex (zt_T n) 184 47 [(40, a0), (0, a1), (0, x2), (0, x3), (2, 0), (2, 0), (2, 0)] [] mh) (fun v m => zi_I m ∧ zfr [(28, 3), (28, 54), (28, 64), (28, 65), (28, 66), (28, 67), (28, 68), (28, 69), (28, 70), (122, 0), (123, 0), (124, 0), (125, 0), (126, 0), (127, 0), (128, 0), (129, 0), (130, 0), (131, 0), (136, 0)] m0 m ∧ zs2 m0 m ∧ zR_C0 m ∧ zR_KN m ∧ zR_LT m ∧ zE1 m 0 ∧ zR_TE m ∧ ((-2147483648) ≤ v ∧ v ≤ 2147483647) ∧ (0 ≤ m a0 2 ∧ m a0 2 ≤ 0))) ∧ (∀ (x2 x3 : Int) (mh : zu_m), zi_I mh → zfr [(28, 3), (28, 54), (28, 64), (28, 65), (28, 66), (28, 67), (28, 68), (28, 69), (28, 70), (122, 0), (123, 0), (124, 0), (125, 0), (126, 0), (127, 0), (128, 0), (129, 0), (130, 0), (131, 0), (136, 0)] m0 mh → zs2 m0 mh → (0 ≤ a1 ∧ a1 ≤ 3) → (0 ≤ x2 ∧ x2 ≤ 200) → (0 ≤ x3 ∧ x3 ≤ 24) → (1 ≤ mh a0 15 ∧ mh a0 15 ≤ 4) → (0 ≤ mh a0 2 ∧ mh a0 2 ≤ 0) → (zR_C0 mh) → (zR_KN mh) → (zR_LT mh) → (zE1 mh 0) → (zR_TE mh) → (24 - x3) * 1 + 6464 < (k : Int) → zw (zu_ex (zt_T n) 184 95 [(40, a0), (0, a1), (0, x2), (0, x3), (2, 0), (2, 0), (2, 0)] [] mh) (fun v m => zi_I m ∧ zfr [(28, 3), (28, 54), (28, 64), (28, 65), (28, 66), (28, 67), (28, 68), (28, 69), (28, 70), (122, 0), (123, 0), (124, 0), (125, 0), (126, 0), (127, 0), (128, 0), (129, 0), (130, 0), (131, 0), (136, 0)] m0 m ∧ zs2 m0 m ∧ zR_C0 m ∧ zR_KN m ∧ zR_LT m ∧ zE1 m 0 ∧ zR_TE m ∧ ((-2147483648) ≤ v ∧ v ≤ 2147483647) ∧ (0 ≤ m a0 2 ∧ m a0 2 ≤ 0))) ∧ (∀ (x2 x3 x4 : Int) (mh : zu_m), zi_I mh → zfr [(28, 3), (28, 54), (28, 64), (28, 65), (28, 66), (28, 67), (28, 68), (28, 69), (28, 70), (122, 0), (123, 0), (124, 0), (125, 0), (126, 0), (127, 0), (128, 0), (129, 0), (130, 0), (131, 0), (136, 0)] m0 mh → zs2 m0 mh → (0 ≤ a1 ∧ a1 ≤ 3) → (0 ≤ x2 ∧ x2 ≤ 200) → ((-2147483648) ≤ x3 ∧ x3 ≤ 2147483647) → (0 ≤ x4 ∧ x4 ≤ 31) → (1 ≤ mh a0 15 ∧ mh a0 15 ≤ 4) → (0 ≤ mh a0 2 ∧ mh a0 2 ≤ 0) → (zR_C0 mh) → (zR_KN mh) → (zR_LT mh) → (zE1 mh 0) → (zR_TE mh) → (31 - x4) * 202 + 201 < (k : Int) → zw (zu_ex (zt_T n) 184 148 [(40, a0), (0, a1), (0, x2), (0, x3), (0, x4), (2, 0), (2, 0)] [] mh) (fun v m => zi_I m ∧ zfr [(28, 3), (28, 54), (28, 64), (28, 65), (28, 66), (28, 67), (28, 68), (28, 69), (28, 70), (122, 0), (123, 0), (124, 0), (125, 0), (126, 0), (127, 0), (128, 0), (129, 0), (130, 0), (131, 0), (136, 0)] m0 m ∧ zs2 m0 m ∧ zR_C0 m ∧ zR_KN m ∧ zR_LT m ∧ zE1 m 0 ∧ zR_TE m ∧ ((-2147483648) ≤ v ∧ v ≤ 2147483647) ∧ (0 ≤ m a0 2 ∧ m a0 2 ≤ 0))) ∧ (∀ (x2 x3 x4 x5 x6 : Int) (mh : zu_m), zi_I mh → zfr [(28, 3), (28, 54), (28, 64), (28, 65), (28, 66), (28, 67), (28, 68), (28, 69), (28, 70), (122, 0), (123, 0), (124, 0), (125, 0), (126, 0), (127, 0), (128, 0), (129, 0), (130, 0), (131, 0), (136, 0)] m0 mh → zs2 m0 mh → (0 ≤ a1 ∧ a1 ≤ 3) → (0 ≤ x2 ∧ x2 ≤ 200) → ((-2147483648) ≤ x3 ∧ x3 ≤ 2147483647) → (0 ≤ x4 ∧ x4 ≤ 30) → (0 ≤ x5 ∧ x5 ≤ 1) → (1 ≤ x6 ∧ x6 ≤ 201) → (1 ≤ mh a0 15 ∧ mh a0 15 ≤ 4) → (0 ≤ mh a0 2 ∧ mh a0 2 ≤ 0) → ((-1) ≤ mh a0 64 ∧ mh a0 64 ≤ 99999) → (1 ≤ mh a0 65 ∧ mh a0 65 ≤ 1) → (0 ≤ mh a0 66 ∧ mh a0 66 ≤ 0) → (0 ≤ mh a0 67 ∧ mh a0 67 ≤ 0) → (0 ≤ mh a0 68 ∧ mh a0 68 ≤ 0) → ((-1) ≤ mh a0 69 ∧ mh a0 69 ≤ (-1)) → (zR_C0 mh) → (zR_KN mh) → (zR_LT mh) → (zE1 mh 1) → (zE1 mh 0) → (zR_TE mh) → (201 - x6) * 1 + (31 - x4) * 202 + 0 < (k : Int) → zw (zu_ex (zt_T n) 184 195 [(40, a0), (0, a1), (0, x2), (0, x3), (0, x4), (0, x5), (0, x6)] [] mh) (fun v m => zi_I m ∧ zfr [(28, 3), (28, 54), (28, 64), (28, 65), (28, 66), (28, 67), (28, 68), (28, 69), (28, 70), (122, 0), (123, 0), (124, 0), (125, 0), (126, 0), (127, 0), (128, 0), (129, 0), (130, 0), (131, 0), (136, 0)] m0 m ∧ zs2 m0 m ∧ zR_C0 m ∧ zR_KN m ∧ zR_LT m ∧ zE1 m 0 ∧ zR_TE m ∧ ((-2147483648) ≤ v ∧ v ≤ 2147483647) ∧ (0 ≤ m a0 2 ∧ m a0 2 ≤ 0)))) : (∀ (x2 x3 : Int) (mh : zu_m), zi_I mh → zfr [(28, 3), (28, 54), (28, 64), (28, 65), (28, 66), (28, 67), (28, 68), (28, 69), (28, 70), (122, 0), (123, 0), (124, 0), (125, 0), (126, 0), (127, 0), (128, 0), (129, 0), (130, 0), (131, 0), (136, 0)] m0 mh → zs2 m0 mh → (0 ≤ a1 ∧ a1 ≤ 3) → (0 ≤ x2 ∧ x2 ≤ 0) → (0 ≤ x3 ∧ x3 ≤ 24) → (1 ≤ mh a0 15 ∧ mh a0 15 ≤ 4) → (0 ≤ mh a0 2 ∧ mh a0 2 ≤ 0) → (zR_C0 mh) → (zR_KN mh) → (zR_LT mh) → (zE1 mh 0) → (zR_TE mh) → (24 - x3) * 1 + 6514 < ((k + 1 : Nat) : Int) → zw (zu_ex (zt_T n) 184 19 [(40, a0), (0, a1), (0, x2), (0, x3), (2, 0), (2, 0), (2, 0)] [] mh) (fun v m => zi_I m ∧ zfr [(28, 3), (28, 54), (28, 64), (28, 65), (28, 66), (28, 67), (28, 68), (28, 69), (28, 70), (122, 0), (123, 0), (124, 0), (125, 0), (126, 0), (127, 0), (128, 0), (129, 0), (130, 0), (131, 0), (136, 0)] m0 m ∧ zs2 m0 m ∧ zR_C0 m ∧ zR_KN m ∧ zR_LT m ∧ zE1 m 0 ∧ zR_TE m ∧ ((-2147483648) ≤ v ∧ v ≤ 2147483647) ∧ (0 ≤ m a0 2 ∧ m a0 2 ≤ 0))) := by
      intro x2 x3 mh hImh hFmh hLmh hba1 hbx2 hbx3 hg3 hg4 hRC0mh hRKNmh hRLTmh hRSEmh hRTEmh hM
      refine zw_eq (zu_rega_at (zt_T n) (zm_184 n) (zdp_184 n) _ _ _ _ _ _ (zr_184_19 n _ _ a0 a1 x2 x3 mh)) ?_
      refine zw_bd (zw_eq (zu_call_at (zt_T n) (zm_182 n) (zdp_182 n) _ _ _ _ _ rfl (zr_182_0 n _ _ a0 mh)) ?_)
      have r1 : (-1) ≤ (mh a0 78) ∧ (mh a0 78) ≤ 24 := zi_rd hImh hc0 zb_28_78
      refine zw_ite (fun h2 => ?_) (fun h2 => ?_)
      · refine zw_some ?_
        refine zw_ite (fun h3 => ?_) (fun h3 => ?_)
        · refine zw_bd (zw_eq (zu_call_at (zt_T n) (zm_182 n) (zdp_182 n) _ _ _ _ _ rfl (zr_182_0 n _ _ a0 mh)) ?_)
          refine zw_ite (fun h4 => ?_) (fun h4 => ?_)
          · refine zw_some ?_
            have w5 := zu_w32_id (z := (mh a0 78) - 1) (by omega) (by omega)
            have hM : ((zu_w32 ((mh a0 78) - 1)) - (-1)) * 1 + 6489 < (k : Int) := by omega
            exact ih.2.1 x2 (zu_w32 ((mh a0 78) - 1)) mh hImh hFmh hLmh ⟨by omega, by omega⟩ ⟨by omega, by omega⟩ ⟨by omega, by omega⟩ ⟨by omega, by omega⟩ ⟨by omega, by omega⟩ hRC0mh hRKNmh hRLTmh hRSEmh hRTEmh hM
          · exfalso; omega
        · refine zw_b (by omega) ?_
          have b6 : 0 ≤ x3 ∧ x3 < 24 := by omega
          refine zw_if b6 ?_
          generalize hmm7 : zu_up mh 227 x3 1 = m7
          have hIm7 := zi_up hmm7 hImh zq_227 (zb_136 _) (by omega) (by omega)
          have hFm7 := zfr_up hmm7 hFmh zq_227 rfl
          have hLm7 := zs2_ne hmm7 hLmh zq_227 (by decide)
          have hRC0m7 := zR_C0_fr (zdis_fr (zfr_up hmm7 (zfr_rf [(136, 0)] _) zq_227 rfl) rfl) hRC0mh
          have hRKNm7 := zR_KN_fr (zdis_fr (zfr_up hmm7 (zfr_rf [(136, 0)] _) zq_227 rfl) rfl) hRKNmh
          have hRLTm7 := zR_LT_fr (zdis_fr (zfr_up hmm7 (zfr_rf [(136, 0)] _) zq_227 rfl) rfl) hRLTmh
          have hRSEm7 := zR_SE_fr (zdis_fr (zfr_up hmm7 (zfr_rf [(136, 0)] _) zq_227 rfl) rfl) hRSEmh
          have hRTEm7 := zR_TE_fr (zdis_fr (zfr_up hmm7 (zfr_rf [(136, 0)] _) zq_227 rfl) rfl) hRTEmh
          have w8 := zu_w32_id (z := x3 + 1) (by omega) (by omega)
          have r9 : (-2147483648) ≤ (m7 a0 2) ∧ (m7 a0 2) ≤ 2147483647 := zi_rd hIm7 hc0 zb_28_2
          have e10 : (m7 a0 2) = (mh a0 2) := (zs_ne hmm7 (Or.inl (zc_ne hc0 zq_227 (by decide))))
          have r11 : 0 ≤ (m7 a0 15) ∧ (m7 a0 15) ≤ 4 := zi_rd hIm7 hc0 zb_28_15
          have e12 : (m7 a0 15) = (mh a0 15) := (zs_ne hmm7 (Or.inl (zc_ne hc0 zq_227 (by decide))))
          have hM : (24 - (zu_w32 (x3 + 1))) * 1 + 6514 < (k : Int) := by omega
          exact ih.1 x2 (zu_w32 (x3 + 1)) m7 hIm7 hFm7 hLm7 ⟨by omega, by omega⟩ ⟨by omega, by omega⟩ ⟨by omega, by omega⟩ ⟨by omega, by omega⟩ ⟨by omega, by omega⟩ hRC0m7 hRKNm7 hRLTm7 hRSEm7 hRTEm7 hM
      · have r13 : 0 ≤ (mh a0 77) ∧ (mh a0 77) ≤ 24 := zi_rd hImh hc0 zb_28_77
        refine zw_some ?_
        refine zw_ite (fun h14 => ?_) (fun h14 => ?_)
        · refine zw_bd (zw_eq (zu_call_at (zt_T n) (zm_182 n) (zdp_182 n) _ _ _ _ _ rfl (zr_182_0 n _ _ a0 mh)) ?_)
          refine zw_ite (fun h15 => ?_) (fun h15 => ?_)
          · exfalso; omega
          · refine zw_some ?_
            have w16 := zu_w32_id (z := (mh a0 77) - 1) (by omega) (by omega)
            have hM : ((zu_w32 ((mh a0 77) - 1)) - (-1)) * 1 + 6489 < (k : Int) := by omega
            exact ih.2.1 x2 (zu_w32 ((mh a0 77) - 1)) mh hImh hFmh hLmh ⟨by omega, by omega⟩ ⟨by omega, by omega⟩ ⟨by omega, by omega⟩ ⟨by omega, by omega⟩ ⟨by omega, by omega⟩ hRC0mh hRKNmh hRLTmh hRSEmh hRTEmh hM
        · refine zw_b (by omega) ?_
          have b17 : 0 ≤ x3 ∧ x3 < 24 := by omega
          refine zw_if b17 ?_
          generalize hmm18 : zu_up mh 227 x3 1 = m18
          have hIm18 := zi_up hmm18 hImh zq_227 (zb_136 _) (by omega) (by omega)
          have hFm18 := zfr_up hmm18 hFmh zq_227 rfl
          have hLm18 := zs2_ne hmm18 hLmh zq_227 (by decide)
          have hRC0m18 := zR_C0_fr (zdis_fr (zfr_up hmm18 (zfr_rf [(136, 0)] _) zq_227 rfl) rfl) hRC0mh
          have hRKNm18 := zR_KN_fr (zdis_fr (zfr_up hmm18 (zfr_rf [(136, 0)] _) zq_227 rfl) rfl) hRKNmh
          have hRLTm18 := zR_LT_fr (zdis_fr (zfr_up hmm18 (zfr_rf [(136, 0)] _) zq_227 rfl) rfl) hRLTmh
          have hRSEm18 := zR_SE_fr (zdis_fr (zfr_up hmm18 (zfr_rf [(136, 0)] _) zq_227 rfl) rfl) hRSEmh
          have hRTEm18 := zR_TE_fr (zdis_fr (zfr_up hmm18 (zfr_rf [(136, 0)] _) zq_227 rfl) rfl) hRTEmh
          have w19 := zu_w32_id (z := x3 + 1) (by omega) (by omega)
          have r20 : (-2147483648) ≤ (m18 a0 2) ∧ (m18 a0 2) ≤ 2147483647 := zi_rd hIm18 hc0 zb_28_2
          have e21 : (m18 a0 2) = (mh a0 2) := (zs_ne hmm18 (Or.inl (zc_ne hc0 zq_227 (by decide))))
          have r22 : 0 ≤ (m18 a0 15) ∧ (m18 a0 15) ≤ 4 := zi_rd hIm18 hc0 zb_28_15
          have e23 : (m18 a0 15) = (mh a0 15) := (zs_ne hmm18 (Or.inl (zc_ne hc0 zq_227 (by decide))))
          have hM : (24 - (zu_w32 (x3 + 1))) * 1 + 6514 < (k : Int) := by omega
          exact ih.1 x2 (zu_w32 (x3 + 1)) m18 hIm18 hFm18 hLm18 ⟨by omega, by omega⟩ ⟨by omega, by omega⟩ ⟨by omega, by omega⟩ ⟨by omega, by omega⟩ ⟨by omega, by omega⟩ hRC0m18 hRKNm18 hRLTm18 hRSEm18 hRTEm18 hM
set_option maxHeartbeats 4000000 in
theorem zl_184H1k (n : Nat) {a0 a1 : Int} {m0 : zu_m} (hc0 : zcls a0 = 28)   (k : Nat) (ih : (∀ (x2 x3 : Int) (mh : zu_m), zi_I mh → zfr [(28, 3), (28, 54), (28, 64), (28, 65), (28, 66), (28, 67), (28, 68), (28, 69), (28, 70), (122, 0), (123, 0), (124, 0), (125, 0), (126, 0), (127, 0), (128, 0), (129, 0), (130, 0), (131, 0), (136, 0)] m0 mh → zs2 m0 mh → (0 ≤ a1 ∧ a1 ≤ 3) → (0 ≤ x2 ∧ x2 ≤ 0) → (0 ≤ x3 ∧ x3 ≤ 24) → (1 ≤ mh a0 15 ∧ mh a0 15 ≤ 4) → (0 ≤ mh a0 2 ∧ mh a0 2 ≤ 0) → (zR_C0 mh) → (zR_KN mh) → (zR_LT mh) → (zE1 mh 0) → (zR_TE mh) → (24 - x3) * 1 + 6514 < (k : Int) → zw (zu_ex (zt_T n) 184 19 [(40, a0), (0, a1), (0, x2), (0, x3), (2, 0), (2, 0), (2, 0)] [] mh) (fun v m => zi_I m ∧ zfr [(28, 3), (28, 54), (28, 64), (28, 65), (28, 66), (28, 67), (28, 68), (28, 69), (28, 70), (122, 0), (123, 0), (124, 0), (125, 0), (126, 0), (127, 0), (128, 0), (129, 0), (130, 0), (131, 0), (136, 0)] m0 m ∧ zs2 m0 m ∧ zR_C0 m ∧ zR_KN m ∧ zR_LT m ∧ zE1 m 0 ∧ zR_TE m ∧ ((-2147483648) ≤ v ∧ v ≤ 2147483647) ∧ (0 ≤ m a0 2 ∧ m a0 2 ≤ 0))) ∧ (∀ (x2 x3 : Int) (mh : zu_m), zi_I mh → zfr [(28, 3), (28, 54), (28, 64), (28, 65), (28, 66), (28, 67), (28, 68), (28, 69), (28, 70), (122, 0), (123, 0), (124, 0), (125, 0), (126, 0), (127, 0), (128, 0), (129, 0), (130, 0), (131, 0), (136, 0)] m0 mh → zs2 m0 mh → (0 ≤ a1 ∧ a1 ≤ 3) → (0 ≤ x2 ∧ x2 ≤ 0) → ((-1) ≤ x3 ∧ x3 ≤ 23) → (1 ≤ mh a0 15 ∧ mh a0 15 ≤ 4) → (0 ≤ mh a0 2 ∧ mh a0 2 ≤ 0) → (zR_C0 mh) → (zR_KN mh) → (zR_LT mh) → (zE1 mh 0) → (zR_TE mh) → (x3 - (-1)) * 1 + 6489 < (k : Int) → zw (zu_ex (zt_T n) 184 47 [(40, a0), (0, a1), (0, x2), (0, x3), (2, 0), (2, 0), (2, 0)] [] mh) (fun v m => zi_I m ∧ zfr [(28, 3), (28, 54), (28, 64), (28, 65), (28, 66), (28, 67), (28, 68), (28, 69), (28, 70), (122, 0), (123, 0), (124, 0), (125, 0), (126, 0), (127, 0), (128, 0), (129, 0), (130, 0), (131, 0), (136, 0)] m0 m ∧ zs2 m0 m ∧ zR_C0 m ∧ zR_KN m ∧ zR_LT m ∧ zE1 m 0 ∧ zR_TE m ∧ ((-2147483648) ≤ v ∧ v ≤ 2147483647) ∧ (0 ≤ m a0 2 ∧ m a0 2 ≤ 0))) ∧ (∀ (x2 x3 : Int) (mh : zu_m), zi_I mh → zfr [(28, 3), (28, 54), (28, 64), (28, 65), (28, 66), (28, 67), (28, 68), (28, 69), (28, 70), (122, 0), (123, 0), (124, 0), (125, 0), (126, 0), (127, 0), (128, 0), (129, 0), (130, 0), (131, 0), (136, 0)] m0 mh → zs2 m0 mh → (0 ≤ a1 ∧ a1 ≤ 3) → (0 ≤ x2 ∧ x2 ≤ 200) → (0 ≤ x3 ∧ x3 ≤ 24) → (1 ≤ mh a0 15 ∧ mh a0 15 ≤ 4) → (0 ≤ mh a0 2 ∧ mh a0 2 ≤ 0) → (zR_C0 mh) → (zR_KN mh) → (zR_LT mh) → (zE1 mh 0) → (zR_TE mh) → (24 - x3) * 1 + 6464 < (k : Int) → zw (zu_ex (zt_T n) 184 95 [(40, a0), (0, a1), (0, x2), (0, x3), (2, 0), (2, 0), (2, 0)] [] mh) (fun v m => zi_I m ∧ zfr [(28, 3), (28, 54), (28, 64), (28, 65), (28, 66), (28, 67), (28, 68), (28, 69), (28, 70), (122, 0), (123, 0), (124, 0), (125, 0), (126, 0), (127, 0), (128, 0), (129, 0), (130, 0), (131, 0), (136, 0)] m0 m ∧ zs2 m0 m ∧ zR_C0 m ∧ zR_KN m ∧ zR_LT m ∧ zE1 m 0 ∧ zR_TE m ∧ ((-2147483648) ≤ v ∧ v ≤ 2147483647) ∧ (0 ≤ m a0 2 ∧ m a0 2 ≤ 0))) ∧ (∀ (x2 x3 x4 : Int) (mh : zu_m), zi_I mh → zfr [(28, 3), (28, 54), (28, 64), (28, 65), (28, 66), (28, 67), (28, 68), (28, 69), (28, 70), (122, 0), (123, 0), (124, 0), (125, 0), (126, 0), (127, 0), (128, 0), (129, 0), (130, 0), (131, 0), (136, 0)] m0 mh → zs2 m0 mh → (0 ≤ a1 ∧ a1 ≤ 3) → (0 ≤ x2 ∧ x2 ≤ 200) → ((-2147483648) ≤ x3 ∧ x3 ≤ 2147483647) → (0 ≤ x4 ∧ x4 ≤ 31) → (1 ≤ mh a0 15 ∧ mh a0 15 ≤ 4) → (0 ≤ mh a0 2 ∧ mh a0 2 ≤ 0) → (zR_C0 mh) → (zR_KN mh) → (zR_LT mh) → (zE1 mh 0) → (zR_TE mh) → (31 - x4) * 202 + 201 < (k : Int) → zw (zu_ex (zt_T n) 184 148 [(40, a0), (0, a1), (0, x2), (0, x3), (0, x4), (2, 0), (2, 0)] [] mh) (fun v m => zi_I m ∧ zfr [(28, 3), (28, 54), (28, 64), (28, 65), (28, 66), (28, 67), (28, 68), (28, 69), (28, 70), (122, 0), (123, 0), (124, 0), (125, 0), (126, 0), (127, 0), (128, 0), (129, 0), (130, 0), (131, 0), (136, 0)] m0 m ∧ zs2 m0 m ∧ zR_C0 m ∧ zR_KN m ∧ zR_LT m ∧ zE1 m 0 ∧ zR_TE m ∧ ((-2147483648) ≤ v ∧ v ≤ 2147483647) ∧ (0 ≤ m a0 2 ∧ m a0 2 ≤ 0))) ∧ (∀ (x2 x3 x4 x5 x6 : Int) (mh : zu_m), zi_I mh → zfr [(28, 3), (28, 54), (28, 64), (28, 65), (28, 66), (28, 67), (28, 68), (28, 69), (28, 70), (122, 0), (123, 0), (124, 0), (125, 0), (126, 0), (127, 0), (128, 0), (129, 0), (130, 0), (131, 0), (136, 0)] m0 mh → zs2 m0 mh → (0 ≤ a1 ∧ a1 ≤ 3) → (0 ≤ x2 ∧ x2 ≤ 200) → ((-2147483648) ≤ x3 ∧ x3 ≤ 2147483647) → (0 ≤ x4 ∧ x4 ≤ 30) → (0 ≤ x5 ∧ x5 ≤ 1) → (1 ≤ x6 ∧ x6 ≤ 201) → (1 ≤ mh a0 15 ∧ mh a0 15 ≤ 4) → (0 ≤ mh a0 2 ∧ mh a0 2 ≤ 0) → ((-1) ≤ mh a0 64 ∧ mh a0 64 ≤ 99999) → (1 ≤ mh a0 65 ∧ mh a0 65 ≤ 1) → (0 ≤ mh a0 66 ∧ mh a0 66 ≤ 0) → (0 ≤ mh a0 67 ∧ mh a0 67 ≤ 0) → (0 ≤ mh a0 68 ∧ mh a0 68 ≤ 0) → ((-1) ≤ mh a0 69 ∧ mh a0 69 ≤ (-1)) → (zR_C0 mh) → (zR_KN mh) → (zR_LT mh) → (zE1 mh 1) → (zE1 mh 0) → (zR_TE mh) → (201 - x6) * 1 + (31 - x4) * 202 + 0 < (k : Int) → zw (zu_ex (zt_T n) 184 195 [(40, a0), (0, a1), (0, x2), (0, x3), (0, x4), (0, x5), (0, x6)] [] mh) (fun v m => zi_I m ∧ zfr [(28, 3), (28, 54), (28, 64), (28, 65), (28, 66), (28, 67), (28, 68), (28, 69), (28, 70), (122, 0), (123, 0), (124, 0), (125, 0), (126, 0), (127, 0), (128, 0), (129, 0), (130, 0), (131, 0), (136, 0)] m0 m ∧ zs2 m0 m ∧ zR_C0 m ∧ zR_KN m ∧ zR_LT m ∧ zE1 m 0 ∧ zR_TE m ∧ ((-2147483648) ≤ v ∧ v ≤ 2147483647) ∧ (0 ≤ m a0 2 ∧ m a0 2 ≤ 0)))) : (∀ (x2 x3 : Int) (mh : zu_m), zi_I mh → zfr [(28, 3), (28, 54), (28, 64), (28, 65), (28, 66), (28, 67), (28, 68), (28, 69), (28, 70), (122, 0), (123, 0), (124, 0), (125, 0), (126, 0), (127, 0), (128, 0), (129, 0), (130, 0), (131, 0), (136, 0)] m0 mh → zs2 m0 mh → (0 ≤ a1 ∧ a1 ≤ 3) → (0 ≤ x2 ∧ x2 ≤ 0) → ((-1) ≤ x3 ∧ x3 ≤ 23) → (1 ≤ mh a0 15 ∧ mh a0 15 ≤ 4) → (0 ≤ mh a0 2 ∧ mh a0 2 ≤ 0) → (zR_C0 mh) → (zR_KN mh) → (zR_LT mh) → (zE1 mh 0) → (zR_TE mh) → (x3 - (-1)) * 1 + 6489 < ((k + 1 : Nat) : Int) → zw (zu_ex (zt_T n) 184 47 [(40, a0), (0, a1), (0, x2), (0, x3), (2, 0), (2, 0), (2, 0)] [] mh) (fun v m => zi_I m ∧ zfr [(28, 3), (28, 54), (28, 64), (28, 65), (28, 66), (28, 67), (28, 68), (28, 69), (28, 70), (122, 0), (123, 0), (124, 0), (125, 0), (126, 0), (127, 0), (128, 0), (129, 0), (130, 0), (131, 0), (136, 0)] m0 m ∧ zs2 m0 m ∧ zR_C0 m ∧ zR_KN m ∧ zR_LT m ∧ zE1 m 0 ∧ zR_TE m ∧ ((-2147483648) ≤ v ∧ v ≤ 2147483647) ∧ (0 ≤ m a0 2 ∧ m a0 2 ≤ 0))) := by
      intro x2 x3 mh hImh hFmh hLmh hba1 hbx2 hbx3 hg3 hg4 hRC0mh hRKNmh hRLTmh hRSEmh hRTEmh hM
      refine zw_eq (zu_rega_at (zt_T n) (zm_184 n) (zdp_184 n) _ _ _ _ _ _ (zr_184_47 n _ _ a0 a1 x2 x3 mh)) ?_
      refine zw_ite (fun h24 => ?_) (fun h24 => ?_)
      · have hM : (24 - 0) * 1 + 6464 < (k : Int) := by omega
        exact ih.2.2.1 x2 0 mh hImh hFmh hLmh ⟨by omega, by omega⟩ ⟨by omega, by omega⟩ ⟨by omega, by omega⟩ ⟨by omega, by omega⟩ ⟨by omega, by omega⟩ hRC0mh hRKNmh hRLTmh hRSEmh hRTEmh hM
      · have b25 : 0 ≤ x3 ∧ x3 < 24 := by omega
        refine zw_if b25 ?_
        have r26 : 0 ≤ (mh 227 x3) ∧ (mh 227 x3) ≤ 1 := zi_rd hImh zq_227 (zb_136 _)
        refine zw_ite (fun h27 => ?_) (fun h27 => ?_)
        · have w28 := zu_w32_id (z := x3 + (-1)) (by omega) (by omega)
          have hM : ((zu_w32 (x3 + (-1))) - (-1)) * 1 + 6489 < (k : Int) := by omega
          exact ih.2.1 x2 (zu_w32 (x3 + (-1))) mh hImh hFmh hLmh ⟨by omega, by omega⟩ ⟨by omega, by omega⟩ ⟨by omega, by omega⟩ ⟨by omega, by omega⟩ ⟨by omega, by omega⟩ hRC0mh hRKNmh hRLTmh hRSEmh hRTEmh hM
        · have w29 := zu_w32_id (z := 4 * x3) (by omega) (by omega)
          have b30 : 0 ≤ (zu_w32 (4 * x3)) ∧ (zu_w32 (4 * x3)) < 96 := by omega
          refine zw_if b30 ?_
          have r31 : (-1) ≤ (mh 226 (zu_w32 (4 * x3))) ∧ (mh 226 (zu_w32 (4 * x3))) ≤ 200 := zi_rdr (m := 4) (r0 := 0) (r1 := 0) hImh zq_226 (by omega) (by decide +kernel)
          refine zw_ite (fun h32 => ?_) (fun h32 => ?_)
          · have w33 := zu_w32_id (z := x3 + (-1)) (by omega) (by omega)
            have hM : ((zu_w32 (x3 + (-1))) - (-1)) * 1 + 6489 < (k : Int) := by omega
            exact ih.2.1 x2 (zu_w32 (x3 + (-1))) mh hImh hFmh hLmh ⟨by omega, by omega⟩ ⟨by omega, by omega⟩ ⟨by omega, by omega⟩ ⟨by omega, by omega⟩ ⟨by omega, by omega⟩ hRC0mh hRKNmh hRLTmh hRSEmh hRTEmh hM
          · have w34 := zu_w32_id (z := (zu_w32 (4 * x3)) + 1) (by omega) (by omega)
            have b35 : 0 ≤ (zu_w32 ((zu_w32 (4 * x3)) + 1)) ∧ (zu_w32 ((zu_w32 (4 * x3)) + 1)) < 96 := by omega
            refine zw_if b35 ?_
            have r36 : 0 ≤ (mh 226 (zu_w32 ((zu_w32 (4 * x3)) + 1))) ∧ (mh 226 (zu_w32 ((zu_w32 (4 * x3)) + 1))) ≤ 23 := zi_rdr (m := 4) (r0 := 1) (r1 := 1) hImh zq_226 (by omega) (by decide +kernel)
            refine zw_b (by omega) ?_
            have b37 : 0 ≤ (mh 226 (zu_w32 ((zu_w32 (4 * x3)) + 1))) ∧ (mh 226 (zu_w32 ((zu_w32 (4 * x3)) + 1))) < 24 := by omega
            refine zw_if b37 ?_
            generalize hmm38 : zu_up mh 227 (mh 226 (zu_w32 ((zu_w32 (4 * x3)) + 1))) 0 = m38
            have hIm38 := zi_up hmm38 hImh zq_227 (zb_136 _) (by omega) (by omega)
            have hFm38 := zfr_up hmm38 hFmh zq_227 rfl
            have hLm38 := zs2_ne hmm38 hLmh zq_227 (by decide)
            have hRC0m38 := zR_C0_fr (zdis_fr (zfr_up hmm38 (zfr_rf [(136, 0)] _) zq_227 rfl) rfl) hRC0mh
            have hRKNm38 := zR_KN_fr (zdis_fr (zfr_up hmm38 (zfr_rf [(136, 0)] _) zq_227 rfl) rfl) hRKNmh
            have hRLTm38 := zR_LT_fr (zdis_fr (zfr_up hmm38 (zfr_rf [(136, 0)] _) zq_227 rfl) rfl) hRLTmh
            have hRSEm38 := zR_SE_fr (zdis_fr (zfr_up hmm38 (zfr_rf [(136, 0)] _) zq_227 rfl) rfl) hRSEmh
            have hRTEm38 := zR_TE_fr (zdis_fr (zfr_up hmm38 (zfr_rf [(136, 0)] _) zq_227 rfl) rfl) hRTEmh
            have w39 := zu_w32_id (z := x3 + (-1)) (by omega) (by omega)
            have r40 : (-2147483648) ≤ (m38 a0 2) ∧ (m38 a0 2) ≤ 2147483647 := zi_rd hIm38 hc0 zb_28_2
            have e41 : (m38 a0 2) = (mh a0 2) := (zs_ne hmm38 (Or.inl (zc_ne hc0 zq_227 (by decide))))
            have r42 : 0 ≤ (m38 a0 15) ∧ (m38 a0 15) ≤ 4 := zi_rd hIm38 hc0 zb_28_15
            have e43 : (m38 a0 15) = (mh a0 15) := (zs_ne hmm38 (Or.inl (zc_ne hc0 zq_227 (by decide))))
            have hM : ((zu_w32 (x3 + (-1))) - (-1)) * 1 + 6489 < (k : Int) := by omega
            exact ih.2.1 x2 (zu_w32 (x3 + (-1))) m38 hIm38 hFm38 hLm38 ⟨by omega, by omega⟩ ⟨by omega, by omega⟩ ⟨by omega, by omega⟩ ⟨by omega, by omega⟩ ⟨by omega, by omega⟩ hRC0m38 hRKNm38 hRLTm38 hRSEm38 hRTEm38 hM
set_option maxHeartbeats 4000000 in
theorem zl_184H2k (n : Nat) {a0 a1 : Int} {m0 : zu_m} (hc0 : zcls a0 = 28)   (k : Nat) (ih : (∀ (x2 x3 : Int) (mh : zu_m), zi_I mh → zfr [(28, 3), (28, 54), (28, 64), (28, 65), (28, 66), (28, 67), (28, 68), (28, 69), (28, 70), (122, 0), (123, 0), (124, 0), (125, 0), (126, 0), (127, 0), (128, 0), (129, 0), (130, 0), (131, 0), (136, 0)] m0 mh → zs2 m0 mh → (0 ≤ a1 ∧ a1 ≤ 3) → (0 ≤ x2 ∧ x2 ≤ 0) → (0 ≤ x3 ∧ x3 ≤ 24) → (1 ≤ mh a0 15 ∧ mh a0 15 ≤ 4) → (0 ≤ mh a0 2 ∧ mh a0 2 ≤ 0) → (zR_C0 mh) → (zR_KN mh) → (zR_LT mh) → (zE1 mh 0) → (zR_TE mh) → (24 - x3) * 1 + 6514 < (k : Int) → zw (zu_ex (zt_T n) 184 19 [(40, a0), (0, a1), (0, x2), (0, x3), (2, 0), (2, 0), (2, 0)] [] mh) (fun v m => zi_I m ∧ zfr [(28, 3), (28, 54), (28, 64), (28, 65), (28, 66), (28, 67), (28, 68), (28, 69), (28, 70), (122, 0), (123, 0), (124, 0), (125, 0), (126, 0), (127, 0), (128, 0), (129, 0), (130, 0), (131, 0), (136, 0)] m0 m ∧ zs2 m0 m ∧ zR_C0 m ∧ zR_KN m ∧ zR_LT m ∧ zE1 m 0 ∧ zR_TE m ∧ ((-2147483648) ≤ v ∧ v ≤ 2147483647) ∧ (0 ≤ m a0 2 ∧ m a0 2 ≤ 0))) ∧ (∀ (x2 x3 : Int) (mh : zu_m), zi_I mh → zfr [(28, 3), (28, 54), (28, 64), (28, 65), (28, 66), (28, 67), (28, 68), (28, 69), (28, 70), (122, 0), (123, 0), (124, 0), (125, 0), (126, 0), (127, 0), (128, 0), (129, 0), (130, 0), (131, 0), (136, 0)] m0 mh → zs2 m0 mh → (0 ≤ a1 ∧ a1 ≤ 3) → (0 ≤ x2 ∧ x2 ≤ 0) → ((-1) ≤ x3 ∧ x3 ≤ 23) → (1 ≤ mh a0 15 ∧ mh a0 15 ≤ 4) → (0 ≤ mh a0 2 ∧ mh a0 2 ≤ 0) → (zR_C0 mh) → (zR_KN mh) → (zR_LT mh) → (zE1 mh 0) → (zR_TE mh) → (x3 - (-1)) * 1 + 6489 < (k : Int) → zw (zu_ex (zt_T n) 184 47 [(40, a0), (0, a1), (0, x2), (0, x3), (2, 0), (2, 0), (2, 0)] [] mh) (fun v m => zi_I m ∧ zfr [(28, 3), (28, 54), (28, 64), (28, 65), (28, 66), (28, 67), (28, 68), (28, 69), (28, 70), (122, 0), (123, 0), (124, 0), (125, 0), (126, 0), (127, 0), (128, 0), (129, 0), (130, 0), (131, 0), (136, 0)] m0 m ∧ zs2 m0 m ∧ zR_C0 m ∧ zR_KN m ∧ zR_LT m ∧ zE1 m 0 ∧ zR_TE m ∧ ((-2147483648) ≤ v ∧ v ≤ 2147483647) ∧ (0 ≤ m a0 2 ∧ m a0 2 ≤ 0))) ∧ (∀ (x2 x3 : Int) (mh : zu_m), zi_I mh → zfr [(28, 3), (28, 54), (28, 64), (28, 65), (28, 66), (28, 67), (28, 68), (28, 69), (28, 70), (122, 0), (123, 0), (124, 0), (125, 0), (126, 0), (127, 0), (128, 0), (129, 0), (130, 0), (131, 0), (136, 0)] m0 mh → zs2 m0 mh → (0 ≤ a1 ∧ a1 ≤ 3) → (0 ≤ x2 ∧ x2 ≤ 200) → (0 ≤ x3 ∧ x3 ≤ 24) → (1 ≤ mh a0 15 ∧ mh a0 15 ≤ 4) → (0 ≤ mh a0 2 ∧ mh a0 2 ≤ 0) → (zR_C0 mh) → (zR_KN mh) → (zR_LT mh) → (zE1 mh 0) → (zR_TE mh) → (24 - x3) * 1 + 6464 < (k : Int) → zw (zu_ex (zt_T n) 184 95 [(40, a0), (0, a1), (0, x2), (0, x3), (2, 0), (2, 0), (2, 0)] [] mh) (fun v m => zi_I m ∧ zfr [(28, 3), (28, 54), (28, 64), (28, 65), (28, 66), (28, 67), (28, 68), (28, 69), (28, 70), (122, 0), (123, 0), (124, 0), (125, 0), (126, 0), (127, 0), (128, 0), (129, 0), (130, 0), (131, 0), (136, 0)] m0 m ∧ zs2 m0 m ∧ zR_C0 m ∧ zR_KN m ∧ zR_LT m ∧ zE1 m 0 ∧ zR_TE m ∧ ((-2147483648) ≤ v ∧ v ≤ 2147483647) ∧ (0 ≤ m a0 2 ∧ m a0 2 ≤ 0))) ∧ (∀ (x2 x3 x4 : Int) (mh : zu_m), zi_I mh → zfr [(28, 3), (28, 54), (28, 64), (28, 65), (28, 66), (28, 67), (28, 68), (28, 69), (28, 70), (122, 0), (123, 0), (124, 0), (125, 0), (126, 0), (127, 0), (128, 0), (129, 0), (130, 0), (131, 0), (136, 0)] m0 mh → zs2 m0 mh → (0 ≤ a1 ∧ a1 ≤ 3) → (0 ≤ x2 ∧ x2 ≤ 200) → ((-2147483648) ≤ x3 ∧ x3 ≤ 2147483647) → (0 ≤ x4 ∧ x4 ≤ 31) → (1 ≤ mh a0 15 ∧ mh a0 15 ≤ 4) → (0 ≤ mh a0 2 ∧ mh a0 2 ≤ 0) → (zR_C0 mh) → (zR_KN mh) → (zR_LT mh) → (zE1 mh 0) → (zR_TE mh) → (31 - x4) * 202 + 201 < (k : Int) → zw (zu_ex (zt_T n) 184 148 [(40, a0), (0, a1), (0, x2), (0, x3), (0, x4), (2, 0), (2, 0)] [] mh) (fun v m => zi_I m ∧ zfr [(28, 3), (28, 54), (28, 64), (28, 65), (28, 66), (28, 67), (28, 68), (28, 69), (28, 70), (122, 0), (123, 0), (124, 0), (125, 0), (126, 0), (127, 0), (128, 0), (129, 0), (130, 0), (131, 0), (136, 0)] m0 m ∧ zs2 m0 m ∧ zR_C0 m ∧ zR_KN m ∧ zR_LT m ∧ zE1 m 0 ∧ zR_TE m ∧ ((-2147483648) ≤ v ∧ v ≤ 2147483647) ∧ (0 ≤ m a0 2 ∧ m a0 2 ≤ 0))) ∧ (∀ (x2 x3 x4 x5 x6 : Int) (mh : zu_m), zi_I mh → zfr [(28, 3), (28, 54), (28, 64), (28, 65), (28, 66), (28, 67), (28, 68), (28, 69), (28, 70), (122, 0), (123, 0), (124, 0), (125, 0), (126, 0), (127, 0), (128, 0), (129, 0), (130, 0), (131, 0), (136, 0)] m0 mh → zs2 m0 mh → (0 ≤ a1 ∧ a1 ≤ 3) → (0 ≤ x2 ∧ x2 ≤ 200) → ((-2147483648) ≤ x3 ∧ x3 ≤ 2147483647) → (0 ≤ x4 ∧ x4 ≤ 30) → (0 ≤ x5 ∧ x5 ≤ 1) → (1 ≤ x6 ∧ x6 ≤ 201) → (1 ≤ mh a0 15 ∧ mh a0 15 ≤ 4) → (0 ≤ mh a0 2 ∧ mh a0 2 ≤ 0) → ((-1) ≤ mh a0 64 ∧ mh a0 64 ≤ 99999) → (1 ≤ mh a0 65 ∧ mh a0 65 ≤ 1) → (0 ≤ mh a0 66 ∧ mh a0 66 ≤ 0) → (0 ≤ mh a0 67 ∧ mh a0 67 ≤ 0) → (0 ≤ mh a0 68 ∧ mh a0 68 ≤ 0) → ((-1) ≤ mh a0 69 ∧ mh a0 69 ≤ (-1)) → (zR_C0 mh) → (zR_KN mh) → (zR_LT mh) → (zE1 mh 1) → (zE1 mh 0) → (zR_TE mh) → (201 - x6) * 1 + (31 - x4) * 202 + 0 < (k : Int) → zw (zu_ex (zt_T n) 184 195 [(40, a0), (0, a1), (0, x2), (0, x3), (0, x4), (0, x5), (0, x6)] [] mh) (fun v m => zi_I m ∧ zfr [(28, 3), (28, 54), (28, 64), (28, 65), (28, 66), (28, 67), (28, 68), (28, 69), (28, 70), (122, 0), (123, 0), (124, 0), (125, 0), (126, 0), (127, 0), (128, 0), (129, 0), (130, 0), (131, 0), (136, 0)] m0 m ∧ zs2 m0 m ∧ zR_C0 m ∧ zR_KN m ∧ zR_LT m ∧ zE1 m 0 ∧ zR_TE m ∧ ((-2147483648) ≤ v ∧ v ≤ 2147483647) ∧ (0 ≤ m a0 2 ∧ m a0 2 ≤ 0)))) : (∀ (x2 x3 : Int) (mh : zu_m), zi_I mh → zfr [(28, 3), (28, 54), (28, 64), (28, 65), (28, 66), (28, 67), (28, 68), (28, 69), (28, 70), (122, 0), (123, 0), (124, 0), (125, 0), (126, 0), (127, 0), (128, 0), (129, 0), (130, 0), (131, 0), (136, 0)] m0 mh → zs2 m0 mh → (0 ≤ a1 ∧ a1 ≤ 3) → (0 ≤ x2 ∧ x2 ≤ 200) → (0 ≤ x3 ∧ x3 ≤ 24) → (1 ≤ mh a0 15 ∧ mh a0 15 ≤ 4) → (0 ≤ mh a0 2 ∧ mh a0 2 ≤ 0) → (zR_C0 mh) → (zR_KN mh) → (zR_LT mh) → (zE1 mh 0) → (zR_TE mh) → (24 - x3) * 1 + 6464 < ((k + 1 : Nat) : Int) → zw (zu_ex (zt_T n) 184 95 [(40, a0), (0, a1), (0, x2), (0, x3), (2, 0), (2, 0), (2, 0)] [] mh) (fun v m => zi_I m ∧ zfr [(28, 3), (28, 54), (28, 64), (28, 65), (28, 66), (28, 67), (28, 68), (28, 69), (28, 70), (122, 0), (123, 0), (124, 0), (125, 0), (126, 0), (127, 0), (128, 0), (129, 0), (130, 0), (131, 0), (136, 0)] m0 m ∧ zs2 m0 m ∧ zR_C0 m ∧ zR_KN m ∧ zR_LT m ∧ zE1 m 0 ∧ zR_TE m ∧ ((-2147483648) ≤ v ∧ v ≤ 2147483647) ∧ (0 ≤ m a0 2 ∧ m a0 2 ≤ 0))) := by
      intro x2 x3 mh hImh hFmh hLmh hba1 hbx2 hbx3 hg3 hg4 hRC0mh hRKNmh hRLTmh hRSEmh hRTEmh hM
      refine zw_eq (zu_rega_at (zt_T n) (zm_184 n) (zdp_184 n) _ _ _ _ _ _ (zr_184_95 n _ _ a0 a1 x2 x3 mh)) ?_
      refine zw_bd (zw_eq (zu_call_at (zt_T n) (zm_182 n) (zdp_182 n) _ _ _ _ _ rfl (zr_182_0 n _ _ a0 mh)) ?_)
      have r44 : (-1) ≤ (mh a0 78) ∧ (mh a0 78) ≤ 24 := zi_rd hImh hc0 zb_28_78
      refine zw_ite (fun h45 => ?_) (fun h45 => ?_)
      · refine zw_some ?_
        refine zw_ite (fun h46 => ?_) (fun h46 => ?_)
        · have hM : (31 - 0) * 202 + 201 < (k : Int) := by omega
          exact ih.2.2.2.1 x2 0 0 mh hImh hFmh hLmh ⟨by omega, by omega⟩ ⟨by omega, by omega⟩ ⟨by omega, by omega⟩ ⟨by omega, by omega⟩ ⟨by omega, by omega⟩ ⟨by omega, by omega⟩ hRC0mh hRKNmh hRLTmh hRSEmh hRTEmh hM
        · have b47 : 0 ≤ x3 ∧ x3 < 24 := by omega
          refine zw_if b47 ?_
          have r48 : 0 ≤ (mh 227 x3) ∧ (mh 227 x3) ≤ 1 := zi_rd hImh zq_227 (zb_136 _)
          refine zw_ite (fun h49 => ?_) (fun h49 => ?_)
          · have w50 := zu_w32_id (z := x3 + 1) (by omega) (by omega)
            have hM : (24 - (zu_w32 (x3 + 1))) * 1 + 6464 < (k : Int) := by omega
            exact ih.2.2.1 x2 (zu_w32 (x3 + 1)) mh hImh hFmh hLmh ⟨by omega, by omega⟩ ⟨by omega, by omega⟩ ⟨by omega, by omega⟩ ⟨by omega, by omega⟩ ⟨by omega, by omega⟩ hRC0mh hRKNmh hRLTmh hRSEmh hRTEmh hM
          · have w51 := zu_w32_id (z := 4 * x3) (by omega) (by omega)
            have b52 : 0 ≤ (zu_w32 (4 * x3)) ∧ (zu_w32 (4 * x3)) < 96 := by omega
            refine zw_if b52 ?_
            have r53 : (-1) ≤ (mh 226 (zu_w32 (4 * x3))) ∧ (mh 226 (zu_w32 (4 * x3))) ≤ 200 := zi_rdr (m := 4) (r0 := 0) (r1 := 0) hImh zq_226 (by omega) (by decide +kernel)
            refine zw_ite (fun h54 => ?_) (fun h54 => ?_)
            · have w55 := zu_w32_id (z := x3 + 1) (by omega) (by omega)
              have hM : (24 - (zu_w32 (x3 + 1))) * 1 + 6464 < (k : Int) := by omega
              exact ih.2.2.1 x2 (zu_w32 (x3 + 1)) mh hImh hFmh hLmh ⟨by omega, by omega⟩ ⟨by omega, by omega⟩ ⟨by omega, by omega⟩ ⟨by omega, by omega⟩ ⟨by omega, by omega⟩ hRC0mh hRKNmh hRLTmh hRSEmh hRTEmh hM
            · have b56 : 0 ≤ (zu_w32 (4 * x3)) ∧ (zu_w32 (4 * x3)) < 96 := by omega
              refine zw_if b56 ?_
              have w57 := zu_w32_id (z := x3 + 1) (by omega) (by omega)
              have hM : (24 - (zu_w32 (x3 + 1))) * 1 + 6464 < (k : Int) := by omega
              exact ih.2.2.1 (mh 226 (zu_w32 (4 * x3))) (zu_w32 (x3 + 1)) mh hImh hFmh hLmh ⟨by omega, by omega⟩ ⟨by omega, by omega⟩ ⟨by omega, by omega⟩ ⟨by omega, by omega⟩ ⟨by omega, by omega⟩ hRC0mh hRKNmh hRLTmh hRSEmh hRTEmh hM
      · have r58 : 0 ≤ (mh a0 77) ∧ (mh a0 77) ≤ 24 := zi_rd hImh hc0 zb_28_77
        refine zw_some ?_
        refine zw_ite (fun h59 => ?_) (fun h59 => ?_)
        · have hM : (31 - 0) * 202 + 201 < (k : Int) := by omega
          exact ih.2.2.2.1 x2 0 0 mh hImh hFmh hLmh ⟨by omega, by omega⟩ ⟨by omega, by omega⟩ ⟨by omega, by omega⟩ ⟨by omega, by omega⟩ ⟨by omega, by omega⟩ ⟨by omega, by omega⟩ hRC0mh hRKNmh hRLTmh hRSEmh hRTEmh hM
        · have b60 : 0 ≤ x3 ∧ x3 < 24 := by omega
          refine zw_if b60 ?_
          have r61 : 0 ≤ (mh 227 x3) ∧ (mh 227 x3) ≤ 1 := zi_rd hImh zq_227 (zb_136 _)
          refine zw_ite (fun h62 => ?_) (fun h62 => ?_)
          · have w63 := zu_w32_id (z := x3 + 1) (by omega) (by omega)
            have hM : (24 - (zu_w32 (x3 + 1))) * 1 + 6464 < (k : Int) := by omega
            exact ih.2.2.1 x2 (zu_w32 (x3 + 1)) mh hImh hFmh hLmh ⟨by omega, by omega⟩ ⟨by omega, by omega⟩ ⟨by omega, by omega⟩ ⟨by omega, by omega⟩ ⟨by omega, by omega⟩ hRC0mh hRKNmh hRLTmh hRSEmh hRTEmh hM
          · have w64 := zu_w32_id (z := 4 * x3) (by omega) (by omega)
            have b65 : 0 ≤ (zu_w32 (4 * x3)) ∧ (zu_w32 (4 * x3)) < 96 := by omega
            refine zw_if b65 ?_
            have r66 : (-1) ≤ (mh 226 (zu_w32 (4 * x3))) ∧ (mh 226 (zu_w32 (4 * x3))) ≤ 200 := zi_rdr (m := 4) (r0 := 0) (r1 := 0) hImh zq_226 (by omega) (by decide +kernel)
            refine zw_ite (fun h67 => ?_) (fun h67 => ?_)
            · have w68 := zu_w32_id (z := x3 + 1) (by omega) (by omega)
              have hM : (24 - (zu_w32 (x3 + 1))) * 1 + 6464 < (k : Int) := by omega
              exact ih.2.2.1 x2 (zu_w32 (x3 + 1)) mh hImh hFmh hLmh ⟨by omega, by omega⟩ ⟨by omega, by omega⟩ ⟨by omega, by omega⟩ ⟨by omega, by omega⟩ ⟨by omega, by omega⟩ hRC0mh hRKNmh hRLTmh hRSEmh hRTEmh hM
            · have b69 : 0 ≤ (zu_w32 (4 * x3)) ∧ (zu_w32 (4 * x3)) < 96 := by omega
              refine zw_if b69 ?_
              have w70 := zu_w32_id (z := x3 + 1) (by omega) (by omega)
              have hM : (24 - (zu_w32 (x3 + 1))) * 1 + 6464 < (k : Int) := by omega
              exact ih.2.2.1 (mh 226 (zu_w32 (4 * x3))) (zu_w32 (x3 + 1)) mh hImh hFmh hLmh ⟨by omega, by omega⟩ ⟨by omega, by omega⟩ ⟨by omega, by omega⟩ ⟨by omega, by omega⟩ ⟨by omega, by omega⟩ hRC0mh hRKNmh hRLTmh hRSEmh hRTEmh hM
set_option maxHeartbeats 4000000 in
theorem zl_184H3k (n : Nat) {a0 a1 : Int} {m0 : zu_m} (hc0 : zcls a0 = 28)   (k : Nat) (ih : (∀ (x2 x3 : Int) (mh : zu_m), zi_I mh → zfr [(28, 3), (28, 54), (28, 64), (28, 65), (28, 66), (28, 67), (28, 68), (28, 69), (28, 70), (122, 0), (123, 0), (124, 0), (125, 0), (126, 0), (127, 0), (128, 0), (129, 0), (130, 0), (131, 0), (136, 0)] m0 mh → zs2 m0 mh → (0 ≤ a1 ∧ a1 ≤ 3) → (0 ≤ x2 ∧ x2 ≤ 0) → (0 ≤ x3 ∧ x3 ≤ 24) → (1 ≤ mh a0 15 ∧ mh a0 15 ≤ 4) → (0 ≤ mh a0 2 ∧ mh a0 2 ≤ 0) → (zR_C0 mh) → (zR_KN mh) → (zR_LT mh) → (zE1 mh 0) → (zR_TE mh) → (24 - x3) * 1 + 6514 < (k : Int) → zw (zu_ex (zt_T n) 184 19 [(40, a0), (0, a1), (0, x2), (0, x3), (2, 0), (2, 0), (2, 0)] [] mh) (fun v m => zi_I m ∧ zfr [(28, 3), (28, 54), (28, 64), (28, 65), (28, 66), (28, 67), (28, 68), (28, 69), (28, 70), (122, 0), (123, 0), (124, 0), (125, 0), (126, 0), (127, 0), (128, 0), (129, 0), (130, 0), (131, 0), (136, 0)] m0 m ∧ zs2 m0 m ∧ zR_C0 m ∧ zR_KN m ∧ zR_LT m ∧ zE1 m 0 ∧ zR_TE m ∧ ((-2147483648) ≤ v ∧ v ≤ 2147483647) ∧ (0 ≤ m a0 2 ∧ m a0 2 ≤ 0))) ∧ (∀ (x2 x3 : Int) (mh : zu_m), zi_I mh → zfr [(28, 3), (28, 54), (28, 64), (28, 65), (28, 66), (28, 67), (28, 68), (28, 69), (28, 70), (122, 0), (123, 0), (124, 0), (125, 0), (126, 0), (127, 0), (128, 0), (129, 0), (130, 0), (131, 0), (136, 0)] m0 mh → zs2 m0 mh → (0 ≤ a1 ∧ a1 ≤ 3) → (0 ≤ x2 ∧ x2 ≤ 0) → ((-1) ≤ x3 ∧ x3 ≤ 23) → (1 ≤ mh a0 15 ∧ mh a0 15 ≤ 4) → (0 ≤ mh a0 2 ∧ mh a0 2 ≤ 0) → (zR_C0 mh) → (zR_KN mh) → (zR_LT mh) → (zE1 mh 0) → (zR_TE mh) → (x3 - (-1)) * 1 + 6489 < (k : Int) → zw (zu_ex (zt_T n) 184 47 [(40, a0), (0, a1), (0, x2), (0, x3), (2, 0), (2, 0), (2, 0)] [] mh) (fun v m => zi_I m ∧ zfr [(28, 3), (28, 54), (28, 64), (28, 65), (28, 66), (28, 67), (28, 68), (28, 69), (28, 70), (122, 0), (123, 0), (124, 0), (125, 0), (126, 0), (127, 0), (128, 0), (129, 0), (130, 0), (131, 0), (136, 0)] m0 m ∧ zs2 m0 m ∧ zR_C0 m ∧ zR_KN m ∧ zR_LT m ∧ zE1 m 0 ∧ zR_TE m ∧ ((-2147483648) ≤ v ∧ v ≤ 2147483647) ∧ (0 ≤ m a0 2 ∧ m a0 2 ≤ 0))) ∧ (∀ (x2 x3 : Int) (mh : zu_m), zi_I mh → zfr [(28, 3), (28, 54), (28, 64), (28, 65), (28, 66), (28, 67), (28, 68), (28, 69), (28, 70), (122, 0), (123, 0), (124, 0), (125, 0), (126, 0), (127, 0), (128, 0), (129, 0), (130, 0), (131, 0), (136, 0)] m0 mh → zs2 m0 mh → (0 ≤ a1 ∧ a1 ≤ 3) → (0 ≤ x2 ∧ x2 ≤ 200) → (0 ≤ x3 ∧ x3 ≤ 24) → (1 ≤ mh a0 15 ∧ mh a0 15 ≤ 4) → (0 ≤ mh a0 2 ∧ mh a0 2 ≤ 0) → (zR_C0 mh) → (zR_KN mh) → (zR_LT mh) → (zE1 mh 0) → (zR_TE mh) → (24 - x3) * 1 + 6464 < (k : Int) → zw (zu_ex (zt_T n) 184 95 [(40, a0), (0, a1), (0, x2), (0, x3), (2, 0), (2, 0), (2, 0)] [] mh) (fun v m => zi_I m ∧ zfr [(28, 3), (28, 54), (28, 64), (28, 65), (28, 66), (28, 67), (28, 68), (28, 69), (28, 70), (122, 0), (123, 0), (124, 0), (125, 0), (126, 0), (127, 0), (128, 0), (129, 0), (130, 0), (131, 0), (136, 0)] m0 m ∧ zs2 m0 m ∧ zR_C0 m ∧ zR_KN m ∧ zR_LT m ∧ zE1 m 0 ∧ zR_TE m ∧ ((-2147483648) ≤ v ∧ v ≤ 2147483647) ∧ (0 ≤ m a0 2 ∧ m a0 2 ≤ 0))) ∧ (∀ (x2 x3 x4 : Int) (mh : zu_m), zi_I mh → zfr [(28, 3), (28, 54), (28, 64), (28, 65), (28, 66), (28, 67), (28, 68), (28, 69), (28, 70), (122, 0), (123, 0), (124, 0), (125, 0), (126, 0), (127, 0), (128, 0), (129, 0), (130, 0), (131, 0), (136, 0)] m0 mh → zs2 m0 mh → (0 ≤ a1 ∧ a1 ≤ 3) → (0 ≤ x2 ∧ x2 ≤ 200) → ((-2147483648) ≤ x3 ∧ x3 ≤ 2147483647) → (0 ≤ x4 ∧ x4 ≤ 31) → (1 ≤ mh a0 15 ∧ mh a0 15 ≤ 4) → (0 ≤ mh a0 2 ∧ mh a0 2 ≤ 0) → (zR_C0 mh) → (zR_KN mh) → (zR_LT mh) → (zE1 mh 0) → (zR_TE mh) → (31 - x4) * 202 + 201 < (k : Int) → zw (zu_ex (zt_T n) 184 148 [(40, a0), (0, a1), (0, x2), (0, x3), (0, x4), (2, 0), (2, 0)] [] mh) (fun v m => zi_I m ∧ zfr [(28, 3), (28, 54), (28, 64), (28, 65), (28, 66), (28, 67), (28, 68), (28, 69), (28, 70), (122, 0), (123, 0), (124, 0), (125, 0), (126, 0), (127, 0), (128, 0), (129, 0), (130, 0), (131, 0), (136, 0)] m0 m ∧ zs2 m0 m ∧ zR_C0 m ∧ zR_KN m ∧ zR_LT m ∧ zE1 m 0 ∧ zR_TE m ∧ ((-2147483648) ≤ v ∧ v ≤ 2147483647) ∧ (0 ≤ m a0 2 ∧ m a0 2 ≤ 0))) ∧ (∀ (x2 x3 x4 x5 x6 : Int) (mh : zu_m), zi_I mh → zfr [(28, 3), (28, 54), (28, 64), (28, 65), (28, 66), (28, 67), (28, 68), (28, 69), (28, 70), (122, 0), (123, 0), (124, 0), (125, 0), (126, 0), (127, 0), (128, 0), (129, 0), (130, 0), (131, 0), (136, 0)] m0 mh → zs2 m0 mh → (0 ≤ a1 ∧ a1 ≤ 3) → (0 ≤ x2 ∧ x2 ≤ 200) → ((-2147483648) ≤ x3 ∧ x3 ≤ 2147483647) → (0 ≤ x4 ∧ x4 ≤ 30) → (0 ≤ x5 ∧ x5 ≤ 1) → (1 ≤ x6 ∧ x6 ≤ 201) → (1 ≤ mh a0 15 ∧ mh a0 15 ≤ 4) → (0 ≤ mh a0 2 ∧ mh a0 2 ≤ 0) → ((-1) ≤ mh a0 64 ∧ mh a0 64 ≤ 99999) → (1 ≤ mh a0 65 ∧ mh a0 65 ≤ 1) → (0 ≤ mh a0 66 ∧ mh a0 66 ≤ 0) → (0 ≤ mh a0 67 ∧ mh a0 67 ≤ 0) → (0 ≤ mh a0 68 ∧ mh a0 68 ≤ 0) → ((-1) ≤ mh a0 69 ∧ mh a0 69 ≤ (-1)) → (zR_C0 mh) → (zR_KN mh) → (zR_LT mh) → (zE1 mh 1) → (zE1 mh 0) → (zR_TE mh) → (201 - x6) * 1 + (31 - x4) * 202 + 0 < (k : Int) → zw (zu_ex (zt_T n) 184 195 [(40, a0), (0, a1), (0, x2), (0, x3), (0, x4), (0, x5), (0, x6)] [] mh) (fun v m => zi_I m ∧ zfr [(28, 3), (28, 54), (28, 64), (28, 65), (28, 66), (28, 67), (28, 68), (28, 69), (28, 70), (122, 0), (123, 0), (124, 0), (125, 0), (126, 0), (127, 0), (128, 0), (129, 0), (130, 0), (131, 0), (136, 0)] m0 m ∧ zs2 m0 m ∧ zR_C0 m ∧ zR_KN m ∧ zR_LT m ∧ zE1 m 0 ∧ zR_TE m ∧ ((-2147483648) ≤ v ∧ v ≤ 2147483647) ∧ (0 ≤ m a0 2 ∧ m a0 2 ≤ 0)))) : (∀ (x2 x3 x4 : Int) (mh : zu_m), zi_I mh → zfr [(28, 3), (28, 54), (28, 64), (28, 65), (28, 66), (28, 67), (28, 68), (28, 69), (28, 70), (122, 0), (123, 0), (124, 0), (125, 0), (126, 0), (127, 0), (128, 0), (129, 0), (130, 0), (131, 0), (136, 0)] m0 mh → zs2 m0 mh → (0 ≤ a1 ∧ a1 ≤ 3) → (0 ≤ x2 ∧ x2 ≤ 200) → ((-2147483648) ≤ x3 ∧ x3 ≤ 2147483647) → (0 ≤ x4 ∧ x4 ≤ 31) → (1 ≤ mh a0 15 ∧ mh a0 15 ≤ 4) → (0 ≤ mh a0 2 ∧ mh a0 2 ≤ 0) → (zR_C0 mh) → (zR_KN mh) → (zR_LT mh) → (zE1 mh 0) → (zR_TE mh) → (31 - x4) * 202 + 201 < ((k + 1 : Nat) : Int) → zw (zu_ex (zt_T n) 184 148 [(40, a0), (0, a1), (0, x2), (0, x3), (0, x4), (2, 0), (2, 0)] [] mh) (fun v m => zi_I m ∧ zfr [(28, 3), (28, 54), (28, 64), (28, 65), (28, 66), (28, 67), (28, 68), (28, 69), (28, 70), (122, 0), (123, 0), (124, 0), (125, 0), (126, 0), (127, 0), (128, 0), (129, 0), (130, 0), (131, 0), (136, 0)] m0 m ∧ zs2 m0 m ∧ zR_C0 m ∧ zR_KN m ∧ zR_LT m ∧ zE1 m 0 ∧ zR_TE m ∧ ((-2147483648) ≤ v ∧ v ≤ 2147483647) ∧ (0 ≤ m a0 2 ∧ m a0 2 ≤ 0))) := by
      intro x2 x3 x4 mh hImh hFmh hLmh hba1 hbx2 hbx3 hbx4 hg4 hg5 hRC0mh hRKNmh hRLTmh hRSEmh hRTEmh hM
      refine zw_eq (zu_rega_at (zt_T n) (zm_184 n) (zdp_184 n) _ _ _ _ _ _ (zr_184_148 n _ _ a0 a1 x2 x3 x4 mh)) ?_
      refine zw_ite (fun h71 => ?_) (fun h71 => ?_)
      · refine zw_bd (zw_mono (zk_35 n hImh hc0) (fun v73 m72 hqm72 => ?_))
        obtain ⟨hIm72, hfm72, hvm72⟩ := hqm72
        have hFm72 := zfr_tr hFmh hfm72 rfl
        have hLm72 := zs2_tr hLmh hfm72 rfl
        have hRC0m72 := zR_C0_fr (zdis_fr hfm72 rfl) hRC0mh
        have hRKNm72 := zR_KN_fr (zdis_fr hfm72 rfl) hRKNmh
        have hRLTm72 := zR_LT_fr (zdis_fr hfm72 rfl) hRLTmh
        have hRSEm72 := zR_SE_fr (zdis_fr hfm72 rfl) hRSEmh
        have hRTEm72 := zR_TE_fr (zdis_fr hfm72 rfl) hRTEmh
        have r74 : (-2147483648) ≤ (m72 a0 2) ∧ (m72 a0 2) ≤ 2147483647 := zi_rd hIm72 hc0 zb_28_2
        have e75 : (m72 a0 2) = (mh a0 2) := (zfr_ap hfm72 hc0 rfl)
        exact zw_some ⟨hIm72, hFm72, hLm72, hRC0m72, hRKNm72, hRLTm72, hRSEm72, hRTEm72, ⟨by omega, by omega⟩, ⟨by omega, by omega⟩⟩
      · refine zw_bd (zw_mono (zk_35 n hImh hc0) (fun v77 m76 hqm76 => ?_))
        obtain ⟨hIm76, hfm76, hvm76⟩ := hqm76
        have hFm76 := zfr_tr hFmh hfm76 rfl
        have hLm76 := zs2_tr hLmh hfm76 rfl
        have hRC0m76 := zR_C0_fr (zdis_fr hfm76 rfl) hRC0mh
        have hRKNm76 := zR_KN_fr (zdis_fr hfm76 rfl) hRKNmh
        have hRLTm76 := zR_LT_fr (zdis_fr hfm76 rfl) hRLTmh
        have hRSEm76 := zR_SE_fr (zdis_fr hfm76 rfl) hRSEmh
        have hRTEm76 := zR_TE_fr (zdis_fr hfm76 rfl) hRTEmh
        refine zw_bd (zw_mono (zk_34k n hIm76 hc0 ⟨by decide, by decide⟩ hRC0m76) (fun v79 m78 hqm78 => ?_))
        obtain ⟨hIm78, hfm78, hlm78, hvm78⟩ := hqm78
        have hFm78 := zfr_tr hFm76 hfm78 rfl
        have hLm78 := zs2_go hLm76 (hlm78.2 (by decide))
        obtain ⟨hRC0m78, hRS1m78, hvm78⟩ := hvm78
        have hRKNm78 := zR_KN_fr (zdis_fr hfm78 rfl) hRKNm76
        have hRLTm78 := zR_LT_fr (zdis_fr hfm78 rfl) hRLTm76
        have r80 : 0 ≤ (m78 a0 14) ∧ (m78 a0 14) ≤ 12 := zi_rd hIm78 hc0 zb_28_14
        have r81 : 0 ≤ (m78 216 0) ∧ (m78 216 0) ≤ 16 := zi_rdr (m := 2) (r0 := 0) (r1 := 0) hIm78 zq_216 (by omega) (by decide +kernel)
        have hRSEm78 := (hvm78.2.1) hRSEm76
        have hRTEm78 := zTE_of (zone_190 hc0) ((hvm78.2.2) (Or.inl (zTE_rd hRTEm76 (zone_190 hc0))))
        have w82 := zu_w32_id (z := 4 + a1) (by omega) (by omega)
        have b83 : 0 ≤ (zu_w32 (4 + a1)) ∧ (zu_w32 (4 + a1)) < 8 := by omega
        refine zw_if b83 ?_
        generalize hmm84 : zu_up m78 218 (zu_w32 (4 + a1)) x4 = m84
        have hIm84 := zi_up hmm84 hIm78 zq_218 (zb_127 _) (by omega) (by omega)
        have hFm84 := zfr_up hmm84 hFm78 zq_218 rfl
        have hLm84 := zs2_ne hmm84 hLm78 zq_218 (by decide)
        have hRC0m84 := zR_C0_fr (zdis_fr (zfr_up hmm84 (zfr_rf [(127, 0)] _) zq_218 rfl) rfl) hRC0m78
        have hRKNm84 := zR_KN_fr (zdis_fr (zfr_up hmm84 (zfr_rf [(127, 0)] _) zq_218 rfl) rfl) hRKNm78
        have hRLTm84 := zR_LT_fr (zdis_fr (zfr_up hmm84 (zfr_rf [(127, 0)] _) zq_218 rfl) rfl) hRLTm78
        have hRS1m84 := zR_S1_fr (zdis_fr (zfr_up hmm84 (zfr_rf [(127, 0)] _) zq_218 rfl) rfl) hRS1m78
        have hRSEm84 := zR_SE_fr (zdis_fr (zfr_up hmm84 (zfr_rf [(127, 0)] _) zq_218 rfl) rfl) hRSEm78
        have hRTEm84 := zR_TE_fr (zdis_fr (zfr_up hmm84 (zfr_rf [(127, 0)] _) zq_218 rfl) rfl) hRTEm78
        have b85 : 0 ≤ (0 : Int) ∧ (0 : Int) < 10 := by omega
        refine zw_if b85 ?_
        have r86 : (-1) ≤ (m84 194 0) ∧ (m84 194 0) ≤ 99999 := zi_rd hIm84 zq_194 (zb_103 _)
        generalize hmm87 : zu_up m84 a0 64 (m84 194 0) = m87
        have hIm87 := zi_up hmm87 hIm84 hc0 zb_28_64 (by omega) (by omega)
        have hFm87 := zfr_up hmm87 hFm84 hc0 rfl
        have hLm87 := zs2_ne hmm87 hLm84 hc0 (by decide)
        have hRC0m87 := zR_C0_fr (zdis_fr (zfr_up hmm87 (zfr_rf [(28, 65)] _) hc0 rfl) rfl) hRC0m84
        have hRKNm87 := zR_KN_fr (zdis_fr (zfr_up hmm87 (zfr_rf [(28, 65)] _) hc0 rfl) rfl) hRKNm84
        have hRLTm87 := zR_LT_fr (zdis_fr (zfr_up hmm87 (zfr_rf [(28, 65)] _) hc0 rfl) rfl) hRLTm84
        have hRS1m87 := zR_S1_fr (zdis_fr (zfr_up hmm87 (zfr_rf [(28, 65)] _) hc0 rfl) rfl) hRS1m84
        have hRSEm87 := zR_SE_fr (zdis_fr (zfr_up hmm87 (zfr_rf [(28, 65)] _) hc0 rfl) rfl) hRSEm84
        have hRTEm87 := zR_TE_fr (zdis_fr (zfr_up hmm87 (zfr_rf [(28, 65)] _) hc0 rfl) rfl) hRTEm84
        refine zw_b (by omega) ?_
        generalize hmm88 : zu_up m87 a0 65 1 = m88
        have hIm88 := zi_up hmm88 hIm87 hc0 zb_28_65 (by omega) (by omega)
        have hFm88 := zfr_up hmm88 hFm87 hc0 rfl
        have hLm88 := zs2_ne hmm88 hLm87 hc0 (by decide)
        have hRC0m88 := zR_C0_fr (zdis_fr (zfr_up hmm88 (zfr_rf [(28, 66)] _) hc0 rfl) rfl) hRC0m87
        have hRKNm88 := zR_KN_fr (zdis_fr (zfr_up hmm88 (zfr_rf [(28, 66)] _) hc0 rfl) rfl) hRKNm87
        have hRLTm88 := zR_LT_fr (zdis_fr (zfr_up hmm88 (zfr_rf [(28, 66)] _) hc0 rfl) rfl) hRLTm87
        have hRS1m88 := zR_S1_fr (zdis_fr (zfr_up hmm88 (zfr_rf [(28, 66)] _) hc0 rfl) rfl) hRS1m87
        have hRSEm88 := zR_SE_fr (zdis_fr (zfr_up hmm88 (zfr_rf [(28, 66)] _) hc0 rfl) rfl) hRSEm87
        have hRTEm88 := zR_TE_fr (zdis_fr (zfr_up hmm88 (zfr_rf [(28, 66)] _) hc0 rfl) rfl) hRTEm87
        have r89 : (-2147483648) ≤ (m88 a0 2) ∧ (m88 a0 2) ≤ 2147483647 := zi_rd hIm88 hc0 zb_28_2
        have e90 : (m88 a0 2) = (mh a0 2) := (Eq.trans (zs_ne hmm88 (Or.inr (by decide))) (Eq.trans (zs_ne hmm87 (Or.inr (by decide))) (Eq.trans (zs_ne hmm84 (Or.inl (zc_ne hc0 zq_218 (by decide)))) (Eq.trans (zfr_ap hfm78 hc0 rfl) (zfr_ap hfm76 hc0 rfl)))))
        have r91 : 0 ≤ (m88 a0 15) ∧ (m88 a0 15) ≤ 4 := zi_rd hIm88 hc0 zb_28_15
        have e92 : (m88 a0 15) = (mh a0 15) := (Eq.trans (zs_ne hmm88 (Or.inr (by decide))) (Eq.trans (zs_ne hmm87 (Or.inr (by decide))) (Eq.trans (zs_ne hmm84 (Or.inl (zc_ne hc0 zq_218 (by decide)))) (Eq.trans (zfr_ap hfm78 hc0 rfl) (zfr_ap hfm76 hc0 rfl)))))
        have r93 : (-2147483648) ≤ (m88 a0 64) ∧ (m88 a0 64) ≤ 2147483647 := zi_rd hIm88 hc0 zb_28_64
        have e94 : (m88 a0 64) = (m84 194 0) := (Eq.trans (zs_ne hmm88 (Or.inr (by decide))) (zs_eq hmm87))
        have r95 : 0 ≤ (m88 a0 65) ∧ (m88 a0 65) ≤ 1 := zi_rd hIm88 hc0 zb_28_65
        have e96 : (m88 a0 65) = 1 := (zs_eq hmm88)
        have r97 : (-2147483648) ≤ (m88 a0 69) ∧ (m88 a0 69) ≤ 2147483647 := zi_rd hIm88 hc0 zb_28_69
        have e98 : (m88 a0 69) = (m76 a0 69) := (Eq.trans (zs_ne hmm88 (Or.inr (by decide))) (Eq.trans (zs_ne hmm87 (Or.inr (by decide))) (Eq.trans (zs_ne hmm84 (Or.inl (zc_ne hc0 zq_218 (by decide)))) (zfr_ap hfm78 hc0 rfl))))
        have r99 : 0 ≤ (m88 a0 66) ∧ (m88 a0 66) ≤ 1 := zi_rd hIm88 hc0 zb_28_66
        have e100 : (m88 a0 66) = (m76 a0 66) := (Eq.trans (zs_ne hmm88 (Or.inr (by decide))) (Eq.trans (zs_ne hmm87 (Or.inr (by decide))) (Eq.trans (zs_ne hmm84 (Or.inl (zc_ne hc0 zq_218 (by decide)))) (zfr_ap hfm78 hc0 rfl))))
        have r101 : 0 ≤ (m88 a0 67) ∧ (m88 a0 67) ≤ 1 := zi_rd hIm88 hc0 zb_28_67
        have e102 : (m88 a0 67) = (m76 a0 67) := (Eq.trans (zs_ne hmm88 (Or.inr (by decide))) (Eq.trans (zs_ne hmm87 (Or.inr (by decide))) (Eq.trans (zs_ne hmm84 (Or.inl (zc_ne hc0 zq_218 (by decide)))) (zfr_ap hfm78 hc0 rfl))))
        have r103 : 0 ≤ (m88 a0 68) ∧ (m88 a0 68) ≤ 1 := zi_rd hIm88 hc0 zb_28_68
        have e104 : (m88 a0 68) = (m76 a0 68) := (Eq.trans (zs_ne hmm88 (Or.inr (by decide))) (Eq.trans (zs_ne hmm87 (Or.inr (by decide))) (Eq.trans (zs_ne hmm84 (Or.inl (zc_ne hc0 zq_218 (by decide)))) (zfr_ap hfm78 hc0 rfl))))
        have hM : (201 - 1) * 1 + (31 - x4) * 202 + 0 < (k : Int) := by omega
        exact ih.2.2.2.2 x2 x3 x4 1 1 m88 hIm88 hFm88 hLm88 ⟨by omega, by omega⟩ ⟨by omega, by omega⟩ ⟨by omega, by omega⟩ ⟨by omega, by omega⟩ ⟨by omega, by omega⟩ ⟨by omega, by omega⟩ ⟨by omega, by omega⟩ ⟨by omega, by omega⟩ ⟨by omega, by omega⟩ ⟨by omega, by omega⟩ ⟨by omega, by omega⟩ ⟨by omega, by omega⟩ ⟨by omega, by omega⟩ ⟨by omega, by omega⟩ hRC0m88 hRKNm88 hRLTm88 hRS1m88 hRSEm88 hRTEm88 hM
set_option maxHeartbeats 4000000 in
theorem zl_184H4k (n : Nat) {a0 a1 : Int} {m0 : zu_m} (hc0 : zcls a0 = 28)   (k : Nat) (ih : (∀ (x2 x3 : Int) (mh : zu_m), zi_I mh → zfr [(28, 3), (28, 54), (28, 64), (28, 65), (28, 66), (28, 67), (28, 68), (28, 69), (28, 70), (122, 0), (123, 0), (124, 0), (125, 0), (126, 0), (127, 0), (128, 0), (129, 0), (130, 0), (131, 0), (136, 0)] m0 mh → zs2 m0 mh → (0 ≤ a1 ∧ a1 ≤ 3) → (0 ≤ x2 ∧ x2 ≤ 0) → (0 ≤ x3 ∧ x3 ≤ 24) → (1 ≤ mh a0 15 ∧ mh a0 15 ≤ 4) → (0 ≤ mh a0 2 ∧ mh a0 2 ≤ 0) → (zR_C0 mh) → (zR_KN mh) → (zR_LT mh) → (zE1 mh 0) → (zR_TE mh) → (24 - x3) * 1 + 6514 < (k : Int) → zw (zu_ex (zt_T n) 184 19 [(40, a0), (0, a1), (0, x2), (0, x3), (2, 0), (2, 0), (2, 0)] [] mh) (fun v m => zi_I m ∧ zfr [(28, 3), (28, 54), (28, 64), (28, 65), (28, 66), (28, 67), (28, 68), (28, 69), (28, 70), (122, 0), (123, 0), (124, 0), (125, 0), (126, 0), (127, 0), (128, 0), (129, 0), (130, 0), (131, 0), (136, 0)] m0 m ∧ zs2 m0 m ∧ zR_C0 m ∧ zR_KN m ∧ zR_LT m ∧ zE1 m 0 ∧ zR_TE m ∧ ((-2147483648) ≤ v ∧ v ≤ 2147483647) ∧ (0 ≤ m a0 2 ∧ m a0 2 ≤ 0))) ∧ (∀ (x2 x3 : Int) (mh : zu_m), zi_I mh → zfr [(28, 3), (28, 54), (28, 64), (28, 65), (28, 66), (28, 67), (28, 68), (28, 69), (28, 70), (122, 0), (123, 0), (124, 0), (125, 0), (126, 0), (127, 0), (128, 0), (129, 0), (130, 0), (131, 0), (136, 0)] m0 mh → zs2 m0 mh → (0 ≤ a1 ∧ a1 ≤ 3) → (0 ≤ x2 ∧ x2 ≤ 0) → ((-1) ≤ x3 ∧ x3 ≤ 23) → (1 ≤ mh a0 15 ∧ mh a0 15 ≤ 4) → (0 ≤ mh a0 2 ∧ mh a0 2 ≤ 0) → (zR_C0 mh) → (zR_KN mh) → (zR_LT mh) → (zE1 mh 0) → (zR_TE mh) → (x3 - (-1)) * 1 + 6489 < (k : Int) → zw (zu_ex (zt_T n) 184 47 [(40, a0), (0, a1), (0, x2), (0, x3), (2, 0), (2, 0), (2, 0)] [] mh) (fun v m => zi_I m ∧ zfr [(28, 3), (28, 54), (28, 64), (28, 65), (28, 66), (28, 67), (28, 68), (28, 69), (28, 70), (122, 0), (123, 0), (124, 0), (125, 0), (126, 0), (127, 0), (128, 0), (129, 0), (130, 0), (131, 0), (136, 0)] m0 m ∧ zs2 m0 m ∧ zR_C0 m ∧ zR_KN m ∧ zR_LT m ∧ zE1 m 0 ∧ zR_TE m ∧ ((-2147483648) ≤ v ∧ v ≤ 2147483647) ∧ (0 ≤ m a0 2 ∧ m a0 2 ≤ 0))) ∧ (∀ (x2 x3 : Int) (mh : zu_m), zi_I mh → zfr [(28, 3), (28, 54), (28, 64), (28, 65), (28, 66), (28, 67), (28, 68), (28, 69), (28, 70), (122, 0), (123, 0), (124, 0), (125, 0), (126, 0), (127, 0), (128, 0), (129, 0), (130, 0), (131, 0), (136, 0)] m0 mh → zs2 m0 mh → (0 ≤ a1 ∧ a1 ≤ 3) → (0 ≤ x2 ∧ x2 ≤ 200) → (0 ≤ x3 ∧ x3 ≤ 24) → (1 ≤ mh a0 15 ∧ mh a0 15 ≤ 4) → (0 ≤ mh a0 2 ∧ mh a0 2 ≤ 0) → (zR_C0 mh) → (zR_KN mh) → (zR_LT mh) → (zE1 mh 0) → (zR_TE mh) → (24 - x3) * 1 + 6464 < (k : Int) → zw (zu_ex (zt_T n) 184 95 [(40, a0), (0, a1), (0, x2), (0, x3), (2, 0), (2, 0), (2, 0)] [] mh) (fun v m => zi_I m ∧ zfr [(28, 3), (28, 54), (28, 64), (28, 65), (28, 66), (28, 67), (28, 68), (28, 69), (28, 70), (122, 0), (123, 0), (124, 0), (125, 0), (126, 0), (127, 0), (128, 0), (129, 0), (130, 0), (131, 0), (136, 0)] m0 m ∧ zs2 m0 m ∧ zR_C0 m ∧ zR_KN m ∧ zR_LT m ∧ zE1 m 0 ∧ zR_TE m ∧ ((-2147483648) ≤ v ∧ v ≤ 2147483647) ∧ (0 ≤ m a0 2 ∧ m a0 2 ≤ 0))) ∧ (∀ (x2 x3 x4 : Int) (mh : zu_m), zi_I mh → zfr [(28, 3), (28, 54), (28, 64), (28, 65), (28, 66), (28, 67), (28, 68), (28, 69), (28, 70), (122, 0), (123, 0), (124, 0), (125, 0), (126, 0), (127, 0), (128, 0), (129, 0), (130, 0), (131, 0), (136, 0)] m0 mh → zs2 m0 mh → (0 ≤ a1 ∧ a1 ≤ 3) → (0 ≤ x2 ∧ x2 ≤ 200) → ((-2147483648) ≤ x3 ∧ x3 ≤ 2147483647) → (0 ≤ x4 ∧ x4 ≤ 31) → (1 ≤ mh a0 15 ∧ mh a0 15 ≤ 4) → (0 ≤ mh a0 2 ∧ mh a0 2 ≤ 0) → (zR_C0 mh) → (zR_KN mh) → (zR_LT mh) → (zE1 mh 0) → (zR_TE mh) → (31 - x4) * 202 + 201 < (k : Int) → zw (zu_ex (zt_T n) 184 148 [(40, a0), (0, a1), (0, x2), (0, x3), (0, x4), (2, 0), (2, 0)] [] mh) (fun v m => zi_I m ∧ zfr [(28, 3), (28, 54), (28, 64), (28, 65), (28, 66), (28, 67), (28, 68), (28, 69), (28, 70), (122, 0), (123, 0), (124, 0), (125, 0), (126, 0), (127, 0), (128, 0), (129, 0), (130, 0), (131, 0), (136, 0)] m0 m ∧ zs2 m0 m ∧ zR_C0 m ∧ zR_KN m ∧ zR_LT m ∧ zE1 m 0 ∧ zR_TE m ∧ ((-2147483648) ≤ v ∧ v ≤ 2147483647) ∧ (0 ≤ m a0 2 ∧ m a0 2 ≤ 0))) ∧ (∀ (x2 x3 x4 x5 x6 : Int) (mh : zu_m), zi_I mh → zfr [(28, 3), (28, 54), (28, 64), (28, 65), (28, 66), (28, 67), (28, 68), (28, 69), (28, 70), (122, 0), (123, 0), (124, 0), (125, 0), (126, 0), (127, 0), (128, 0), (129, 0), (130, 0), (131, 0), (136, 0)] m0 mh → zs2 m0 mh → (0 ≤ a1 ∧ a1 ≤ 3) → (0 ≤ x2 ∧ x2 ≤ 200) → ((-2147483648) ≤ x3 ∧ x3 ≤ 2147483647) → (0 ≤ x4 ∧ x4 ≤ 30) → (0 ≤ x5 ∧ x5 ≤ 1) → (1 ≤ x6 ∧ x6 ≤ 201) → (1 ≤ mh a0 15 ∧ mh a0 15 ≤ 4) → (0 ≤ mh a0 2 ∧ mh a0 2 ≤ 0) → ((-1) ≤ mh a0 64 ∧ mh a0 64 ≤ 99999) → (1 ≤ mh a0 65 ∧ mh a0 65 ≤ 1) → (0 ≤ mh a0 66 ∧ mh a0 66 ≤ 0) → (0 ≤ mh a0 67 ∧ mh a0 67 ≤ 0) → (0 ≤ mh a0 68 ∧ mh a0 68 ≤ 0) → ((-1) ≤ mh a0 69 ∧ mh a0 69 ≤ (-1)) → (zR_C0 mh) → (zR_KN mh) → (zR_LT mh) → (zE1 mh 1) → (zE1 mh 0) → (zR_TE mh) → (201 - x6) * 1 + (31 - x4) * 202 + 0 < (k : Int) → zw (zu_ex (zt_T n) 184 195 [(40, a0), (0, a1), (0, x2), (0, x3), (0, x4), (0, x5), (0, x6)] [] mh) (fun v m => zi_I m ∧ zfr [(28, 3), (28, 54), (28, 64), (28, 65), (28, 66), (28, 67), (28, 68), (28, 69), (28, 70), (122, 0), (123, 0), (124, 0), (125, 0), (126, 0), (127, 0), (128, 0), (129, 0), (130, 0), (131, 0), (136, 0)] m0 m ∧ zs2 m0 m ∧ zR_C0 m ∧ zR_KN m ∧ zR_LT m ∧ zE1 m 0 ∧ zR_TE m ∧ ((-2147483648) ≤ v ∧ v ≤ 2147483647) ∧ (0 ≤ m a0 2 ∧ m a0 2 ≤ 0)))) : (∀ (x2 x3 x4 x5 x6 : Int) (mh : zu_m), zi_I mh → zfr [(28, 3), (28, 54), (28, 64), (28, 65), (28, 66), (28, 67), (28, 68), (28, 69), (28, 70), (122, 0), (123, 0), (124, 0), (125, 0), (126, 0), (127, 0), (128, 0), (129, 0), (130, 0), (131, 0), (136, 0)] m0 mh → zs2 m0 mh → (0 ≤ a1 ∧ a1 ≤ 3) → (0 ≤ x2 ∧ x2 ≤ 200) → ((-2147483648) ≤ x3 ∧ x3 ≤ 2147483647) → (0 ≤ x4 ∧ x4 ≤ 30) → (0 ≤ x5 ∧ x5 ≤ 1) → (1 ≤ x6 ∧ x6 ≤ 201) → (1 ≤ mh a0 15 ∧ mh a0 15 ≤ 4) → (0 ≤ mh a0 2 ∧ mh a0 2 ≤ 0) → ((-1) ≤ mh a0 64 ∧ mh a0 64 ≤ 99999) → (1 ≤ mh a0 65 ∧ mh a0 65 ≤ 1) → (0 ≤ mh a0 66 ∧ mh a0 66 ≤ 0) → (0 ≤ mh a0 67 ∧ mh a0 67 ≤ 0) → (0 ≤ mh a0 68 ∧ mh a0 68 ≤ 0) → ((-1) ≤ mh a0 69 ∧ mh a0 69 ≤ (-1)) → (zR_C0 mh) → (zR_KN mh) → (zR_LT mh) → (zE1 mh 1) → (zE1 mh 0) → (zR_TE mh) → (201 - x6) * 1 + (31 - x4) * 202 + 0 < ((k + 1 : Nat) : Int) → zw (zu_ex (zt_T n) 184 195 [(40, a0), (0, a1), (0, x2), (0, x3), (0, x4), (0, x5), (0, x6)] [] mh) (fun v m => zi_I m ∧ zfr [(28, 3), (28, 54), (28, 64), (28, 65), (28, 66), (28, 67), (28, 68), (28, 69), (28, 70), (122, 0), (123, 0), (124, 0), (125, 0), (126, 0), (127, 0), (128, 0), (129, 0), (130, 0), (131, 0), (136, 0)] m0 m ∧ zs2 m0 m ∧ zR_C0 m ∧ zR_KN m ∧ zR_LT m ∧ zE1 m 0 ∧ zR_TE m ∧ ((-2147483648) ≤ v ∧ v ≤ 2147483647) ∧ (0 ≤ m a0 2 ∧ m a0 2 ≤ 0))) := by
      intro x2 x3 x4 x5 x6 mh hImh hFmh hLmh hba1 hbx2 hbx3 hbx4 hbx5 hbx6 hg6 hg7 hg8 hg9 hg10 hg11 hg12 hg13 hRC0mh hRKNmh hRLTmh hRS1mh hRSEmh hRTEmh hM
      refine zw_eq (zu_rega_at (zt_T n) (zm_184 n) (zdp_184 n) _ _ _ _ _ _ (zr_184_195 n _ _ a0 a1 x2 x3 x4 x5 x6 mh)) ?_
      refine zw_ite (fun h105 => ?_) (fun h105 => ?_)
      · refine zw_ite (fun h106 => ?_) (fun h106 => ?_)
        · have b107 := zu_i32_rg 4 x3 0
          have w108 := zu_w32_id (z := x4 + 1) (by omega) (by omega)
          have hM : (31 - (zu_w32 (x4 + 1))) * 202 + 201 < (k : Int) := by omega
          exact zw_le (zu_forget (zu_lr_same (zu_lr_same (zu_lr_same (zu_lr_same (zu_lr_same (zu_lr_drop (zu_lr_drop zu_lr_nil)))))))) (ih.2.2.2.1 x2 (zu_i32 4 x3 0) (zu_w32 (x4 + 1)) mh hImh hFmh hLmh ⟨by omega, by omega⟩ ⟨by omega, by omega⟩ ⟨by omega, by omega⟩ ⟨by omega, by omega⟩ ⟨by omega, by omega⟩ ⟨by omega, by omega⟩ hRC0mh hRKNmh hRLTmh hRSEmh hRTEmh hM)
        · have b109 := zu_i32_rg 5 1 x4
          have b110 := zu_i32_rg 4 x3 (zu_i32 5 1 x4)
          have w111 := zu_w32_id (z := x4 + 1) (by omega) (by omega)
          have hM : (31 - (zu_w32 (x4 + 1))) * 202 + 201 < (k : Int) := by omega
          exact zw_le (zu_forget (zu_lr_same (zu_lr_same (zu_lr_same (zu_lr_same (zu_lr_same (zu_lr_drop (zu_lr_drop zu_lr_nil)))))))) (ih.2.2.2.1 x2 (zu_i32 4 x3 (zu_i32 5 1 x4)) (zu_w32 (x4 + 1)) mh hImh hFmh hLmh ⟨by omega, by omega⟩ ⟨by omega, by omega⟩ ⟨by omega, by omega⟩ ⟨by omega, by omega⟩ ⟨by omega, by omega⟩ ⟨by omega, by omega⟩ hRC0mh hRKNmh hRLTmh hRSEmh hRTEmh hM)
      · refine zw_ite (fun h112 => ?_) (fun h112 => ?_)
        · refine zw_ite (fun h113 => ?_) (fun h113 => ?_)
          · have b114 := zu_i32_rg 4 x3 0
            have w115 := zu_w32_id (z := x4 + 1) (by omega) (by omega)
            have hM : (31 - (zu_w32 (x4 + 1))) * 202 + 201 < (k : Int) := by omega
            exact zw_le (zu_forget (zu_lr_same (zu_lr_same (zu_lr_same (zu_lr_same (zu_lr_same (zu_lr_drop (zu_lr_drop zu_lr_nil)))))))) (ih.2.2.2.1 x2 (zu_i32 4 x3 0) (zu_w32 (x4 + 1)) mh hImh hFmh hLmh ⟨by omega, by omega⟩ ⟨by omega, by omega⟩ ⟨by omega, by omega⟩ ⟨by omega, by omega⟩ ⟨by omega, by omega⟩ ⟨by omega, by omega⟩ hRC0mh hRKNmh hRLTmh hRSEmh hRTEmh hM)
          · exfalso; omega
        · refine zw_bd (zw_mono (zk_140k n hImh hc0 ⟨by decide, by decide⟩ hRS1mh hRKNmh hRLTmh hRSEmh) (fun v117 m116 hqm116 => ?_))
          obtain ⟨hIm116, hfm116, hlm116, hvm116⟩ := hqm116
          have hFm116 := zfr_tr hFmh hfm116 rfl
          have hLm116 := zs2_go hLmh (hlm116.2 (by decide))
          obtain ⟨hRS1m116, hRKNm116, hRLTm116, hRSEm116, hvm116⟩ := hvm116
          have hRC0m116 := zR_C0_fr (zdis_fr hfm116 rfl) hRC0mh
          have hRTEm116 := zR_TE_fr (zdis_fr hfm116 rfl) hRTEmh
          refine zw_bd (zw_mono (zk_183 n hIm116 hc0 ⟨by omega, by omega⟩) (fun v119 m118 hqm118 => ?_))
          obtain ⟨hIm118, hfm118, hvm118⟩ := hqm118
          have hFm118 := zfr_tr hFm116 hfm118 rfl
          have hLm118 := zs2_tr hLm116 hfm118 rfl
          have hRC0m118 := zR_C0_fr (zdis_fr hfm118 rfl) hRC0m116
          have hRKNm118 := zR_KN_fr (zdis_fr hfm118 rfl) hRKNm116
          have hRLTm118 := zR_LT_fr (zdis_fr hfm118 rfl) hRLTm116
          have hRS1m118 := zR_S1_fr (zdis_fr hfm118 rfl) hRS1m116
          have hRSEm118 := zR_SE_fr (zdis_fr hfm118 rfl) hRSEm116
          have hRTEm118 := zR_TE_fr (zdis_fr hfm118 rfl) hRTEm116
          have w120 := zu_w32_id (z := x6 + 1) (by omega) (by omega)
          have r121 : (-2147483648) ≤ (m118 a0 2) ∧ (m118 a0 2) ≤ 2147483647 := zi_rd hIm118 hc0 zb_28_2
          have e122 : (m118 a0 2) = (mh a0 2) := (Eq.trans (zfr_ap hfm118 hc0 rfl) (zfr_ap hfm116 hc0 rfl))
          have r123 : 0 ≤ (m118 a0 15) ∧ (m118 a0 15) ≤ 4 := zi_rd hIm118 hc0 zb_28_15
          have e124 : (m118 a0 15) = (mh a0 15) := (Eq.trans (zfr_ap hfm118 hc0 rfl) (zfr_ap hfm116 hc0 rfl))
          have r125 : (-2147483648) ≤ (m118 a0 64) ∧ (m118 a0 64) ≤ 2147483647 := zi_rd hIm118 hc0 zb_28_64
          have e126 : (m118 a0 64) = (mh a0 64) := (Eq.trans (zfr_ap hfm118 hc0 rfl) (zfr_ap hfm116 hc0 rfl))
          have r127 : 0 ≤ (m118 a0 65) ∧ (m118 a0 65) ≤ 1 := zi_rd hIm118 hc0 zb_28_65
          have e128 : (m118 a0 65) = (mh a0 65) := (Eq.trans (zfr_ap hfm118 hc0 rfl) (zfr_ap hfm116 hc0 rfl))
          have r129 : (-2147483648) ≤ (m118 a0 69) ∧ (m118 a0 69) ≤ 2147483647 := zi_rd hIm118 hc0 zb_28_69
          have e130 : (m118 a0 69) = (mh a0 69) := (Eq.trans (zfr_ap hfm118 hc0 rfl) (zfr_ap hfm116 hc0 rfl))
          have r131 : 0 ≤ (m118 a0 66) ∧ (m118 a0 66) ≤ 1 := zi_rd hIm118 hc0 zb_28_66
          have e132 : (m118 a0 66) = (mh a0 66) := (Eq.trans (zfr_ap hfm118 hc0 rfl) (zfr_ap hfm116 hc0 rfl))
          have r133 : 0 ≤ (m118 a0 67) ∧ (m118 a0 67) ≤ 1 := zi_rd hIm118 hc0 zb_28_67
          have e134 : (m118 a0 67) = (mh a0 67) := (Eq.trans (zfr_ap hfm118 hc0 rfl) (zfr_ap hfm116 hc0 rfl))
          have r135 : 0 ≤ (m118 a0 68) ∧ (m118 a0 68) ≤ 1 := zi_rd hIm118 hc0 zb_28_68
          have e136 : (m118 a0 68) = (mh a0 68) := (Eq.trans (zfr_ap hfm118 hc0 rfl) (zfr_ap hfm116 hc0 rfl))
          have hM : (201 - (zu_w32 (x6 + 1))) * 1 + (31 - x4) * 202 + 0 < (k : Int) := by omega
          exact ih.2.2.2.2 x2 x3 x4 v119 (zu_w32 (x6 + 1)) m118 hIm118 hFm118 hLm118 ⟨by omega, by omega⟩ ⟨by omega, by omega⟩ ⟨by omega, by omega⟩ ⟨by omega, by omega⟩ ⟨by omega, by omega⟩ ⟨by omega, by omega⟩ ⟨by omega, by omega⟩ ⟨by omega, by omega⟩ ⟨by omega, by omega⟩ ⟨by omega, by omega⟩ ⟨by omega, by omega⟩ ⟨by omega, by omega⟩ ⟨by omega, by omega⟩ ⟨by omega, by omega⟩ hRC0m118 hRKNm118 hRLTm118 hRS1m118 hRSEm118 hRTEm118 hM
set_option maxHeartbeats 4000000 in
theorem zl_184k (n : Nat) {a0 a1 : Int} {m0 : zu_m} (hc0 : zcls a0 = 28)   : ∀ k : Nat, (∀ (x2 x3 : Int) (mh : zu_m), zi_I mh → zfr [(28, 3), (28, 54), (28, 64), (28, 65), (28, 66), (28, 67), (28, 68), (28, 69), (28, 70), (122, 0), (123, 0), (124, 0), (125, 0), (126, 0), (127, 0), (128, 0), (129, 0), (130, 0), (131, 0), (136, 0)] m0 mh → zs2 m0 mh → (0 ≤ a1 ∧ a1 ≤ 3) → (0 ≤ x2 ∧ x2 ≤ 0) → (0 ≤ x3 ∧ x3 ≤ 24) → (1 ≤ mh a0 15 ∧ mh a0 15 ≤ 4) → (0 ≤ mh a0 2 ∧ mh a0 2 ≤ 0) → (zR_C0 mh) → (zR_KN mh) → (zR_LT mh) → (zE1 mh 0) → (zR_TE mh) → (24 - x3) * 1 + 6514 < (k : Int) → zw (zu_ex (zt_T n) 184 19 [(40, a0), (0, a1), (0, x2), (0, x3), (2, 0), (2, 0), (2, 0)] [] mh) (fun v m => zi_I m ∧ zfr [(28, 3), (28, 54), (28, 64), (28, 65), (28, 66), (28, 67), (28, 68), (28, 69), (28, 70), (122, 0), (123, 0), (124, 0), (125, 0), (126, 0), (127, 0), (128, 0), (129, 0), (130, 0), (131, 0), (136, 0)] m0 m ∧ zs2 m0 m ∧ zR_C0 m ∧ zR_KN m ∧ zR_LT m ∧ zE1 m 0 ∧ zR_TE m ∧ ((-2147483648) ≤ v ∧ v ≤ 2147483647) ∧ (0 ≤ m a0 2 ∧ m a0 2 ≤ 0))) ∧ (∀ (x2 x3 : Int) (mh : zu_m), zi_I mh → zfr [(28, 3), (28, 54), (28, 64), (28, 65), (28, 66), (28, 67), (28, 68), (28, 69), (28, 70), (122, 0), (123, 0), (124, 0), (125, 0), (126, 0), (127, 0), (128, 0), (129, 0), (130, 0), (131, 0), (136, 0)] m0 mh → zs2 m0 mh → (0 ≤ a1 ∧ a1 ≤ 3) → (0 ≤ x2 ∧ x2 ≤ 0) → ((-1) ≤ x3 ∧ x3 ≤ 23) → (1 ≤ mh a0 15 ∧ mh a0 15 ≤ 4) → (0 ≤ mh a0 2 ∧ mh a0 2 ≤ 0) → (zR_C0 mh) → (zR_KN mh) → (zR_LT mh) → (zE1 mh 0) → (zR_TE mh) → (x3 - (-1)) * 1 + 6489 < (k : Int) → zw (zu_ex (zt_T n) 184 47 [(40, a0), (0, a1), (0, x2), (0, x3), (2, 0), (2, 0), (2, 0)] [] mh) (fun v m => zi_I m ∧ zfr [(28, 3), (28, 54), (28, 64), (28, 65), (28, 66), (28, 67), (28, 68), (28, 69), (28, 70), (122, 0), (123, 0), (124, 0), (125, 0), (126, 0), (127, 0), (128, 0), (129, 0), (130, 0), (131, 0), (136, 0)] m0 m ∧ zs2 m0 m ∧ zR_C0 m ∧ zR_KN m ∧ zR_LT m ∧ zE1 m 0 ∧ zR_TE m ∧ ((-2147483648) ≤ v ∧ v ≤ 2147483647) ∧ (0 ≤ m a0 2 ∧ m a0 2 ≤ 0))) ∧ (∀ (x2 x3 : Int) (mh : zu_m), zi_I mh → zfr [(28, 3), (28, 54), (28, 64), (28, 65), (28, 66), (28, 67), (28, 68), (28, 69), (28, 70), (122, 0), (123, 0), (124, 0), (125, 0), (126, 0), (127, 0), (128, 0), (129, 0), (130, 0), (131, 0), (136, 0)] m0 mh → zs2 m0 mh → (0 ≤ a1 ∧ a1 ≤ 3) → (0 ≤ x2 ∧ x2 ≤ 200) → (0 ≤ x3 ∧ x3 ≤ 24) → (1 ≤ mh a0 15 ∧ mh a0 15 ≤ 4) → (0 ≤ mh a0 2 ∧ mh a0 2 ≤ 0) → (zR_C0 mh) → (zR_KN mh) → (zR_LT mh) → (zE1 mh 0) → (zR_TE mh) → (24 - x3) * 1 + 6464 < (k : Int) → zw (zu_ex (zt_T n) 184 95 [(40, a0), (0, a1), (0, x2), (0, x3), (2, 0), (2, 0), (2, 0)] [] mh) (fun v m => zi_I m ∧ zfr [(28, 3), (28, 54), (28, 64), (28, 65), (28, 66), (28, 67), (28, 68), (28, 69), (28, 70), (122, 0), (123, 0), (124, 0), (125, 0), (126, 0), (127, 0), (128, 0), (129, 0), (130, 0), (131, 0), (136, 0)] m0 m ∧ zs2 m0 m ∧ zR_C0 m ∧ zR_KN m ∧ zR_LT m ∧ zE1 m 0 ∧ zR_TE m ∧ ((-2147483648) ≤ v ∧ v ≤ 2147483647) ∧ (0 ≤ m a0 2 ∧ m a0 2 ≤ 0))) ∧ (∀ (x2 x3 x4 : Int) (mh : zu_m), zi_I mh → zfr [(28, 3), (28, 54), (28, 64), (28, 65), (28, 66), (28, 67), (28, 68), (28, 69), (28, 70), (122, 0), (123, 0), (124, 0), (125, 0), (126, 0), (127, 0), (128, 0), (129, 0), (130, 0), (131, 0), (136, 0)] m0 mh → zs2 m0 mh → (0 ≤ a1 ∧ a1 ≤ 3) → (0 ≤ x2 ∧ x2 ≤ 200) → ((-2147483648) ≤ x3 ∧ x3 ≤ 2147483647) → (0 ≤ x4 ∧ x4 ≤ 31) → (1 ≤ mh a0 15 ∧ mh a0 15 ≤ 4) → (0 ≤ mh a0 2 ∧ mh a0 2 ≤ 0) → (zR_C0 mh) → (zR_KN mh) → (zR_LT mh) → (zE1 mh 0) → (zR_TE mh) → (31 - x4) * 202 + 201 < (k : Int) → zw (zu_ex (zt_T n) 184 148 [(40, a0), (0, a1), (0, x2), (0, x3), (0, x4), (2, 0), (2, 0)] [] mh) (fun v m => zi_I m ∧ zfr [(28, 3), (28, 54), (28, 64), (28, 65), (28, 66), (28, 67), (28, 68), (28, 69), (28, 70), (122, 0), (123, 0), (124, 0), (125, 0), (126, 0), (127, 0), (128, 0), (129, 0), (130, 0), (131, 0), (136, 0)] m0 m ∧ zs2 m0 m ∧ zR_C0 m ∧ zR_KN m ∧ zR_LT m ∧ zE1 m 0 ∧ zR_TE m ∧ ((-2147483648) ≤ v ∧ v ≤ 2147483647) ∧ (0 ≤ m a0 2 ∧ m a0 2 ≤ 0))) ∧ (∀ (x2 x3 x4 x5 x6 : Int) (mh : zu_m), zi_I mh → zfr [(28, 3), (28, 54), (28, 64), (28, 65), (28, 66), (28, 67), (28, 68), (28, 69), (28, 70), (122, 0), (123, 0), (124, 0), (125, 0), (126, 0), (127, 0), (128, 0), (129, 0), (130, 0), (131, 0), (136, 0)] m0 mh → zs2 m0 mh → (0 ≤ a1 ∧ a1 ≤ 3) → (0 ≤ x2 ∧ x2 ≤ 200) → ((-2147483648) ≤ x3 ∧ x3 ≤ 2147483647) → (0 ≤ x4 ∧ x4 ≤ 30) → (0 ≤ x5 ∧ x5 ≤ 1) → (1 ≤ x6 ∧ x6 ≤ 201) → (1 ≤ mh a0 15 ∧ mh a0 15 ≤ 4) → (0 ≤ mh a0 2 ∧ mh a0 2 ≤ 0) → ((-1) ≤ mh a0 64 ∧ mh a0 64 ≤ 99999) → (1 ≤ mh a0 65 ∧ mh a0 65 ≤ 1) → (0 ≤ mh a0 66 ∧ mh a0 66 ≤ 0) → (0 ≤ mh a0 67 ∧ mh a0 67 ≤ 0) → (0 ≤ mh a0 68 ∧ mh a0 68 ≤ 0) → ((-1) ≤ mh a0 69 ∧ mh a0 69 ≤ (-1)) → (zR_C0 mh) → (zR_KN mh) → (zR_LT mh) → (zE1 mh 1) → (zE1 mh 0) → (zR_TE mh) → (201 - x6) * 1 + (31 - x4) * 202 + 0 < (k : Int) → zw (zu_ex (zt_T n) 184 195 [(40, a0), (0, a1), (0, x2), (0, x3), (0, x4), (0, x5), (0, x6)] [] mh) (fun v m => zi_I m ∧ zfr [(28, 3), (28, 54), (28, 64), (28, 65), (28, 66), (28, 67), (28, 68), (28, 69), (28, 70), (122, 0), (123, 0), (124, 0), (125, 0), (126, 0), (127, 0), (128, 0), (129, 0), (130, 0), (131, 0), (136, 0)] m0 m ∧ zs2 m0 m ∧ zR_C0 m ∧ zR_KN m ∧ zR_LT m ∧ zE1 m 0 ∧ zR_TE m ∧ ((-2147483648) ≤ v ∧ v ≤ 2147483647) ∧ (0 ≤ m a0 2 ∧ m a0 2 ≤ 0))) := by
  intro k
  induction k with
  | zero => exact ⟨fun x2 x3 mh hImh hFmh hLmh hba1 hbx2 hbx3 hg3 hg4 hRC0mh hRKNmh hRLTmh hRSEmh hRTEmh hM => by exfalso; omega, fun x2 x3 mh hImh hFmh hLmh hba1 hbx2 hbx3 hg3 hg4 hRC0mh hRKNmh hRLTmh hRSEmh hRTEmh hM => by exfalso; omega, fun x2 x3 mh hImh hFmh hLmh hba1 hbx2 hbx3 hg3 hg4 hRC0mh hRKNmh hRLTmh hRSEmh hRTEmh hM => by exfalso; omega, fun x2 x3 x4 mh hImh hFmh hLmh hba1 hbx2 hbx3 hbx4 hg4 hg5 hRC0mh hRKNmh hRLTmh hRSEmh hRTEmh hM => by exfalso; omega, fun x2 x3 x4 x5 x6 mh hImh hFmh hLmh hba1 hbx2 hbx3 hbx4 hbx5 hbx6 hg6 hg7 hg8 hg9 hg10 hg11 hg12 hg13 hRC0mh hRKNmh hRLTmh hRS1mh hRSEmh hRTEmh hM => by exfalso; omega⟩
  | succ k ih => exact ⟨zl_184H0k n (m0 := m0) hc0 k ih, zl_184H1k n (m0 := m0) hc0 k ih, zl_184H2k n (m0 := m0) hc0 k ih, zl_184H3k n (m0 := m0) hc0 k ih, zl_184H4k n (m0 := m0) hc0 k ih⟩
set_option maxHeartbeats 4000000 in
theorem zk_184k (n : Nat) {a0 a1 : Int} {m0 : zu_m} (hIm0 : zi_I m0) (hc0 : zcls a0 = 28) (ha1 : (-2147483648) ≤ a1 ∧ a1 ≤ 2147483647)    (hRC0m0 : zR_C0 m0) (hRKNm0 : zR_KN m0) (hRLTm0 : zR_LT m0) (hRSEm0 : zE1 m0 0) (hRTEm0 : zR_TE m0) : zw (zu_call (zt_T n) 184 [(40, a0), (0, a1)] m0) (fun v m => zi_I m ∧ zfr [(28, 3), (28, 54), (28, 64), (28, 65), (28, 66), (28, 67), (28, 68), (28, 69), (28, 70), (122, 0), (123, 0), (124, 0), (125, 0), (126, 0), (127, 0), (128, 0), (129, 0), (130, 0), (131, 0), (136, 0)] m0 m ∧ zs2 m0 m ∧ zR_C0 m ∧ zR_KN m ∧ zR_LT m ∧ zE1 m 0 ∧ zR_TE m ∧ ((-2147483648) ≤ v ∧ v ≤ 2147483647) ∧ (0 ≤ m a0 2 ∧ m a0 2 ≤ 0)) := by
  have hFm0 : zfr [(28, 3), (28, 54), (28, 64), (28, 65), (28, 66), (28, 67), (28, 68), (28, 69), (28, 70), (122, 0), (123, 0), (124, 0), (125, 0), (126, 0), (127, 0), (128, 0), (129, 0), (130, 0), (131, 0), (136, 0)] m0 m0 := zfr_rf _ _
  have hLm0 : zs2 m0 m0 := rfl
  refine zw_eq (zu_call_at (zt_T n) (zm_184 n) (zdp_184 n) _ _ _ _ _ rfl (zr_184_0 n _ _ a0 a1 m0)) ?_
  generalize hmm137 : zu_up m0 a0 2 0 = m137
  have hIm137 := zi_up hmm137 hIm0 hc0 zb_28_2 (by omega) (by omega)
  have hFm137 := zfr_up hmm137 hFm0 hc0 rfl
  have hLm137 := zs2_ne hmm137 hLm0 hc0 (by decide)
  have hRC0m137 := zR_C0_fr (zdis_fr (zfr_up hmm137 (zfr_rf [(28, 3)] _) hc0 rfl) rfl) hRC0m0
  have hRKNm137 := zR_KN_fr (zdis_fr (zfr_up hmm137 (zfr_rf [(28, 3)] _) hc0 rfl) rfl) hRKNm0
  have hRLTm137 := zR_LT_fr (zdis_fr (zfr_up hmm137 (zfr_rf [(28, 3)] _) hc0 rfl) rfl) hRLTm0
  have hRSEm137 := zR_SE_fr (zdis_fr (zfr_up hmm137 (zfr_rf [(28, 3)] _) hc0 rfl) rfl) hRSEm0
  have hRTEm137 := zR_TE_fr (zdis_fr (zfr_up hmm137 (zfr_rf [(28, 3)] _) hc0 rfl) rfl) hRTEm0
  refine zw_bd (zw_eq (zu_call_at (zt_T n) (zm_125 n) (zdp_125 n) _ _ _ _ _ rfl (zr_125_0 n _ _ a0 a1 m137)) ?_)
  refine zw_ite (fun h138 => ?_) (fun h138 => ?_)
  · refine zw_b (by omega) ?_
    refine zw_some ?_
    refine zw_ite (fun h139 => ?_) (fun h139 => ?_)
    · exfalso; omega
    · have r140 : (-2147483648) ≤ (m137 a0 2) ∧ (m137 a0 2) ≤ 2147483647 := zi_rd hIm137 hc0 zb_28_2
      have e141 : (m137 a0 2) = 0 := (zs_eq hmm137)
      exact zw_some ⟨hIm137, hFm137, hLm137, hRC0m137, hRKNm137, hRLTm137, hRSEm137, hRTEm137, ⟨by decide, by decide⟩, ⟨by omega, by omega⟩⟩
  · have r142 : 0 ≤ (m137 a0 15) ∧ (m137 a0 15) ≤ 4 := zi_rd hIm137 hc0 zb_28_15
    refine zw_ite (fun h143 => ?_) (fun h143 => ?_)
    · refine zw_b (by omega) ?_
      refine zw_some ?_
      refine zw_ite (fun h144 => ?_) (fun h144 => ?_)
      · exfalso; omega
      · have r145 : (-2147483648) ≤ (m137 a0 2) ∧ (m137 a0 2) ≤ 2147483647 := zi_rd hIm137 hc0 zb_28_2
        have e146 : (m137 a0 2) = 0 := (zs_eq hmm137)
        exact zw_some ⟨hIm137, hFm137, hLm137, hRC0m137, hRKNm137, hRLTm137, hRSEm137, hRTEm137, ⟨by decide, by decide⟩, ⟨by omega, by omega⟩⟩
    · refine zw_b (by omega) ?_
      refine zw_some ?_
      refine zw_ite (fun h147 => ?_) (fun h147 => ?_)
      · have r148 : (-2147483648) ≤ (m137 a0 2) ∧ (m137 a0 2) ≤ 2147483647 := zi_rd hIm137 hc0 zb_28_2
        have e149 : (m137 a0 2) = 0 := (zs_eq hmm137)
        have hM : (24 - 0) * 1 + 6514 < ((6539 : Nat) : Int) := by omega
        exact (zl_184k n (m0 := m0) hc0 6539).1 0 0 m137 hIm137 hFm137 hLm137 ⟨by omega, by omega⟩ ⟨by omega, by omega⟩ ⟨by omega, by omega⟩ ⟨by omega, by omega⟩ ⟨by omega, by omega⟩ hRC0m137 hRKNm137 hRLTm137 hRSEm137 hRTEm137 hM
      · exfalso; omega
set_option maxHeartbeats 4000000 in
theorem zl_185k (n : Nat) {a0 a1 a2 a3 a4 : Int} {m0 : zu_m} (hc0 : zcls a0 = 28)   : ∀ k : Nat, (∀ (x5 x7 x8 : Int) (mh : zu_m), zi_I mh → zfr [(28, 3), (28, 54), (28, 64), (28, 65), (28, 66), (28, 67), (28, 68), (28, 69), (28, 70), (122, 0), (123, 0), (124, 0), (125, 2), (126, 0), (127, 0), (128, 0), (129, 0), (130, 0), (131, 0)] m0 mh → zs2 m0 mh → (0 ≤ a1 ∧ a1 ≤ 2147483647) → (1 ≤ a2 ∧ a2 ≤ 200) → (0 ≤ a3 ∧ a3 ≤ 3) → (0 ≤ a4 ∧ a4 ≤ 16) → ((-9223372036854775808) ≤ x5 ∧ x5 ≤ 9223372036854775807) → ((-2147483648) ≤ x7 ∧ x7 ≤ 2147483647) → (0 ≤ x8 ∧ x8 ≤ 10) → (1 ≤ mh a0 15 ∧ mh a0 15 ≤ 4) → (0 ≤ mh a0 2 ∧ mh a0 2 ≤ 0) → (zR_KN mh) → (zR_LT mh) → (zE1 mh 0) → (10 - x8) * 202 + 201 < (k : Int) → zw (zu_ex (zt_T n) 185 59 [(40, a0), (0, a1), (0, a2), (0, a3), (0, a4), (1, x5), (2, 0), (0, x7), (0, x8), (2, 0)] [] mh) (fun v m => zi_I m ∧ zfr [(28, 3), (28, 54), (28, 64), (28, 65), (28, 66), (28, 67), (28, 68), (28, 69), (28, 70), (122, 0), (123, 0), (124, 0), (125, 2), (126, 0), (127, 0), (128, 0), (129, 0), (130, 0), (131, 0)] m0 m ∧ zs2 m0 m ∧ zR_KN m ∧ zR_LT m ∧ zE1 m 0 ∧ ((-2147483648) ≤ v ∧ v ≤ 2147483647) ∧ (0 ≤ m a0 2 ∧ m a0 2 ≤ 0))) ∧ (∀ (x5 x7 x8 x9 : Int) (mh : zu_m), zi_I mh → zfr [(28, 3), (28, 54), (28, 64), (28, 65), (28, 66), (28, 67), (28, 68), (28, 69), (28, 70), (122, 0), (123, 0), (124, 0), (125, 2), (126, 0), (127, 0), (128, 0), (129, 0), (130, 0), (131, 0)] m0 mh → zs2 m0 mh → (0 ≤ a1 ∧ a1 ≤ 2147483647) → (1 ≤ a2 ∧ a2 ≤ 200) → (0 ≤ a3 ∧ a3 ≤ 3) → (0 ≤ a4 ∧ a4 ≤ 16) → ((-9223372036854775808) ≤ x5 ∧ x5 ≤ 9223372036854775807) → ((-2147483648) ≤ x7 ∧ x7 ≤ 2147483647) → (0 ≤ x8 ∧ x8 ≤ 9) → (0 ≤ x9 ∧ x9 ≤ 200) → (0 ≤ mh 216 1 ∧ mh 216 1 ≤ 16) → (1 ≤ mh a0 15 ∧ mh a0 15 ≤ 4) → (0 ≤ mh a0 2 ∧ mh a0 2 ≤ 0) → (zR_KN mh) → (zR_LT mh) → (zE1 mh 1) → (zE1 mh 0) → (200 - x9) * 1 + (10 - x8) * 202 + 0 < (k : Int) → zw (zu_ex (zt_T n) 185 73 [(40, a0), (0, a1), (0, a2), (0, a3), (0, a4), (1, x5), (2, 0), (0, x7), (0, x8), (0, x9)] [] mh) (fun v m => zi_I m ∧ zfr [(28, 3), (28, 54), (28, 64), (28, 65), (28, 66), (28, 67), (28, 68), (28, 69), (28, 70), (122, 0), (123, 0), (124, 0), (125, 2), (126, 0), (127, 0), (128, 0), (129, 0), (130, 0), (131, 0)] m0 m ∧ zs2 m0 m ∧ zR_KN m ∧ zR_LT m ∧ zE1 m 0 ∧ ((-2147483648) ≤ v ∧ v ≤ 2147483647) ∧ (0 ≤ m a0 2 ∧ m a0 2 ≤ 0))) := by
  intro k
  induction k with
  | zero => exact ⟨fun x5 x7 x8 mh hImh hFmh hLmh hba1 hba2 hba3 hba4 hbx5 hbx7 hbx8 hg7 hg8 hRKNmh hRLTmh hRSEmh hM => by exfalso; omega, fun x5 x7 x8 x9 mh hImh hFmh hLmh hba1 hba2 hba3 hba4 hbx5 hbx7 hbx8 hbx9 hg8 hg9 hg10 hRKNmh hRLTmh hRS1mh hRSEmh hM => by exfalso; omega⟩
  | succ k ih =>
    refine ⟨?_, ?_⟩
    · intro x5 x7 x8 mh hImh hFmh hLmh hba1 hba2 hba3 hba4 hbx5 hbx7 hbx8 hg7 hg8 hRKNmh hRLTmh hRSEmh hM
      refine zw_eq (zu_rega_at (zt_T n) (zm_185 n) (zdp_185 n) _ _ _ _ _ _ (zr_185_59 n _ _ a0 a1 a2 a3 a4 x5 x7 x8 mh)) ?_
      refine zw_ite (fun h1 => ?_) (fun h1 => ?_)
      · generalize hmm2 : zu_up mh a0 63 x5 = m2
        have hIm2 := zi_up hmm2 hImh hc0 zb_28_63 (by omega) (by omega)
        have hFm2 := zfr_up hmm2 hFmh hc0 rfl
        have hLm2 := zs2_ne hmm2 hLmh hc0 (by decide)
        have hRKNm2 := zR_KN_fr (zdis_fr (zfr_up hmm2 (zfr_rf [(28, 64)] _) hc0 rfl) rfl) hRKNmh
        have hRLTm2 := zR_LT_fr (zdis_fr (zfr_up hmm2 (zfr_rf [(28, 64)] _) hc0 rfl) rfl) hRLTmh
        have hRSEm2 := zR_SE_fr (zdis_fr (zfr_up hmm2 (zfr_rf [(28, 64)] _) hc0 rfl) rfl) hRSEmh
        have r3 : (-2147483648) ≤ (m2 a0 2) ∧ (m2 a0 2) ≤ 2147483647 := zi_rd hIm2 hc0 zb_28_2
        have e4 : (m2 a0 2) = (mh a0 2) := (zs_ne hmm2 (Or.inr (by decide)))
        exact zw_some ⟨hIm2, hFm2, hLm2, hRKNm2, hRLTm2, hRSEm2, ⟨by omega, by omega⟩, ⟨by omega, by omega⟩⟩
      · refine zw_bd (zw_mono (zk_126k n hImh hc0 hRSEmh) (fun v6 m5 hqm5 => ?_))
        obtain ⟨hIm5, hfm5, hlm5, hvm5⟩ := hqm5
        have hFm5 := zfr_tr hFmh hfm5 rfl
        have hLm5 := zs2_go hLmh hlm5
        obtain ⟨hRS1m5, hRSEm5, hvm5⟩ := hvm5
        have hRKNm5 := zR_KN_fr (zdis_fr hfm5 rfl) hRKNmh
        have hRLTm5 := zR_LT_fr (zdis_fr hfm5 rfl) hRLTmh
        have r7 : (-2147483648) ≤ (m5 a0 2) ∧ (m5 a0 2) ≤ 2147483647 := zi_rd hIm5 hc0 zb_28_2
        have e8 : (m5 a0 2) = (mh a0 2) := (zfr_ap hfm5 hc0 rfl)
        have r9 : 0 ≤ (m5 a0 15) ∧ (m5 a0 15) ≤ 4 := zi_rd hIm5 hc0 zb_28_15
        have e10 : (m5 a0 15) = (mh a0 15) := (zfr_ap hfm5 hc0 rfl)
        have hM : (200 - 0) * 1 + (10 - x8) * 202 + 0 < (k : Int) := by omega
        exact ih.2 x5 x7 x8 0 m5 hIm5 hFm5 hLm5 ⟨by omega, by omega⟩ ⟨by omega, by omega⟩ ⟨by omega, by omega⟩ ⟨by omega, by omega⟩ ⟨by omega, by omega⟩ ⟨by omega, by omega⟩ ⟨by omega, by omega⟩ ⟨by omega, by omega⟩ ⟨by omega, by omega⟩ ⟨by omega, by omega⟩ ⟨by omega, by omega⟩ hRKNm5 hRLTm5 hRS1m5 hRSEm5 hM
    · intro x5 x7 x8 x9 mh hImh hFmh hLmh hba1 hba2 hba3 hba4 hbx5 hbx7 hbx8 hbx9 hg8 hg9 hg10 hRKNmh hRLTmh hRS1mh hRSEmh hM
      refine zw_eq (zu_rega_at (zt_T n) (zm_185 n) (zdp_185 n) _ _ _ _ _ _ (zr_185_73 n _ _ a0 a1 a2 a3 a4 x5 x7 x8 x9 mh)) ?_
      refine zw_ite (fun h11 => ?_) (fun h11 => ?_)
      · refine zw_bd (zw_mono (zk_130 n hImh hc0 ⟨by decide, by decide⟩ ⟨by omega, by omega⟩) (fun v13 m12 hqm12 => ?_))
        obtain ⟨hIm12, hfm12, hvm12⟩ := hqm12
        have hFm12 := zfr_tr hFmh hfm12 rfl
        have hLm12 := zs2_tr hLmh hfm12 rfl
        have hRKNm12 := zR_KN_fr (zdis_fr hfm12 rfl) hRKNmh
        have hRLTm12 := zR_LT_fr (zdis_fr hfm12 rfl) hRLTmh
        have hRS1m12 := zR_S1_fr (zdis_fr hfm12 rfl) hRS1mh
        have hRSEm12 := zR_SE_fr (zdis_fr hfm12 rfl) hRSEmh
        refine zw_ite (fun h14 => ?_) (fun h14 => ?_)
        · have w15 := zu_w32_id (z := x7 + 0) (by omega) (by omega)
          have w16 := zu_w32_id (z := x8 + 1) (by omega) (by omega)
          have r17 : (-2147483648) ≤ (m12 a0 2) ∧ (m12 a0 2) ≤ 2147483647 := zi_rd hIm12 hc0 zb_28_2
          have e18 : (m12 a0 2) = (mh a0 2) := (zfr_ap hfm12 hc0 rfl)
          have r19 : 0 ≤ (m12 a0 15) ∧ (m12 a0 15) ≤ 4 := zi_rd hIm12 hc0 zb_28_15
          have e20 : (m12 a0 15) = (mh a0 15) := (zfr_ap hfm12 hc0 rfl)
          have hM : (10 - (zu_w32 (x8 + 1))) * 202 + 201 < (k : Int) := by omega
          exact zw_le (zu_forget (zu_lr_same (zu_lr_same (zu_lr_same (zu_lr_same (zu_lr_same (zu_lr_same (zu_lr_same (zu_lr_same (zu_lr_same (zu_lr_drop zu_lr_nil))))))))))) (ih.1 x5 (zu_w32 (x7 + 0)) (zu_w32 (x8 + 1)) m12 hIm12 hFm12 hLm12 ⟨by omega, by omega⟩ ⟨by omega, by omega⟩ ⟨by omega, by omega⟩ ⟨by omega, by omega⟩ ⟨by omega, by omega⟩ ⟨by omega, by omega⟩ ⟨by omega, by omega⟩ ⟨by omega, by omega⟩ ⟨by omega, by omega⟩ hRKNm12 hRLTm12 hRSEm12 hM)
        · have w21 := zu_w32_rg (x7 + 1)
          have w22 := zu_w32_id (z := x8 + 1) (by omega) (by omega)
          have r23 : (-2147483648) ≤ (m12 a0 2) ∧ (m12 a0 2) ≤ 2147483647 := zi_rd hIm12 hc0 zb_28_2
          have e24 : (m12 a0 2) = (mh a0 2) := (zfr_ap hfm12 hc0 rfl)
          have r25 : 0 ≤ (m12 a0 15) ∧ (m12 a0 15) ≤ 4 := zi_rd hIm12 hc0 zb_28_15
          have e26 : (m12 a0 15) = (mh a0 15) := (zfr_ap hfm12 hc0 rfl)
          have hM : (10 - (zu_w32 (x8 + 1))) * 202 + 201 < (k : Int) := by omega
          exact zw_le (zu_forget (zu_lr_same (zu_lr_same (zu_lr_same (zu_lr_same (zu_lr_same (zu_lr_same (zu_lr_same (zu_lr_same (zu_lr_same (zu_lr_drop zu_lr_nil))))))))))) (ih.1 x5 (zu_w32 (x7 + 1)) (zu_w32 (x8 + 1)) m12 hIm12 hFm12 hLm12 ⟨by omega, by omega⟩ ⟨by omega, by omega⟩ ⟨by omega, by omega⟩ ⟨by omega, by omega⟩ ⟨by omega, by omega⟩ ⟨by omega, by omega⟩ ⟨by omega, by omega⟩ ⟨by omega, by omega⟩ ⟨by omega, by omega⟩ hRKNm12 hRLTm12 hRSEm12 hM)
      · refine zw_bd (zw_mono (zk_140k n hImh hc0 ⟨by decide, by decide⟩ hRS1mh hRKNmh hRLTmh hRSEmh) (fun v28 m27 hqm27 => ?_))
        obtain ⟨hIm27, hfm27, hlm27, hvm27⟩ := hqm27
        have hFm27 := zfr_tr hFmh hfm27 rfl
        have hLm27 := zs2_go hLmh (hlm27.2 (by decide))
        obtain ⟨hRS1m27, hRKNm27, hRLTm27, hRSEm27, hvm27⟩ := hvm27
        have w29 := zu_w32_id (z := x9 + 1) (by omega) (by omega)
        have r30 : (-2147483648) ≤ (m27 a0 2) ∧ (m27 a0 2) ≤ 2147483647 := zi_rd hIm27 hc0 zb_28_2
        have e31 : (m27 a0 2) = (mh a0 2) := (zfr_ap hfm27 hc0 rfl)
        have r32 : 0 ≤ (m27 a0 15) ∧ (m27 a0 15) ≤ 4 := zi_rd hIm27 hc0 zb_28_15
        have e33 : (m27 a0 15) = (mh a0 15) := (zfr_ap hfm27 hc0 rfl)
        have r34 : 0 ≤ (m27 216 1) ∧ (m27 216 1) ≤ 18 := zi_rdr (m := 2) (r0 := 1) (r1 := 1) hIm27 zq_216 (by omega) (by decide +kernel)
        have e35 : (m27 216 1) = (mh 216 1) := (zfr_ap hfm27 zq_216 rfl)
        have hM : (200 - (zu_w32 (x9 + 1))) * 1 + (10 - x8) * 202 + 0 < (k : Int) := by omega
        exact ih.2 x5 x7 x8 (zu_w32 (x9 + 1)) m27 hIm27 hFm27 hLm27 ⟨by omega, by omega⟩ ⟨by omega, by omega⟩ ⟨by omega, by omega⟩ ⟨by omega, by omega⟩ ⟨by omega, by omega⟩ ⟨by omega, by omega⟩ ⟨by omega, by omega⟩ ⟨by omega, by omega⟩ ⟨by omega, by omega⟩ ⟨by omega, by omega⟩ ⟨by omega, by omega⟩ hRKNm27 hRLTm27 hRS1m27 hRSEm27 hM
set_option maxHeartbeats 4000000 in
theorem zk_185k (n : Nat) {a0 a1 a2 a3 a4 : Int} {m0 : zu_m} (hIm0 : zi_I m0) (hc0 : zcls a0 = 28) (ha1 : (-2147483648) ≤ a1 ∧ a1 ≤ 2147483647) (ha2 : (-2147483648) ≤ a2 ∧ a2 ≤ 2147483647) (ha3 : (-2147483648) ≤ a3 ∧ a3 ≤ 2147483647) (ha4 : (-2147483648) ≤ a4 ∧ a4 ≤ 2147483647)    (hRKNm0 : zR_KN m0) (hRLTm0 : zR_LT m0) (hRSEm0 : zE1 m0 0) : zw (zu_call (zt_T n) 185 [(40, a0), (0, a1), (0, a2), (0, a3), (0, a4)] m0) (fun v m => zi_I m ∧ zfr [(28, 3), (28, 54), (28, 64), (28, 65), (28, 66), (28, 67), (28, 68), (28, 69), (28, 70), (122, 0), (123, 0), (124, 0), (125, 2), (126, 0), (127, 0), (128, 0), (129, 0), (130, 0), (131, 0)] m0 m ∧ zs2 m0 m ∧ zR_KN m ∧ zR_LT m ∧ zE1 m 0 ∧ ((-2147483648) ≤ v ∧ v ≤ 2147483647) ∧ (0 ≤ m a0 2 ∧ m a0 2 ≤ 0)) := by
  have hFm0 : zfr [(28, 3), (28, 54), (28, 64), (28, 65), (28, 66), (28, 67), (28, 68), (28, 69), (28, 70), (122, 0), (123, 0), (124, 0), (125, 2), (126, 0), (127, 0), (128, 0), (129, 0), (130, 0), (131, 0)] m0 m0 := zfr_rf _ _
  have hLm0 : zs2 m0 m0 := rfl
  refine zw_eq (zu_call_at (zt_T n) (zm_185 n) (zdp_185 n) _ _ _ _ _ rfl (zr_185_0 n _ _ a0 a1 a2 a3 a4 m0)) ?_
  generalize hmm36 : zu_up m0 a0 2 0 = m36
  have hIm36 := zi_up hmm36 hIm0 hc0 zb_28_2 (by omega) (by omega)
  have hFm36 := zfr_up hmm36 hFm0 hc0 rfl
  have hLm36 := zs2_ne hmm36 hLm0 hc0 (by decide)
  have hRKNm36 := zR_KN_fr (zdis_fr (zfr_up hmm36 (zfr_rf [(28, 3)] _) hc0 rfl) rfl) hRKNm0
  have hRLTm36 := zR_LT_fr (zdis_fr (zfr_up hmm36 (zfr_rf [(28, 3)] _) hc0 rfl) rfl) hRLTm0
  have hRSEm36 := zR_SE_fr (zdis_fr (zfr_up hmm36 (zfr_rf [(28, 3)] _) hc0 rfl) rfl) hRSEm0
  refine zw_ite (fun h37 => ?_) (fun h37 => ?_)
  · have r38 : (-2147483648) ≤ (m36 a0 2) ∧ (m36 a0 2) ≤ 2147483647 := zi_rd hIm36 hc0 zb_28_2
    have e39 : (m36 a0 2) = 0 := (zs_eq hmm36)
    exact zw_some ⟨hIm36, hFm36, hLm36, hRKNm36, hRLTm36, hRSEm36, ⟨by decide, by decide⟩, ⟨by omega, by omega⟩⟩
  · refine zw_bd (zw_eq (zu_call_at (zt_T n) (zm_83 n) (zdp_83 n) _ _ _ _ _ rfl (zr_83_0 n _ _ a2 1 200 m36)) ?_)
    refine zw_ite (fun h40 => ?_) (fun h40 => ?_)
    · refine zw_b (by omega) ?_
      refine zw_some ?_
      refine zw_ite (fun h41 => ?_) (fun h41 => ?_)
      · have r42 : (-2147483648) ≤ (m36 a0 2) ∧ (m36 a0 2) ≤ 2147483647 := zi_rd hIm36 hc0 zb_28_2
        have e43 : (m36 a0 2) = 0 := (zs_eq hmm36)
        exact zw_some ⟨hIm36, hFm36, hLm36, hRKNm36, hRLTm36, hRSEm36, ⟨by decide, by decide⟩, ⟨by omega, by omega⟩⟩
      · exfalso; omega
    · refine zw_ite (fun h44 => ?_) (fun h44 => ?_)
      · refine zw_b (by omega) ?_
        refine zw_some ?_
        refine zw_ite (fun h45 => ?_) (fun h45 => ?_)
        · have r46 : (-2147483648) ≤ (m36 a0 2) ∧ (m36 a0 2) ≤ 2147483647 := zi_rd hIm36 hc0 zb_28_2
          have e47 : (m36 a0 2) = 0 := (zs_eq hmm36)
          exact zw_some ⟨hIm36, hFm36, hLm36, hRKNm36, hRLTm36, hRSEm36, ⟨by decide, by decide⟩, ⟨by omega, by omega⟩⟩
        · exfalso; omega
      · refine zw_b (by omega) ?_
        refine zw_some ?_
        refine zw_ite (fun h48 => ?_) (fun h48 => ?_)
        · exfalso; omega
        · refine zw_bd (zw_eq (zu_call_at (zt_T n) (zm_125 n) (zdp_125 n) _ _ _ _ _ rfl (zr_125_0 n _ _ a0 a3 m36)) ?_)
          refine zw_ite (fun h49 => ?_) (fun h49 => ?_)
          · refine zw_b (by omega) ?_
            refine zw_some ?_
            refine zw_ite (fun h50 => ?_) (fun h50 => ?_)
            · have r51 : (-2147483648) ≤ (m36 a0 2) ∧ (m36 a0 2) ≤ 2147483647 := zi_rd hIm36 hc0 zb_28_2
              have e52 : (m36 a0 2) = 0 := (zs_eq hmm36)
              exact zw_some ⟨hIm36, hFm36, hLm36, hRKNm36, hRLTm36, hRSEm36, ⟨by decide, by decide⟩, ⟨by omega, by omega⟩⟩
            · exfalso; omega
          · have r53 : 0 ≤ (m36 a0 15) ∧ (m36 a0 15) ≤ 4 := zi_rd hIm36 hc0 zb_28_15
            refine zw_ite (fun h54 => ?_) (fun h54 => ?_)
            · refine zw_b (by omega) ?_
              refine zw_some ?_
              refine zw_ite (fun h55 => ?_) (fun h55 => ?_)
              · have r56 : (-2147483648) ≤ (m36 a0 2) ∧ (m36 a0 2) ≤ 2147483647 := zi_rd hIm36 hc0 zb_28_2
                have e57 : (m36 a0 2) = 0 := (zs_eq hmm36)
                exact zw_some ⟨hIm36, hFm36, hLm36, hRKNm36, hRLTm36, hRSEm36, ⟨by decide, by decide⟩, ⟨by omega, by omega⟩⟩
              · exfalso; omega
            · refine zw_b (by omega) ?_
              refine zw_some ?_
              refine zw_ite (fun h58 => ?_) (fun h58 => ?_)
              · exfalso; omega
              · refine zw_bd (zw_eq (zu_call_at (zt_T n) (zm_83 n) (zdp_83 n) _ _ _ _ _ rfl (zr_83_0 n _ _ a4 0 16 m36)) ?_)
                refine zw_ite (fun h59 => ?_) (fun h59 => ?_)
                · refine zw_b (by omega) ?_
                  refine zw_some ?_
                  refine zw_ite (fun h60 => ?_) (fun h60 => ?_)
                  · exfalso; omega
                  · have r61 : (-2147483648) ≤ (m36 a0 2) ∧ (m36 a0 2) ≤ 2147483647 := zi_rd hIm36 hc0 zb_28_2
                    have e62 : (m36 a0 2) = 0 := (zs_eq hmm36)
                    exact zw_some ⟨hIm36, hFm36, hLm36, hRKNm36, hRLTm36, hRSEm36, ⟨by decide, by decide⟩, ⟨by omega, by omega⟩⟩
                · refine zw_ite (fun h63 => ?_) (fun h63 => ?_)
                  · refine zw_b (by omega) ?_
                    refine zw_some ?_
                    refine zw_ite (fun h64 => ?_) (fun h64 => ?_)
                    · exfalso; omega
                    · have r65 : (-2147483648) ≤ (m36 a0 2) ∧ (m36 a0 2) ≤ 2147483647 := zi_rd hIm36 hc0 zb_28_2
                      have e66 : (m36 a0 2) = 0 := (zs_eq hmm36)
                      exact zw_some ⟨hIm36, hFm36, hLm36, hRKNm36, hRLTm36, hRSEm36, ⟨by decide, by decide⟩, ⟨by omega, by omega⟩⟩
                  · refine zw_b (by omega) ?_
                    refine zw_some ?_
                    refine zw_ite (fun h67 => ?_) (fun h67 => ?_)
                    · have r68 : (-9223372036854775808) ≤ (m36 a0 63) ∧ (m36 a0 63) ≤ 9223372036854775807 := zi_rd hIm36 hc0 zb_28_63
                      generalize hmm69 : zu_up m36 a0 63 a1 = m69
                      have hIm69 := zi_up hmm69 hIm36 hc0 zb_28_63 (by omega) (by omega)
                      have hFm69 := zfr_up hmm69 hFm36 hc0 rfl
                      have hLm69 := zs2_ne hmm69 hLm36 hc0 (by decide)
                      have hRKNm69 := zR_KN_fr (zdis_fr (zfr_up hmm69 (zfr_rf [(28, 64)] _) hc0 rfl) rfl) hRKNm36
                      have hRLTm69 := zR_LT_fr (zdis_fr (zfr_up hmm69 (zfr_rf [(28, 64)] _) hc0 rfl) rfl) hRLTm36
                      have hRSEm69 := zR_SE_fr (zdis_fr (zfr_up hmm69 (zfr_rf [(28, 64)] _) hc0 rfl) rfl) hRSEm36
                      have r70 : (-2147483648) ≤ (m69 a0 2) ∧ (m69 a0 2) ≤ 2147483647 := zi_rd hIm69 hc0 zb_28_2
                      have e71 : (m69 a0 2) = 0 := (Eq.trans (zs_ne hmm69 (Or.inr (by decide))) (zs_eq hmm36))
                      have r72 : 0 ≤ (m69 a0 15) ∧ (m69 a0 15) ≤ 4 := zi_rd hIm69 hc0 zb_28_15
                      have e73 : (m69 a0 15) = (m36 a0 15) := (zs_ne hmm69 (Or.inr (by decide)))
                      have hM : (10 - 0) * 202 + 201 < ((2222 : Nat) : Int) := by omega
                      exact (zl_185k n (m0 := m0) hc0 2222).1 (m36 a0 63) 0 0 m69 hIm69 hFm69 hLm69 ⟨by omega, by omega⟩ ⟨by omega, by omega⟩ ⟨by omega, by omega⟩ ⟨by omega, by omega⟩ ⟨by omega, by omega⟩ ⟨by omega, by omega⟩ ⟨by omega, by omega⟩ ⟨by omega, by omega⟩ ⟨by omega, by omega⟩ hRKNm69 hRLTm69 hRSEm69 hM
                    · exfalso; omega
set_option maxHeartbeats 4000000 in
theorem zl_187k (n : Nat) {a0 a1 a2 a3 : Int} {m0 : zu_m} (hc0 : zcls a0 = 28)   : ∀ k : Nat, (∀ (x4 : Int) (mh : zu_m), zi_I mh → zfr [(28, 3), (28, 54), (28, 64), (28, 65), (28, 66), (28, 67), (28, 68), (28, 69), (28, 70), (122, 0), (123, 0), (124, 0), (125, 2), (126, 0), (127, 0), (128, 0), (129, 0), (130, 0), (131, 0)] m0 mh → zs2 m0 mh → (0 ≤ a1 ∧ a1 ≤ 4) → (0 ≤ a2 ∧ a2 ≤ 3) → (0 ≤ a3 ∧ a3 ≤ 200) → (0 ≤ x4 ∧ x4 ≤ 4) → (0 ≤ mh 216 1 ∧ mh 216 1 ≤ 16) → (0 ≤ mh a0 2 ∧ mh a0 2 ≤ 0) → ((-1) ≤ mh a0 69 ∧ mh a0 69 ≤ 3) → (zR_KN mh) → (zR_LT mh) → (zE1 mh 1) → (zE1 mh 0) → (4 - x4) * 1 + 0 < (k : Int) → zw (zu_ex (zt_T n) 187 109 [(40, a0), (0, a1), (0, a2), (0, a3), (0, x4)] [] mh) (fun v m => zi_I m ∧ zfr [(28, 3), (28, 54), (28, 64), (28, 65), (28, 66), (28, 67), (28, 68), (28, 69), (28, 70), (122, 0), (123, 0), (124, 0), (125, 2), (126, 0), (127, 0), (128, 0), (129, 0), (130, 0), (131, 0)] m0 m ∧ zs2 m0 m ∧ zR_KN m ∧ zR_LT m ∧ zE1 m 0 ∧ ((-2147483648) ≤ v ∧ v ≤ 2147483647) ∧ (0 ≤ m a0 2 ∧ m a0 2 ≤ 0))) := by
  intro k
  induction k with
  | zero => exact fun x4 mh hImh hFmh hLmh hba1 hba2 hba3 hbx4 hg4 hg5 hg6 hRKNmh hRLTmh hRS1mh hRSEmh hM => by exfalso; omega
  | succ k ih =>
    intro x4 mh hImh hFmh hLmh hba1 hba2 hba3 hbx4 hg4 hg5 hg6 hRKNmh hRLTmh hRS1mh hRSEmh hM
    refine zw_eq (zu_rega_at (zt_T n) (zm_187 n) (zdp_187 n) _ _ _ _ _ _ (zr_187_109 n _ _ a0 a1 a2 a3 x4 mh)) ?_
    refine zw_ite (fun h1 => ?_) (fun h1 => ?_)
    · refine zw_bd (zw_mono (zk_159k n hImh hc0 ⟨by omega, by omega⟩ hRKNmh hRLTmh hRS1mh hRSEmh) (fun v3 m2 hqm2 => ?_))
      obtain ⟨hIm2, hfm2, hlm2, hvm2⟩ := hqm2
      have hFm2 := zfr_tr hFmh hfm2 rfl
      have hLm2 := zs2_go hLmh hlm2
      obtain ⟨hRKNm2, hRLTm2, hRS1m2, hRSEm2, hvm2⟩ := hvm2
      refine zw_bd (zw_mono (zk_186 n hIm2 hc0 ⟨by decide, by decide⟩) (fun v5 m4 hqm4 => ?_))
      obtain ⟨hIm4, hfm4, hvm4⟩ := hqm4
      have hFm4 := zfr_tr hFm2 hfm4 rfl
      have hLm4 := zs2_tr hLm2 hfm4 rfl
      have hRKNm4 := zR_KN_fr (zdis_fr hfm4 rfl) hRKNm2
      have hRLTm4 := zR_LT_fr (zdis_fr hfm4 rfl) hRLTm2
      have hRS1m4 := zR_S1_fr (zdis_fr hfm4 rfl) hRS1m2
      have hRSEm4 := zR_SE_fr (zdis_fr hfm4 rfl) hRSEm2
      have r6 : (-2147483648) ≤ (m4 a0 2) ∧ (m4 a0 2) ≤ 2147483647 := zi_rd hIm4 hc0 zb_28_2
      have e7 : (m4 a0 2) = (mh a0 2) := (Eq.trans (zfr_ap hfm4 hc0 rfl) (zfr_ap hfm2 hc0 rfl))
      exact zw_some ⟨hIm4, hFm4, hLm4, hRKNm4, hRLTm4, hRSEm4, ⟨by omega, by omega⟩, ⟨by omega, by omega⟩⟩
    · refine zw_ite (fun h8 => ?_) (fun h8 => ?_)
      · refine zw_bd (zw_mono (zk_159k n hImh hc0 ⟨by omega, by omega⟩ hRKNmh hRLTmh hRS1mh hRSEmh) (fun v10 m9 hqm9 => ?_))
        obtain ⟨hIm9, hfm9, hlm9, hvm9⟩ := hqm9
        have hFm9 := zfr_tr hFmh hfm9 rfl
        have hLm9 := zs2_go hLmh hlm9
        obtain ⟨hRKNm9, hRLTm9, hRS1m9, hRSEm9, hvm9⟩ := hvm9
        refine zw_bd (zw_mono (zk_186 n hIm9 hc0 ⟨by decide, by decide⟩) (fun v12 m11 hqm11 => ?_))
        obtain ⟨hIm11, hfm11, hvm11⟩ := hqm11
        have hFm11 := zfr_tr hFm9 hfm11 rfl
        have hLm11 := zs2_tr hLm9 hfm11 rfl
        have hRKNm11 := zR_KN_fr (zdis_fr hfm11 rfl) hRKNm9
        have hRLTm11 := zR_LT_fr (zdis_fr hfm11 rfl) hRLTm9
        have hRS1m11 := zR_S1_fr (zdis_fr hfm11 rfl) hRS1m9
        have hRSEm11 := zR_SE_fr (zdis_fr hfm11 rfl) hRSEm9
        have r13 : (-2147483648) ≤ (m11 a0 2) ∧ (m11 a0 2) ≤ 2147483647 := zi_rd hIm11 hc0 zb_28_2
        have e14 : (m11 a0 2) = (mh a0 2) := (Eq.trans (zfr_ap hfm11 hc0 rfl) (zfr_ap hfm9 hc0 rfl))
        exact zw_some ⟨hIm11, hFm11, hLm11, hRKNm11, hRLTm11, hRSEm11, ⟨by omega, by omega⟩, ⟨by omega, by omega⟩⟩
      · have w15 := zu_w32_id (z := 4 + x4) (by omega) (by omega)
        have b16 : 0 ≤ (zu_w32 (4 + x4)) ∧ (zu_w32 (4 + x4)) < 8 := by omega
        refine zw_if b16 ?_
        generalize hmm17 : zu_up mh 218 (zu_w32 (4 + x4)) 0 = m17
        have hIm17 := zi_up hmm17 hImh zq_218 (zb_127 _) (by omega) (by omega)
        have hFm17 := zfr_up hmm17 hFmh zq_218 rfl
        have hLm17 := zs2_ne hmm17 hLmh zq_218 (by decide)
        have hRKNm17 := zR_KN_fr (zdis_fr (zfr_up hmm17 (zfr_rf [(127, 0)] _) zq_218 rfl) rfl) hRKNmh
        have hRLTm17 := zR_LT_fr (zdis_fr (zfr_up hmm17 (zfr_rf [(127, 0)] _) zq_218 rfl) rfl) hRLTmh
        have hRS1m17 := zR_S1_fr (zdis_fr (zfr_up hmm17 (zfr_rf [(127, 0)] _) zq_218 rfl) rfl) hRS1mh
        have hRSEm17 := zR_SE_fr (zdis_fr (zfr_up hmm17 (zfr_rf [(127, 0)] _) zq_218 rfl) rfl) hRSEmh
        have w18 := zu_w32_id (z := x4 + 1) (by omega) (by omega)
        have r19 : (-2147483648) ≤ (m17 a0 2) ∧ (m17 a0 2) ≤ 2147483647 := zi_rd hIm17 hc0 zb_28_2
        have e20 : (m17 a0 2) = (mh a0 2) := (zs_ne hmm17 (Or.inl (zc_ne hc0 zq_218 (by decide))))
        have r21 : (-2147483648) ≤ (m17 a0 69) ∧ (m17 a0 69) ≤ 2147483647 := zi_rd hIm17 hc0 zb_28_69
        have e22 : (m17 a0 69) = (mh a0 69) := (zs_ne hmm17 (Or.inl (zc_ne hc0 zq_218 (by decide))))
        have r23 : 0 ≤ (m17 216 1) ∧ (m17 216 1) ≤ 18 := zi_rdr (m := 2) (r0 := 1) (r1 := 1) hIm17 zq_216 (by omega) (by decide +kernel)
        have e24 : (m17 216 1) = (mh 216 1) := (zs_ne hmm17 (Or.inl (zc_ne zq_216 zq_218 (by decide))))
        have hM : (4 - (zu_w32 (x4 + 1))) * 1 + 0 < (k : Int) := by omega
        exact ih (zu_w32 (x4 + 1)) m17 hIm17 hFm17 hLm17 ⟨by omega, by omega⟩ ⟨by omega, by omega⟩ ⟨by omega, by omega⟩ ⟨by omega, by omega⟩ ⟨by omega, by omega⟩ ⟨by omega, by omega⟩ ⟨by omega, by omega⟩ hRKNm17 hRLTm17 hRS1m17 hRSEm17 hM
set_option maxHeartbeats 4000000 in
theorem zk_187k (n : Nat) {a0 a1 a2 a3 : Int} {m0 : zu_m} (hIm0 : zi_I m0) (hc0 : zcls a0 = 28) (ha1 : (-2147483648) ≤ a1 ∧ a1 ≤ 2147483647) (ha2 : (-2147483648) ≤ a2 ∧ a2 ≤ 2147483647) (ha3 : (-2147483648) ≤ a3 ∧ a3 ≤ 2147483647)    (hRKNm0 : zR_KN m0) (hRLTm0 : zR_LT m0) (hRSEm0 : zE1 m0 0) : zw (zu_call (zt_T n) 187 [(40, a0), (0, a1), (0, a2), (0, a3)] m0) (fun v m => zi_I m ∧ zfr [(28, 3), (28, 54), (28, 64), (28, 65), (28, 66), (28, 67), (28, 68), (28, 69), (28, 70), (122, 0), (123, 0), (124, 0), (125, 2), (126, 0), (127, 0), (128, 0), (129, 0), (130, 0), (131, 0)] m0 m ∧ zs2 m0 m ∧ zR_KN m ∧ zR_LT m ∧ zE1 m 0 ∧ ((-2147483648) ≤ v ∧ v ≤ 2147483647) ∧ (0 ≤ m a0 2 ∧ m a0 2 ≤ 0)) := by
  have hFm0 : zfr [(28, 3), (28, 54), (28, 64), (28, 65), (28, 66), (28, 67), (28, 68), (28, 69), (28, 70), (122, 0), (123, 0), (124, 0), (125, 2), (126, 0), (127, 0), (128, 0), (129, 0), (130, 0), (131, 0)] m0 m0 := zfr_rf _ _
  have hLm0 : zs2 m0 m0 := rfl
  refine zw_eq (zu_call_at (zt_T n) (zm_187 n) (zdp_187 n) _ _ _ _ _ rfl (zr_187_0 n _ _ a0 a1 a2 a3 m0)) ?_
  generalize hmm25 : zu_up m0 a0 2 0 = m25
  have hIm25 := zi_up hmm25 hIm0 hc0 zb_28_2 (by omega) (by omega)
  have hFm25 := zfr_up hmm25 hFm0 hc0 rfl
  have hLm25 := zs2_ne hmm25 hLm0 hc0 (by decide)
  have hRKNm25 := zR_KN_fr (zdis_fr (zfr_up hmm25 (zfr_rf [(28, 3)] _) hc0 rfl) rfl) hRKNm0
  have hRLTm25 := zR_LT_fr (zdis_fr (zfr_up hmm25 (zfr_rf [(28, 3)] _) hc0 rfl) rfl) hRLTm0
  have hRSEm25 := zR_SE_fr (zdis_fr (zfr_up hmm25 (zfr_rf [(28, 3)] _) hc0 rfl) rfl) hRSEm0
  refine zw_bd (zw_eq (zu_call_at (zt_T n) (zm_83 n) (zdp_83 n) _ _ _ _ _ rfl (zr_83_0 n _ _ a1 0 4 m25)) ?_)
  refine zw_ite (fun h26 => ?_) (fun h26 => ?_)
  · refine zw_b (by omega) ?_
    refine zw_some ?_
    refine zw_ite (fun h27 => ?_) (fun h27 => ?_)
    · have r28 : (-2147483648) ≤ (m25 a0 2) ∧ (m25 a0 2) ≤ 2147483647 := zi_rd hIm25 hc0 zb_28_2
      have e29 : (m25 a0 2) = 0 := (zs_eq hmm25)
      exact zw_some ⟨hIm25, hFm25, hLm25, hRKNm25, hRLTm25, hRSEm25, ⟨by decide, by decide⟩, ⟨by omega, by omega⟩⟩
    · exfalso; omega
  · refine zw_ite (fun h30 => ?_) (fun h30 => ?_)
    · refine zw_b (by omega) ?_
      refine zw_some ?_
      refine zw_ite (fun h31 => ?_) (fun h31 => ?_)
      · have r32 : (-2147483648) ≤ (m25 a0 2) ∧ (m25 a0 2) ≤ 2147483647 := zi_rd hIm25 hc0 zb_28_2
        have e33 : (m25 a0 2) = 0 := (zs_eq hmm25)
        exact zw_some ⟨hIm25, hFm25, hLm25, hRKNm25, hRLTm25, hRSEm25, ⟨by decide, by decide⟩, ⟨by omega, by omega⟩⟩
      · exfalso; omega
    · refine zw_b (by omega) ?_
      refine zw_some ?_
      refine zw_ite (fun h34 => ?_) (fun h34 => ?_)
      · exfalso; omega
      · refine zw_bd (zw_eq (zu_call_at (zt_T n) (zm_83 n) (zdp_83 n) _ _ _ _ _ rfl (zr_83_0 n _ _ a3 0 200 m25)) ?_)
        refine zw_ite (fun h35 => ?_) (fun h35 => ?_)
        · refine zw_b (by omega) ?_
          refine zw_some ?_
          refine zw_ite (fun h36 => ?_) (fun h36 => ?_)
          · have r37 : (-2147483648) ≤ (m25 a0 2) ∧ (m25 a0 2) ≤ 2147483647 := zi_rd hIm25 hc0 zb_28_2
            have e38 : (m25 a0 2) = 0 := (zs_eq hmm25)
            exact zw_some ⟨hIm25, hFm25, hLm25, hRKNm25, hRLTm25, hRSEm25, ⟨by decide, by decide⟩, ⟨by omega, by omega⟩⟩
          · exfalso; omega
        · refine zw_ite (fun h39 => ?_) (fun h39 => ?_)
          · refine zw_b (by omega) ?_
            refine zw_some ?_
            refine zw_ite (fun h40 => ?_) (fun h40 => ?_)
            · have r41 : (-2147483648) ≤ (m25 a0 2) ∧ (m25 a0 2) ≤ 2147483647 := zi_rd hIm25 hc0 zb_28_2
              have e42 : (m25 a0 2) = 0 := (zs_eq hmm25)
              exact zw_some ⟨hIm25, hFm25, hLm25, hRKNm25, hRLTm25, hRSEm25, ⟨by decide, by decide⟩, ⟨by omega, by omega⟩⟩
            · exfalso; omega
          · refine zw_b (by omega) ?_
            refine zw_some ?_
            refine zw_ite (fun h43 => ?_) (fun h43 => ?_)
            · exfalso; omega
            · refine zw_ite (fun h44 => ?_) (fun h44 => ?_)
              · refine zw_ite (fun h45 => ?_) (fun h45 => ?_)
                · refine zw_bd (zw_mono (zk_126k n hIm25 hc0 hRSEm25) (fun v47 m46 hqm46 => ?_))
                  obtain ⟨hIm46, hfm46, hlm46, hvm46⟩ := hqm46
                  have hFm46 := zfr_tr hFm25 hfm46 rfl
                  have hLm46 := zs2_go hLm25 hlm46
                  obtain ⟨hRS1m46, hRSEm46, hvm46⟩ := hvm46
                  have hRKNm46 := zR_KN_fr (zdis_fr hfm46 rfl) hRKNm25
                  have hRLTm46 := zR_LT_fr (zdis_fr hfm46 rfl) hRLTm25
                  refine zw_ite (fun h48 => ?_) (fun h48 => ?_)
                  · refine zw_b (by omega) ?_
                    generalize hmm49 : zu_up m46 a0 68 0 = m49
                    have hIm49 := zi_up hmm49 hIm46 hc0 zb_28_68 (by omega) (by omega)
                    have hFm49 := zfr_up hmm49 hFm46 hc0 rfl
                    have hLm49 := zs2_ne hmm49 hLm46 hc0 (by decide)
                    have hRKNm49 := zR_KN_fr (zdis_fr (zfr_up hmm49 (zfr_rf [(28, 69)] _) hc0 rfl) rfl) hRKNm46
                    have hRLTm49 := zR_LT_fr (zdis_fr (zfr_up hmm49 (zfr_rf [(28, 69)] _) hc0 rfl) rfl) hRLTm46
                    have hRS1m49 := zR_S1_fr (zdis_fr (zfr_up hmm49 (zfr_rf [(28, 69)] _) hc0 rfl) rfl) hRS1m46
                    have hRSEm49 := zR_SE_fr (zdis_fr (zfr_up hmm49 (zfr_rf [(28, 69)] _) hc0 rfl) rfl) hRSEm46
                    refine zw_ite (fun h50 => ?_) (fun h50 => ?_)
                    · refine zw_b (by omega) ?_
                      generalize hmm51 : zu_up m49 a0 66 0 = m51
                      have hIm51 := zi_up hmm51 hIm49 hc0 zb_28_66 (by omega) (by omega)
                      have hFm51 := zfr_up hmm51 hFm49 hc0 rfl
                      have hLm51 := zs2_ne hmm51 hLm49 hc0 (by decide)
                      have hRKNm51 := zR_KN_fr (zdis_fr (zfr_up hmm51 (zfr_rf [(28, 67)] _) hc0 rfl) rfl) hRKNm49
                      have hRLTm51 := zR_LT_fr (zdis_fr (zfr_up hmm51 (zfr_rf [(28, 67)] _) hc0 rfl) rfl) hRLTm49
                      have hRS1m51 := zR_S1_fr (zdis_fr (zfr_up hmm51 (zfr_rf [(28, 67)] _) hc0 rfl) rfl) hRS1m49
                      have hRSEm51 := zR_SE_fr (zdis_fr (zfr_up hmm51 (zfr_rf [(28, 67)] _) hc0 rfl) rfl) hRSEm49
                      refine zw_ite (fun h52 => ?_) (fun h52 => ?_)
                      · generalize hmm53 : zu_up m51 a0 69 (-1) = m53
                        have hIm53 := zi_up hmm53 hIm51 hc0 zb_28_69 (by omega) (by omega)
                        have hFm53 := zfr_up hmm53 hFm51 hc0 rfl
                        have hLm53 := zs2_ne hmm53 hLm51 hc0 (by decide)
                        have hRKNm53 := zR_KN_fr (zdis_fr (zfr_up hmm53 (zfr_rf [(28, 70)] _) hc0 rfl) rfl) hRKNm51
                        have hRLTm53 := zR_LT_fr (zdis_fr (zfr_up hmm53 (zfr_rf [(28, 70)] _) hc0 rfl) rfl) hRLTm51
                        have hRS1m53 := zR_S1_fr (zdis_fr (zfr_up hmm53 (zfr_rf [(28, 70)] _) hc0 rfl) rfl) hRS1m51
                        have hRSEm53 := zR_SE_fr (zdis_fr (zfr_up hmm53 (zfr_rf [(28, 70)] _) hc0 rfl) rfl) hRSEm51
                        refine zw_ite (fun h54 => ?_) (fun h54 => ?_)
                        · refine zw_b (by omega) ?_
                          generalize hmm55 : zu_up m53 a0 67 0 = m55
                          have hIm55 := zi_up hmm55 hIm53 hc0 zb_28_67 (by omega) (by omega)
                          have hFm55 := zfr_up hmm55 hFm53 hc0 rfl
                          have hLm55 := zs2_ne hmm55 hLm53 hc0 (by decide)
                          have hRKNm55 := zR_KN_fr (zdis_fr (zfr_up hmm55 (zfr_rf [(28, 68)] _) hc0 rfl) rfl) hRKNm53
                          have hRLTm55 := zR_LT_fr (zdis_fr (zfr_up hmm55 (zfr_rf [(28, 68)] _) hc0 rfl) rfl) hRLTm53
                          have hRS1m55 := zR_S1_fr (zdis_fr (zfr_up hmm55 (zfr_rf [(28, 68)] _) hc0 rfl) rfl) hRS1m53
                          have hRSEm55 := zR_SE_fr (zdis_fr (zfr_up hmm55 (zfr_rf [(28, 68)] _) hc0 rfl) rfl) hRSEm53
                          have r56 : (-2147483648) ≤ (m55 a0 2) ∧ (m55 a0 2) ≤ 2147483647 := zi_rd hIm55 hc0 zb_28_2
                          have e57 : (m55 a0 2) = 0 := (Eq.trans (zs_ne hmm55 (Or.inr (by decide))) (Eq.trans (zs_ne hmm53 (Or.inr (by decide))) (Eq.trans (zs_ne hmm51 (Or.inr (by decide))) (Eq.trans (zs_ne hmm49 (Or.inr (by decide))) (Eq.trans (zfr_ap hfm46 hc0 rfl) (zs_eq hmm25))))))
                          have r58 : (-2147483648) ≤ (m55 a0 69) ∧ (m55 a0 69) ≤ 2147483647 := zi_rd hIm55 hc0 zb_28_69
                          have e59 : (m55 a0 69) = (-1) := (Eq.trans (zs_ne hmm55 (Or.inr (by decide))) (zs_eq hmm53))
                          have r60 : 0 ≤ (m55 216 1) ∧ (m55 216 1) ≤ 18 := zi_rdr (m := 2) (r0 := 1) (r1 := 1) hIm55 zq_216 (by omega) (by decide +kernel)
                          have e61 : (m55 216 1) = (m46 216 1) := (Eq.trans (zs_ne hmm55 (Or.inl (zc_ne zq_216 hc0 (by decide)))) (Eq.trans (zs_ne hmm53 (Or.inl (zc_ne zq_216 hc0 (by decide)))) (Eq.trans (zs_ne hmm51 (Or.inl (zc_ne zq_216 hc0 (by decide)))) (zs_ne hmm49 (Or.inl (zc_ne zq_216 hc0 (by decide)))))))
                          have hM : (4 - 0) * 1 + 0 < ((5 : Nat) : Int) := by omega
                          exact (zl_187k n (m0 := m0) hc0 5) 0 m55 hIm55 hFm55 hLm55 ⟨by omega, by omega⟩ ⟨by omega, by omega⟩ ⟨by omega, by omega⟩ ⟨by omega, by omega⟩ ⟨by omega, by omega⟩ ⟨by omega, by omega⟩ ⟨by omega, by omega⟩ hRKNm55 hRLTm55 hRS1m55 hRSEm55 hM
                        · refine zw_b (by omega) ?_
                          generalize hmm62 : zu_up m53 a0 67 1 = m62
                          have hIm62 := zi_up hmm62 hIm53 hc0 zb_28_67 (by omega) (by omega)
                          have hFm62 := zfr_up hmm62 hFm53 hc0 rfl
                          have hLm62 := zs2_ne hmm62 hLm53 hc0 (by decide)
                          have hRKNm62 := zR_KN_fr (zdis_fr (zfr_up hmm62 (zfr_rf [(28, 68)] _) hc0 rfl) rfl) hRKNm53
                          have hRLTm62 := zR_LT_fr (zdis_fr (zfr_up hmm62 (zfr_rf [(28, 68)] _) hc0 rfl) rfl) hRLTm53
                          have hRS1m62 := zR_S1_fr (zdis_fr (zfr_up hmm62 (zfr_rf [(28, 68)] _) hc0 rfl) rfl) hRS1m53
                          have hRSEm62 := zR_SE_fr (zdis_fr (zfr_up hmm62 (zfr_rf [(28, 68)] _) hc0 rfl) rfl) hRSEm53
                          have r63 : (-2147483648) ≤ (m62 a0 2) ∧ (m62 a0 2) ≤ 2147483647 := zi_rd hIm62 hc0 zb_28_2
                          have e64 : (m62 a0 2) = 0 := (Eq.trans (zs_ne hmm62 (Or.inr (by decide))) (Eq.trans (zs_ne hmm53 (Or.inr (by decide))) (Eq.trans (zs_ne hmm51 (Or.inr (by decide))) (Eq.trans (zs_ne hmm49 (Or.inr (by decide))) (Eq.trans (zfr_ap hfm46 hc0 rfl) (zs_eq hmm25))))))
                          have r65 : (-2147483648) ≤ (m62 a0 69) ∧ (m62 a0 69) ≤ 2147483647 := zi_rd hIm62 hc0 zb_28_69
                          have e66 : (m62 a0 69) = (-1) := (Eq.trans (zs_ne hmm62 (Or.inr (by decide))) (zs_eq hmm53))
                          have r67 : 0 ≤ (m62 216 1) ∧ (m62 216 1) ≤ 18 := zi_rdr (m := 2) (r0 := 1) (r1 := 1) hIm62 zq_216 (by omega) (by decide +kernel)
                          have e68 : (m62 216 1) = (m46 216 1) := (Eq.trans (zs_ne hmm62 (Or.inl (zc_ne zq_216 hc0 (by decide)))) (Eq.trans (zs_ne hmm53 (Or.inl (zc_ne zq_216 hc0 (by decide)))) (Eq.trans (zs_ne hmm51 (Or.inl (zc_ne zq_216 hc0 (by decide)))) (zs_ne hmm49 (Or.inl (zc_ne zq_216 hc0 (by decide)))))))
                          have hM : (4 - 0) * 1 + 0 < ((5 : Nat) : Int) := by omega
                          exact (zl_187k n (m0 := m0) hc0 5) 0 m62 hIm62 hFm62 hLm62 ⟨by omega, by omega⟩ ⟨by omega, by omega⟩ ⟨by omega, by omega⟩ ⟨by omega, by omega⟩ ⟨by omega, by omega⟩ ⟨by omega, by omega⟩ ⟨by omega, by omega⟩ hRKNm62 hRLTm62 hRS1m62 hRSEm62 hM
                      · exfalso; omega
                    · refine zw_b (by omega) ?_
                      generalize hmm69 : zu_up m49 a0 66 1 = m69
                      have hIm69 := zi_up hmm69 hIm49 hc0 zb_28_66 (by omega) (by omega)
                      have hFm69 := zfr_up hmm69 hFm49 hc0 rfl
                      have hLm69 := zs2_ne hmm69 hLm49 hc0 (by decide)
                      have hRKNm69 := zR_KN_fr (zdis_fr (zfr_up hmm69 (zfr_rf [(28, 67)] _) hc0 rfl) rfl) hRKNm49
                      have hRLTm69 := zR_LT_fr (zdis_fr (zfr_up hmm69 (zfr_rf [(28, 67)] _) hc0 rfl) rfl) hRLTm49
                      have hRS1m69 := zR_S1_fr (zdis_fr (zfr_up hmm69 (zfr_rf [(28, 67)] _) hc0 rfl) rfl) hRS1m49
                      have hRSEm69 := zR_SE_fr (zdis_fr (zfr_up hmm69 (zfr_rf [(28, 67)] _) hc0 rfl) rfl) hRSEm49
                      refine zw_ite (fun h70 => ?_) (fun h70 => ?_)
                      · generalize hmm71 : zu_up m69 a0 69 (-1) = m71
                        have hIm71 := zi_up hmm71 hIm69 hc0 zb_28_69 (by omega) (by omega)
                        have hFm71 := zfr_up hmm71 hFm69 hc0 rfl
                        have hLm71 := zs2_ne hmm71 hLm69 hc0 (by decide)
                        have hRKNm71 := zR_KN_fr (zdis_fr (zfr_up hmm71 (zfr_rf [(28, 70)] _) hc0 rfl) rfl) hRKNm69
                        have hRLTm71 := zR_LT_fr (zdis_fr (zfr_up hmm71 (zfr_rf [(28, 70)] _) hc0 rfl) rfl) hRLTm69
                        have hRS1m71 := zR_S1_fr (zdis_fr (zfr_up hmm71 (zfr_rf [(28, 70)] _) hc0 rfl) rfl) hRS1m69
                        have hRSEm71 := zR_SE_fr (zdis_fr (zfr_up hmm71 (zfr_rf [(28, 70)] _) hc0 rfl) rfl) hRSEm69
                        refine zw_ite (fun h72 => ?_) (fun h72 => ?_)
                        · refine zw_b (by omega) ?_
                          generalize hmm73 : zu_up m71 a0 67 0 = m73
                          have hIm73 := zi_up hmm73 hIm71 hc0 zb_28_67 (by omega) (by omega)
                          have hFm73 := zfr_up hmm73 hFm71 hc0 rfl
                          have hLm73 := zs2_ne hmm73 hLm71 hc0 (by decide)
                          have hRKNm73 := zR_KN_fr (zdis_fr (zfr_up hmm73 (zfr_rf [(28, 68)] _) hc0 rfl) rfl) hRKNm71
                          have hRLTm73 := zR_LT_fr (zdis_fr (zfr_up hmm73 (zfr_rf [(28, 68)] _) hc0 rfl) rfl) hRLTm71
                          have hRS1m73 := zR_S1_fr (zdis_fr (zfr_up hmm73 (zfr_rf [(28, 68)] _) hc0 rfl) rfl) hRS1m71
                          have hRSEm73 := zR_SE_fr (zdis_fr (zfr_up hmm73 (zfr_rf [(28, 68)] _) hc0 rfl) rfl) hRSEm71
                          have r74 : (-2147483648) ≤ (m73 a0 2) ∧ (m73 a0 2) ≤ 2147483647 := zi_rd hIm73 hc0 zb_28_2
                          have e75 : (m73 a0 2) = 0 := (Eq.trans (zs_ne hmm73 (Or.inr (by decide))) (Eq.trans (zs_ne hmm71 (Or.inr (by decide))) (Eq.trans (zs_ne hmm69 (Or.inr (by decide))) (Eq.trans (zs_ne hmm49 (Or.inr (by decide))) (Eq.trans (zfr_ap hfm46 hc0 rfl) (zs_eq hmm25))))))
                          have r76 : (-2147483648) ≤ (m73 a0 69) ∧ (m73 a0 69) ≤ 2147483647 := zi_rd hIm73 hc0 zb_28_69
                          have e77 : (m73 a0 69) = (-1) := (Eq.trans (zs_ne hmm73 (Or.inr (by decide))) (zs_eq hmm71))
                          have r78 : 0 ≤ (m73 216 1) ∧ (m73 216 1) ≤ 18 := zi_rdr (m := 2) (r0 := 1) (r1 := 1) hIm73 zq_216 (by omega) (by decide +kernel)
                          have e79 : (m73 216 1) = (m46 216 1) := (Eq.trans (zs_ne hmm73 (Or.inl (zc_ne zq_216 hc0 (by decide)))) (Eq.trans (zs_ne hmm71 (Or.inl (zc_ne zq_216 hc0 (by decide)))) (Eq.trans (zs_ne hmm69 (Or.inl (zc_ne zq_216 hc0 (by decide)))) (zs_ne hmm49 (Or.inl (zc_ne zq_216 hc0 (by decide)))))))
                          have hM : (4 - 0) * 1 + 0 < ((5 : Nat) : Int) := by omega
                          exact (zl_187k n (m0 := m0) hc0 5) 0 m73 hIm73 hFm73 hLm73 ⟨by omega, by omega⟩ ⟨by omega, by omega⟩ ⟨by omega, by omega⟩ ⟨by omega, by omega⟩ ⟨by omega, by omega⟩ ⟨by omega, by omega⟩ ⟨by omega, by omega⟩ hRKNm73 hRLTm73 hRS1m73 hRSEm73 hM
                        · exfalso; omega
                      · exfalso; omega
                  · refine zw_b (by omega) ?_
                    generalize hmm80 : zu_up m46 a0 68 1 = m80
                    have hIm80 := zi_up hmm80 hIm46 hc0 zb_28_68 (by omega) (by omega)
                    have hFm80 := zfr_up hmm80 hFm46 hc0 rfl
                    have hLm80 := zs2_ne hmm80 hLm46 hc0 (by decide)
                    have hRKNm80 := zR_KN_fr (zdis_fr (zfr_up hmm80 (zfr_rf [(28, 69)] _) hc0 rfl) rfl) hRKNm46
                    have hRLTm80 := zR_LT_fr (zdis_fr (zfr_up hmm80 (zfr_rf [(28, 69)] _) hc0 rfl) rfl) hRLTm46
                    have hRS1m80 := zR_S1_fr (zdis_fr (zfr_up hmm80 (zfr_rf [(28, 69)] _) hc0 rfl) rfl) hRS1m46
                    have hRSEm80 := zR_SE_fr (zdis_fr (zfr_up hmm80 (zfr_rf [(28, 69)] _) hc0 rfl) rfl) hRSEm46
                    refine zw_ite (fun h81 => ?_) (fun h81 => ?_)
                    · refine zw_b (by omega) ?_
                      generalize hmm82 : zu_up m80 a0 66 0 = m82
                      have hIm82 := zi_up hmm82 hIm80 hc0 zb_28_66 (by omega) (by omega)
                      have hFm82 := zfr_up hmm82 hFm80 hc0 rfl
                      have hLm82 := zs2_ne hmm82 hLm80 hc0 (by decide)
                      have hRKNm82 := zR_KN_fr (zdis_fr (zfr_up hmm82 (zfr_rf [(28, 67)] _) hc0 rfl) rfl) hRKNm80
                      have hRLTm82 := zR_LT_fr (zdis_fr (zfr_up hmm82 (zfr_rf [(28, 67)] _) hc0 rfl) rfl) hRLTm80
                      have hRS1m82 := zR_S1_fr (zdis_fr (zfr_up hmm82 (zfr_rf [(28, 67)] _) hc0 rfl) rfl) hRS1m80
                      have hRSEm82 := zR_SE_fr (zdis_fr (zfr_up hmm82 (zfr_rf [(28, 67)] _) hc0 rfl) rfl) hRSEm80
                      refine zw_ite (fun h83 => ?_) (fun h83 => ?_)
                      · generalize hmm84 : zu_up m82 a0 69 (-1) = m84
                        have hIm84 := zi_up hmm84 hIm82 hc0 zb_28_69 (by omega) (by omega)
                        have hFm84 := zfr_up hmm84 hFm82 hc0 rfl
                        have hLm84 := zs2_ne hmm84 hLm82 hc0 (by decide)
                        have hRKNm84 := zR_KN_fr (zdis_fr (zfr_up hmm84 (zfr_rf [(28, 70)] _) hc0 rfl) rfl) hRKNm82
                        have hRLTm84 := zR_LT_fr (zdis_fr (zfr_up hmm84 (zfr_rf [(28, 70)] _) hc0 rfl) rfl) hRLTm82
                        have hRS1m84 := zR_S1_fr (zdis_fr (zfr_up hmm84 (zfr_rf [(28, 70)] _) hc0 rfl) rfl) hRS1m82
                        have hRSEm84 := zR_SE_fr (zdis_fr (zfr_up hmm84 (zfr_rf [(28, 70)] _) hc0 rfl) rfl) hRSEm82
                        refine zw_ite (fun h85 => ?_) (fun h85 => ?_)
                        · refine zw_b (by omega) ?_
                          generalize hmm86 : zu_up m84 a0 67 0 = m86
                          have hIm86 := zi_up hmm86 hIm84 hc0 zb_28_67 (by omega) (by omega)
                          have hFm86 := zfr_up hmm86 hFm84 hc0 rfl
                          have hLm86 := zs2_ne hmm86 hLm84 hc0 (by decide)
                          have hRKNm86 := zR_KN_fr (zdis_fr (zfr_up hmm86 (zfr_rf [(28, 68)] _) hc0 rfl) rfl) hRKNm84
                          have hRLTm86 := zR_LT_fr (zdis_fr (zfr_up hmm86 (zfr_rf [(28, 68)] _) hc0 rfl) rfl) hRLTm84
                          have hRS1m86 := zR_S1_fr (zdis_fr (zfr_up hmm86 (zfr_rf [(28, 68)] _) hc0 rfl) rfl) hRS1m84
                          have hRSEm86 := zR_SE_fr (zdis_fr (zfr_up hmm86 (zfr_rf [(28, 68)] _) hc0 rfl) rfl) hRSEm84
                          have r87 : (-2147483648) ≤ (m86 a0 2) ∧ (m86 a0 2) ≤ 2147483647 := zi_rd hIm86 hc0 zb_28_2
                          have e88 : (m86 a0 2) = 0 := (Eq.trans (zs_ne hmm86 (Or.inr (by decide))) (Eq.trans (zs_ne hmm84 (Or.inr (by decide))) (Eq.trans (zs_ne hmm82 (Or.inr (by decide))) (Eq.trans (zs_ne hmm80 (Or.inr (by decide))) (Eq.trans (zfr_ap hfm46 hc0 rfl) (zs_eq hmm25))))))
                          have r89 : (-2147483648) ≤ (m86 a0 69) ∧ (m86 a0 69) ≤ 2147483647 := zi_rd hIm86 hc0 zb_28_69
                          have e90 : (m86 a0 69) = (-1) := (Eq.trans (zs_ne hmm86 (Or.inr (by decide))) (zs_eq hmm84))
                          have r91 : 0 ≤ (m86 216 1) ∧ (m86 216 1) ≤ 18 := zi_rdr (m := 2) (r0 := 1) (r1 := 1) hIm86 zq_216 (by omega) (by decide +kernel)
                          have e92 : (m86 216 1) = (m46 216 1) := (Eq.trans (zs_ne hmm86 (Or.inl (zc_ne zq_216 hc0 (by decide)))) (Eq.trans (zs_ne hmm84 (Or.inl (zc_ne zq_216 hc0 (by decide)))) (Eq.trans (zs_ne hmm82 (Or.inl (zc_ne zq_216 hc0 (by decide)))) (zs_ne hmm80 (Or.inl (zc_ne zq_216 hc0 (by decide)))))))
                          have hM : (4 - 0) * 1 + 0 < ((5 : Nat) : Int) := by omega
                          exact (zl_187k n (m0 := m0) hc0 5) 0 m86 hIm86 hFm86 hLm86 ⟨by omega, by omega⟩ ⟨by omega, by omega⟩ ⟨by omega, by omega⟩ ⟨by omega, by omega⟩ ⟨by omega, by omega⟩ ⟨by omega, by omega⟩ ⟨by omega, by omega⟩ hRKNm86 hRLTm86 hRS1m86 hRSEm86 hM
                        · exfalso; omega
                      · exfalso; omega
                    · exfalso; omega
                · have r93 : (-2147483648) ≤ (m25 a0 2) ∧ (m25 a0 2) ≤ 2147483647 := zi_rd hIm25 hc0 zb_28_2
                  have e94 : (m25 a0 2) = 0 := (zs_eq hmm25)
                  exact zw_some ⟨hIm25, hFm25, hLm25, hRKNm25, hRLTm25, hRSEm25, ⟨by decide, by decide⟩, ⟨by omega, by omega⟩⟩
              · refine zw_bd (zw_eq (zu_call_at (zt_T n) (zm_125 n) (zdp_125 n) _ _ _ _ _ rfl (zr_125_0 n _ _ a0 a2 m25)) ?_)
                refine zw_ite (fun h95 => ?_) (fun h95 => ?_)
                · refine zw_b (by omega) ?_
                  refine zw_some ?_
                  refine zw_ite (fun h96 => ?_) (fun h96 => ?_)
                  · exfalso; omega
                  · have r97 : (-2147483648) ≤ (m25 a0 2) ∧ (m25 a0 2) ≤ 2147483647 := zi_rd hIm25 hc0 zb_28_2
                    have e98 : (m25 a0 2) = 0 := (zs_eq hmm25)
                    exact zw_some ⟨hIm25, hFm25, hLm25, hRKNm25, hRLTm25, hRSEm25, ⟨by decide, by decide⟩, ⟨by omega, by omega⟩⟩
                · have r99 : 0 ≤ (m25 a0 15) ∧ (m25 a0 15) ≤ 4 := zi_rd hIm25 hc0 zb_28_15
                  refine zw_ite (fun h100 => ?_) (fun h100 => ?_)
                  · refine zw_b (by omega) ?_
                    refine zw_some ?_
                    refine zw_ite (fun h101 => ?_) (fun h101 => ?_)
                    · exfalso; omega
                    · have r102 : (-2147483648) ≤ (m25 a0 2) ∧ (m25 a0 2) ≤ 2147483647 := zi_rd hIm25 hc0 zb_28_2
                      have e103 : (m25 a0 2) = 0 := (zs_eq hmm25)
                      exact zw_some ⟨hIm25, hFm25, hLm25, hRKNm25, hRLTm25, hRSEm25, ⟨by decide, by decide⟩, ⟨by omega, by omega⟩⟩
                  · refine zw_b (by omega) ?_
                    refine zw_some ?_
                    refine zw_ite (fun h104 => ?_) (fun h104 => ?_)
                    · refine zw_bd (zw_mono (zk_126k n hIm25 hc0 hRSEm25) (fun v106 m105 hqm105 => ?_))
                      obtain ⟨hIm105, hfm105, hlm105, hvm105⟩ := hqm105
                      have hFm105 := zfr_tr hFm25 hfm105 rfl
                      have hLm105 := zs2_go hLm25 hlm105
                      obtain ⟨hRS1m105, hRSEm105, hvm105⟩ := hvm105
                      have hRKNm105 := zR_KN_fr (zdis_fr hfm105 rfl) hRKNm25
                      have hRLTm105 := zR_LT_fr (zdis_fr hfm105 rfl) hRLTm25
                      refine zw_ite (fun h107 => ?_) (fun h107 => ?_)
                      · refine zw_b (by omega) ?_
                        generalize hmm108 : zu_up m105 a0 68 0 = m108
                        have hIm108 := zi_up hmm108 hIm105 hc0 zb_28_68 (by omega) (by omega)
                        have hFm108 := zfr_up hmm108 hFm105 hc0 rfl
                        have hLm108 := zs2_ne hmm108 hLm105 hc0 (by decide)
                        have hRKNm108 := zR_KN_fr (zdis_fr (zfr_up hmm108 (zfr_rf [(28, 69)] _) hc0 rfl) rfl) hRKNm105
                        have hRLTm108 := zR_LT_fr (zdis_fr (zfr_up hmm108 (zfr_rf [(28, 69)] _) hc0 rfl) rfl) hRLTm105
                        have hRS1m108 := zR_S1_fr (zdis_fr (zfr_up hmm108 (zfr_rf [(28, 69)] _) hc0 rfl) rfl) hRS1m105
                        have hRSEm108 := zR_SE_fr (zdis_fr (zfr_up hmm108 (zfr_rf [(28, 69)] _) hc0 rfl) rfl) hRSEm105
                        refine zw_ite (fun h109 => ?_) (fun h109 => ?_)
                        · refine zw_b (by omega) ?_
                          generalize hmm110 : zu_up m108 a0 66 0 = m110
                          have hIm110 := zi_up hmm110 hIm108 hc0 zb_28_66 (by omega) (by omega)
                          have hFm110 := zfr_up hmm110 hFm108 hc0 rfl
                          have hLm110 := zs2_ne hmm110 hLm108 hc0 (by decide)
                          have hRKNm110 := zR_KN_fr (zdis_fr (zfr_up hmm110 (zfr_rf [(28, 67)] _) hc0 rfl) rfl) hRKNm108
                          have hRLTm110 := zR_LT_fr (zdis_fr (zfr_up hmm110 (zfr_rf [(28, 67)] _) hc0 rfl) rfl) hRLTm108
                          have hRS1m110 := zR_S1_fr (zdis_fr (zfr_up hmm110 (zfr_rf [(28, 67)] _) hc0 rfl) rfl) hRS1m108
                          have hRSEm110 := zR_SE_fr (zdis_fr (zfr_up hmm110 (zfr_rf [(28, 67)] _) hc0 rfl) rfl) hRSEm108
                          refine zw_ite (fun h111 => ?_) (fun h111 => ?_)
                          · exfalso; omega
                          · generalize hmm112 : zu_up m110 a0 69 a2 = m112
                            have hIm112 := zi_up hmm112 hIm110 hc0 zb_28_69 (by omega) (by omega)
                            have hFm112 := zfr_up hmm112 hFm110 hc0 rfl
                            have hLm112 := zs2_ne hmm112 hLm110 hc0 (by decide)
                            have hRKNm112 := zR_KN_fr (zdis_fr (zfr_up hmm112 (zfr_rf [(28, 70)] _) hc0 rfl) rfl) hRKNm110
                            have hRLTm112 := zR_LT_fr (zdis_fr (zfr_up hmm112 (zfr_rf [(28, 70)] _) hc0 rfl) rfl) hRLTm110
                            have hRS1m112 := zR_S1_fr (zdis_fr (zfr_up hmm112 (zfr_rf [(28, 70)] _) hc0 rfl) rfl) hRS1m110
                            have hRSEm112 := zR_SE_fr (zdis_fr (zfr_up hmm112 (zfr_rf [(28, 70)] _) hc0 rfl) rfl) hRSEm110
                            refine zw_ite (fun h113 => ?_) (fun h113 => ?_)
                            · refine zw_b (by omega) ?_
                              generalize hmm114 : zu_up m112 a0 67 0 = m114
                              have hIm114 := zi_up hmm114 hIm112 hc0 zb_28_67 (by omega) (by omega)
                              have hFm114 := zfr_up hmm114 hFm112 hc0 rfl
                              have hLm114 := zs2_ne hmm114 hLm112 hc0 (by decide)
                              have hRKNm114 := zR_KN_fr (zdis_fr (zfr_up hmm114 (zfr_rf [(28, 68)] _) hc0 rfl) rfl) hRKNm112
                              have hRLTm114 := zR_LT_fr (zdis_fr (zfr_up hmm114 (zfr_rf [(28, 68)] _) hc0 rfl) rfl) hRLTm112
                              have hRS1m114 := zR_S1_fr (zdis_fr (zfr_up hmm114 (zfr_rf [(28, 68)] _) hc0 rfl) rfl) hRS1m112
                              have hRSEm114 := zR_SE_fr (zdis_fr (zfr_up hmm114 (zfr_rf [(28, 68)] _) hc0 rfl) rfl) hRSEm112
                              have r115 : (-2147483648) ≤ (m114 a0 2) ∧ (m114 a0 2) ≤ 2147483647 := zi_rd hIm114 hc0 zb_28_2
                              have e116 : (m114 a0 2) = 0 := (Eq.trans (zs_ne hmm114 (Or.inr (by decide))) (Eq.trans (zs_ne hmm112 (Or.inr (by decide))) (Eq.trans (zs_ne hmm110 (Or.inr (by decide))) (Eq.trans (zs_ne hmm108 (Or.inr (by decide))) (Eq.trans (zfr_ap hfm105 hc0 rfl) (zs_eq hmm25))))))
                              have r117 : (-2147483648) ≤ (m114 a0 69) ∧ (m114 a0 69) ≤ 2147483647 := zi_rd hIm114 hc0 zb_28_69
                              have e118 : (m114 a0 69) = a2 := (Eq.trans (zs_ne hmm114 (Or.inr (by decide))) (zs_eq hmm112))
                              have r119 : 0 ≤ (m114 216 1) ∧ (m114 216 1) ≤ 18 := zi_rdr (m := 2) (r0 := 1) (r1 := 1) hIm114 zq_216 (by omega) (by decide +kernel)
                              have e120 : (m114 216 1) = (m105 216 1) := (Eq.trans (zs_ne hmm114 (Or.inl (zc_ne zq_216 hc0 (by decide)))) (Eq.trans (zs_ne hmm112 (Or.inl (zc_ne zq_216 hc0 (by decide)))) (Eq.trans (zs_ne hmm110 (Or.inl (zc_ne zq_216 hc0 (by decide)))) (zs_ne hmm108 (Or.inl (zc_ne zq_216 hc0 (by decide)))))))
                              have hM : (4 - 0) * 1 + 0 < ((5 : Nat) : Int) := by omega
                              exact (zl_187k n (m0 := m0) hc0 5) 0 m114 hIm114 hFm114 hLm114 ⟨by omega, by omega⟩ ⟨by omega, by omega⟩ ⟨by omega, by omega⟩ ⟨by omega, by omega⟩ ⟨by omega, by omega⟩ ⟨by omega, by omega⟩ ⟨by omega, by omega⟩ hRKNm114 hRLTm114 hRS1m114 hRSEm114 hM
                            · exfalso; omega
                        · exfalso; omega
                      · exfalso; omega
                    · exfalso; omega
