theorem zt_g {v : xd_V} {z : Int32} (h : xb v z.toInt) : xd_g v (.int z) := by
  cases v with
  | inl n => exact h
  | inr q =>
    obtain ⟨h1, h2, h3⟩ := h
    exact ⟨fun _ => ⟨h2, h3⟩, fun q9 => by rw [(xd_le_iff _ _).mpr h1] at q9; cases q9⟩
theorem zt_in32 (z : Int32) : zt_in z.toInt := by
  have h1 := z.le_toInt
  have h2 := z.toInt_lt
  exact ⟨by omega, by omega⟩
/-- the lowest six bits -/
theorem zt_63 (z : Int32) : ∃ k : Nat, k < 64 ∧ (z &&& 63).toInt = (k : Int) := by
  have h1 : (z &&& 63).toBitVec.toNat ≤ 63 := by
    show (z.toBitVec &&& (63 : Int32).toBitVec).toNat ≤ 63
    rw [BitVec.toNat_and]
    exact Nat.le_trans Nat.and_le_right (by decide)
  refine ⟨(z &&& 63).toBitVec.toNat, by omega, ?_⟩
  show (z &&& 63).toBitVec.toInt = _
  exact BitVec.toInt_eq_toNat_of_lt (by omega)
theorem zt_ops {x1 x2 x3 x4 x5 : Int} (h1 : zt_in x1) (h2 : zt_in x2) (h3 : zt_in x3) (h4 : zt_in x4) (h5 : zt_in x5) (k : Nat) (hk : k < 64) (h9 : ¬ k = 4) : zt_Ok k x1 x2 x3 x4 x5 := by
  match k, hk, h9 with
  | 0, _, _ => exact zt_cov0 h1 h2 h3 h4 h5
  | 1, _, _ => exact zt_cov1 h1 h2 h3 h4 h5
  | 2, _, _ => exact zt_cov2 h1 h2 h3 h4 h5
  | 3, _, _ => exact zt_cov3 h1 h2 h3 h4 h5
  | 4, _, h9 => exact absurd rfl h9
  | 5, _, _ => exact zt_cov5 h1 h2 h3 h4 h5
  | 6, _, _ => exact zt_cov6 h1 h2 h3 h4 h5
  | 7, _, _ => exact zt_cov7 h1 h2 h3 h4 h5
  | 8, _, _ => exact zt_cov8 h1 h2 h3 h4 h5
  | 9, _, _ => exact zt_cov9 h1 h2 h3 h4 h5
  | 10, _, _ => exact zt_cov10 h1 h2 h3 h4 h5
  | 11, _, _ => exact zt_cov11 h1 h2 h3 h4 h5
  | 12, _, _ => exact zt_cov12 h1 h2 h3 h4 h5
  | 13, _, _ => exact zt_cov13 h1 h2 h3 h4 h5
  | 14, _, _ => exact zt_cov14 h1 h2 h3 h4 h5
  | 15, _, _ => exact zt_cov15 h1 h2 h3 h4 h5
  | 16, _, _ => exact zt_cov16 h1 h2 h3 h4 h5
  | 17, _, _ => exact zt_cov17 h1 h2 h3 h4 h5
  | 18, _, _ => exact zt_cov18 h1 h2 h3 h4 h5
  | 19, _, _ => exact zt_cov19 h1 h2 h3 h4 h5
  | 20, _, _ => exact zt_cov20 h1 h2 h3 h4 h5
  | 21, _, _ => exact zt_cov21 h1 h2 h3 h4 h5
  | 22, _, _ => exact zt_cov22 h1 h2 h3 h4 h5
  | 23, _, _ => exact zt_cov23 h1 h2 h3 h4 h5
  | 24, _, _ => exact zt_cov24 h1 h2 h3 h4 h5
  | 25, _, _ => exact zt_cov25 h1 h2 h3 h4 h5
  | 26, _, _ => exact zt_cov26 h1 h2 h3 h4 h5
  | 27, _, _ => exact zt_cov27 h1 h2 h3 h4 h5
  | 28, _, _ => exact zt_cov28 h1 h2 h3 h4 h5
  | 29, _, _ => exact zt_cov29 h1 h2 h3 h4 h5
  | 30, _, _ => exact zt_cov30 h1 h2 h3 h4 h5
  | 31, _, _ => exact zt_cov31 h1 h2 h3 h4 h5
  | 32, _, _ => exact zt_cov32 h1 h2 h3 h4 h5
  | 33, _, _ => exact zt_cov33 h1 h2 h3 h4 h5
  | 34, _, _ => exact zt_cov34 h1 h2 h3 h4 h5
  | 35, _, _ => exact zt_cov35 h1 h2 h3 h4 h5
  | 36, _, _ => exact zt_cov36 h1 h2 h3 h4 h5
  | 37, _, _ => exact zt_cov37 h1 h2 h3 h4 h5
  | 38, _, _ => exact zt_cov38 h1 h2 h3 h4 h5
  | 39, _, _ => exact zt_cov39 h1 h2 h3 h4 h5
  | 40, _, _ => exact zt_cov40 h1 h2 h3 h4 h5
  | 41, _, _ => exact zt_cov41 h1 h2 h3 h4 h5
  | 42, _, _ => exact zt_cov42 h1 h2 h3 h4 h5
  | 43, _, _ => exact zt_cov43 h1 h2 h3 h4 h5
  | 44, _, _ => exact zt_cov44 h1 h2 h3 h4 h5
  | 45, _, _ => exact zt_cov45 h1 h2 h3 h4 h5
  | 46, _, _ => exact zt_cov46 h1 h2 h3 h4 h5
  | 47, _, _ => exact zt_cov47 h1 h2 h3 h4 h5
  | 48, _, _ => exact zt_cov48 h1 h2 h3 h4 h5
  | 49, _, _ => exact zt_cov49 h1 h2 h3 h4 h5
  | 50, _, _ => exact zt_cov50 h1 h2 h3 h4 h5
  | 51, _, _ => exact zt_cov51 h1 h2 h3 h4 h5
  | 52, _, _ => exact zt_cov52 h1 h2 h3 h4 h5
  | 53, _, _ => exact zt_cov53 h1 h2 h3 h4 h5
  | 54, _, _ => exact zt_cov54 h1 h2 h3 h4 h5
  | 55, _, _ => exact zt_cov55 h1 h2 h3 h4 h5
  | 56, _, _ => exact zt_cov56 h1 h2 h3 h4 h5
  | 57, _, _ => exact zt_cov57 h1 h2 h3 h4 h5
  | 58, _, _ => exact zt_cov58 h1 h2 h3 h4 h5
  | 59, _, _ => exact zt_cov59 h1 h2 h3 h4 h5
  | 60, _, _ => exact zt_cov60 h1 h2 h3 h4 h5
  | 61, _, _ => exact zt_cov61 h1 h2 h3 h4 h5
  | 62, _, _ => exact zt_cov62 h1 h2 h3 h4 h5
  | 63, _, _ => exact zt_cov63 h1 h2 h3 h4 h5
  | n + 64, hk, _ => omega
theorem zt_vals {xs : Nat → Int32} {k : Nat} (hk : k < 64) (h0 : (xs 0 &&& 63).toInt = (k : Int)) (h : zt_Ok k (xs 1).toInt (xs 2).toInt (xs 3).toInt (xs 4).toInt (xs 5).toInt) : ∃ (ks : List Nat) (vals : List xd_V), vals.length = 6 ∧ (∀ (j : Nat) (v : xd_V), vals[j]? = some v → xd_g v (.int (xs j))) ∧ zt_goK ks (3, vals.map Sum.inl) = true := by
  obtain ⟨ks, v1, v2, v3, v4, v5, hg, b1, b2, b3, b4, b5⟩ := h
  refine ⟨ks, [.inr (64, (k : Int)), v1, v2, v3, v4, v5], rfl, fun j v hj => ?_, hg⟩
  match j, hj with
  | 0, hj =>
    cases Option.some.inj hj
    refine ⟨fun q => ?_, fun _ => h0⟩
    have q := (xd_le_iff _ _).mp q
    have q : (64 : Int) ≤ (k : Int) := q
    omega
  | 1, hj => cases Option.some.inj hj; exact zt_g b1
  | 2, hj => cases Option.some.inj hj; exact zt_g b2
  | 3, hj => cases Option.some.inj hj; exact zt_g b3
  | 4, hj => cases Option.some.inj hj; exact zt_g b4
  | 5, hj => cases Option.some.inj hj; exact zt_g b5
  | n + 6, hj => simp at hj
/-- THE LAW, but for a call of cell -/
theorem zt_whole_open {p : Program} {e : Env} {s : State} {m : MethodId} {below : List Frame} {meth : Method} {c : Code} (l : Launch) {b L : Nat} {xs : Nat → Int32} (hL : L ≤ 6) (C0 : lw_At p s m meth c b L xs) (hname : meth.name = "law")
    (hcell : L = 6 → (xs 0 &&& 63).toInt = 4 → W p l e room_1 s m #[Value.ref b] below meth c s.heap [] 0 0 (lw_Z below #[Value.ref b] s) (entryFrame m ([Value.ref b] : List Value).toArray 7)) :
    W p l e room_1 s m #[Value.ref b] below meth c s.heap [] 0 0 (lw_Z below #[Value.ref b] s) (entryFrame m ([Value.ref b] : List Value).toArray 7) := by
  by_cases h6 : L = 6
  · obtain ⟨k, hk, h0⟩ := zt_63 (xs 0)
    by_cases h4 : k = 4
    · exact hcell h6 (by rw [h0, h4]; rfl)
    · obtain ⟨ks, vals, v1, v2, v3⟩ := zt_vals hk h0 (zt_ops (zt_in32 _) (zt_in32 _) (zt_in32 _) (zt_in32 _) (zt_in32 _) k hk h4)
      exact zt_law_run l C0 hname vals (by rw [v1, h6]) v2 ks v3
  · have hl := List.all_eq_true.mp zt_len L (List.mem_range.mpr (by omega))
    refine zt_law_run l C0 hname (List.replicate L xd_top) (by simp) (fun j v hj => ?_) [] (zt_K hl)
    have hv := List.eq_of_mem_replicate (List.mem_of_getElem? hj)
    rw [hv]
    exact xd_gtop _
