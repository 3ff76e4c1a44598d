section ZTK
variable {p : Program} {e : Env} {s : State} {m : MethodId} {below : List Frame} {meth : Method} {c : Code} {l : Launch} {b : Nat} {xs : Nat → Int32}
theorem zt_vc {p0 p1 : xd_V} (h4 : (xs 0 &&& 63).toInt = 4) (h0 : xb p0 (xs 1).toInt) (h1 : xb p1 (xs 2).toInt) : ∀ (j : Nat) (v : xd_V), [(.inr (64, 4) : xd_V), p0, p1, xd_top, xd_top, xd_top][j]? = some v → xd_g v (.int (xs j)) := by
  intro j v hj
  match j, hj with
  | 0, hj =>
    cases Option.some.inj hj
    refine ⟨fun q => ?_, fun _ => h4⟩
    have q := (xd_le_iff _ _).mp q
    have q : (64 : Int) ≤ (4 : Int) := q
    omega
  | 1, hj => cases Option.some.inj hj; exact zt_g h0
  | 2, hj => cases Option.some.inj hj; exact zt_g h1
  | 3, hj => cases Option.some.inj hj; exact zt_g (zt_top (zt_in32 _))
  | 4, hj => cases Option.some.inj hj; exact zt_g (zt_top (zt_in32 _))
  | 5, hj => cases Option.some.inj hj; exact zt_g (zt_top (zt_in32 _))
  | n + 6, hj => simp at hj
theorem zt_cell0 (C0 : lw_At p s m meth c b 6 xs) (hname : meth.name = "law") (h4 : (xs 0 &&& 63).toInt = 4) {p0 p1 : xd_V} (h0 : xb p0 (xs 1).toInt) (h1 : xb p1 (xs 2).toInt) (hk : zt_k0 p0 p1 = true) : W p l e room_1 s m #[Value.ref b] below meth c s.heap [] 0 0 (lw_Z below #[Value.ref b] s) (entryFrame m ([Value.ref b] : List Value).toArray 7) := by
  have hk := Bool.and_eq_true_iff.mp hk
  have hk1 := Bool.and_eq_true_iff.mp hk.1
  exact zt_law_cell l C0 hname _ rfl (zt_vc h4 h0 h1) p0 p1 0 hk1.1 (fun hY hR => zt_h0 hY hk1.2 hR) hk.2
theorem zt_cell1 (hlt : l.stackTraces = false) (C0 : lw_At p s m meth c b 6 xs) (hname : meth.name = "law") (h4 : (xs 0 &&& 63).toInt = 4) {p0 p1 : xd_V} (h0 : xb p0 (xs 1).toInt) (h1 : xb p1 (xs 2).toInt) (hk : zt_k1 p0 p1 = true) : W p l e room_1 s m #[Value.ref b] below meth c s.heap [] 0 0 (lw_Z below #[Value.ref b] s) (entryFrame m ([Value.ref b] : List Value).toArray 7) := by
  have hk := Bool.and_eq_true_iff.mp hk
  have hk1 := Bool.and_eq_true_iff.mp hk.1
  have hk2 := Bool.and_eq_true_iff.mp hk1.2
  exact zt_law_cell l C0 hname _ rfl (zt_vc h4 h0 h1) p0 p1 1 hk1.1 (fun hY hR => zt_h1 hlt hY hk2.1 hk2.2 hR) hk.2
theorem zt_cell2 (hlt : l.stackTraces = false) (C0 : lw_At p s m meth c b 6 xs) (hname : meth.name = "law") (h4 : (xs 0 &&& 63).toInt = 4) {p0 p1 : xd_V} (h0 : xb p0 (xs 1).toInt) (h1 : xb p1 (xs 2).toInt) (hk : zt_k2 p0 p1 = true) : W p l e room_1 s m #[Value.ref b] below meth c s.heap [] 0 0 (lw_Z below #[Value.ref b] s) (entryFrame m ([Value.ref b] : List Value).toArray 7) := by
  have hk := Bool.and_eq_true_iff.mp hk
  have hk1 := Bool.and_eq_true_iff.mp hk.1
  have hk2 := Bool.and_eq_true_iff.mp hk1.2
  exact zt_law_cell l C0 hname _ rfl (zt_vc h4 h0 h1) p0 p1 2 hk1.1 (fun hY hR => zt_h2 hlt hY hk2.1 hk2.2 hR) hk.2
/-- A CALL OF CELL -/
theorem zt_cell (hlt : l.stackTraces = false) (C0 : lw_At p s m meth c b 6 xs) (hname : meth.name = "law") (h4 : (xs 0 &&& 63).toInt = 4) : W p l e room_1 s m #[Value.ref b] below meth c s.heap [] 0 0 (lw_Z below #[Value.ref b] s) (entryFrame m ([Value.ref b] : List Value).toArray 7) := by
  have i1 := zt_in32 (xs 1)
  have i2 := zt_in32 (xs 2)
  have m1 := i1.1
  have m2 := i1.2
  have m3 := i2.1
  have m4 := i2.2
  by_cases g1 : (xs 1).toInt ≤ -1
  · exact zt_cell1 hlt C0 hname h4 (p0 := .inr (-2147483648, -1)) (p1 := xd_top) ⟨by decide, m1, g1⟩ (zt_top i2) zt_bk1a
  · by_cases g2 : 30 ≤ (xs 1).toInt
    · exact zt_cell1 hlt C0 hname h4 (p0 := .inr (30, 2147483647)) (p1 := xd_top) ⟨by decide, g2, m2⟩ (zt_top i2) zt_bk1b
    · by_cases g3 : (xs 2).toInt ≤ -1
      · exact zt_cell2 hlt C0 hname h4 (p0 := .inr (0, 29)) (p1 := .inr (-2147483648, -1)) ⟨by decide, by show (0 : Int) ≤ _; omega, by show _ ≤ (29 : Int); omega⟩ ⟨by decide, m3, g3⟩ zt_bk2a
      · by_cases g4 : 4 ≤ (xs 2).toInt
        · exact zt_cell2 hlt C0 hname h4 (p0 := .inr (0, 29)) (p1 := .inr (4, 2147483647)) ⟨by decide, by show (0 : Int) ≤ _; omega, by show _ ≤ (29 : Int); omega⟩ ⟨by decide, g4, m4⟩ zt_bk2b
        · have hk := List.all_eq_true.mp (List.all_eq_true.mp zt_bk0 (xs 1).toInt.toNat (List.mem_range.mpr (by omega))) (xs 2).toInt.toNat (List.mem_range.mpr (by omega))
          exact zt_cell0 C0 hname h4 (p0 := .inl (Int.ofNat (xs 1).toInt.toNat)) (p1 := .inl (Int.ofNat (xs 2).toInt.toNat)) (show (xs 1).toInt = Int.ofNat (xs 1).toInt.toNat by rw [Int.ofNat_eq_natCast]; omega) (show (xs 2).toInt = Int.ofNat (xs 2).toInt.toNat by rw [Int.ofNat_eq_natCast]; omega) hk
end ZTK
