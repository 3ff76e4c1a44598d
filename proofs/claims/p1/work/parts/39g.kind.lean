def zt_ks : List Nat := [2, 3, 4, 5, 6, 7, 8, 9, 10, 11, 12, 13, 14, 15, 16, 17, 18, 19, 20, 21, 22, 23, 24, 25, 26, 27, 28, 29, 30, 31, 32, 33, 34, 35, 36, 37, 38, 39, 40, 41, 42, 43, 44, 45, 46, 47, 48, 49, 50, 51, 52, 53, 54, 55, 56, 57, 58, 59, 60, 61, 62, 63, 64, 65, 66, 67, 68, 69, 70, 71, 72, 73, 74, 75, 76, 77, 78, 79, 80, 81, 82, 83, 84, 85, 86, 87, 88, 89, 90, 91, 92, 93, 94, 95, 96, 97, 98, 99, 100, 101, 102, 103, 104, 105, 106, 107, 108, 109, 110, 111, 112, 113, 114, 115, 116, 117, 118, 119, 120, 121, 122, 123, 124, 125, 126, 127, 128, 129, 130, 131, 132, 133, 134, 135, 136, 137, 138, 139, 140, 141, 142, 143, 144, 145, 146, 147, 148, 149, 150, 151, 152, 153, 154, 155, 156, 157, 158, 159, 160, 161, 162, 163, 164, 165, 166, 167, 168, 169, 170, 171, 172, 173, 174, 175, 176, 177, 178, 179, 180, 181, 182, 183, 184, 185, 186, 187, 188]
set_option maxRecDepth 100000 in
theorem zt_b20A : zt_goA zt_ks (zt_bx [.inr (64, 20), .inr (1, 200), xd_top, xd_top, xd_top, xd_top]) = true := by decide +kernel
set_option maxRecDepth 100000 in
theorem zt_b20B : zt_goB zt_ks (zt_bx [.inr (64, 20), .inr (1, 200), xd_top, xd_top, xd_top, xd_top]) = true := by decide +kernel
theorem zt_goK2 {ks : List Nat} {o : xv_O xd_V} (hA : zt_goA ks o = true) (hB : zt_goB ks o = true) (h : Nat.ble 1 ks.length = true) : zt_goK ks o = true := by
  cases ks with
  | nil => cases h
  | cons a ks => exact Bool.and_eq_true_iff.mpr ⟨hA, hB⟩
set_option maxRecDepth 100000 in
theorem zt_ks_len : Nat.ble 1 zt_ks.length = true := by decide +kernel
theorem zt_b20__0c1 : zt_goK zt_ks (zt_bx [.inr (64, 20), .inr (1, 200), xd_top, xd_top, xd_top, xd_top]) = true := zt_goK2 zt_b20A zt_b20B zt_ks_len
