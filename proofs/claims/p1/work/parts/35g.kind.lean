/-- cells are forgotten -/
noncomputable def xf_fg {β : Type} (ks : List Nat) : xf_T xd_V → (xf_T xd_V → Option β) → Option β :=
  List.rec (motive := fun _ => xf_T xd_V → (xf_T xd_V → Option β) → Option β) (fun T k => k T) (fun a _ ih T k => xf_cell T a (fun _ => xf_upd T a (7, []) (fun T => ih T k))) ks
theorem xr_m_forget {C : Nat → xv_O xd_V → Prop} {g : xd_V → Value → Prop} {φ : List Nat} {tys : List (ClassId × FieldType)} {M : xv_M xd_V} {ws : va_W} {k : Nat} (hm : xr_m C g φ tys M ws) : xr_m C g φ tys (M.set k (7, [])) ws := by
  obtain ⟨pre, h1, h2, h4, h5⟩ := hm
  refine ⟨pre, h1, by rw [List.length_set]; exact h2, fun j u hj h7 h33 => ?_, fun j u hj h33 => ?_⟩
  · rcases xr_set hj with ⟨rfl, rfl⟩ | ⟨hne, hj⟩
    · exact absurd rfl h7
    · exact h4 j u hj h7 h33
  · rcases xr_set hj with ⟨rfl, rfl⟩ | ⟨hne, hj⟩
    · cases h33
    · exact h5 j u hj h33
theorem xf_fg_ok {β : Type} {C : Nat → xv_O xd_V → Prop} {g : xd_V → Value → Prop} {φ : List Nat} {tys : List (ClassId × FieldType)} {ws : va_W} {n : Nat} : ∀ (ks : List Nat) (T : xf_T xd_V) (M : xv_M xd_V) (k : xf_T xd_V → Option β) (r : β), xf_fg ks T k = some r → xf_R n T M → xr_m C g φ tys M ws → ∃ T' M', k T' = some r ∧ xf_R n T' M' ∧ xr_m C g φ tys M' ws
  | [], T, M, k, r, h, hR, hm => ⟨T, M, h, hR, hm⟩
  | a :: ks, T, M, k, r, h, hR, hm => by
    obtain ⟨o, ho, h⟩ := xf_cell_ok (show xf_cell T a (fun _ => xf_upd T a (7, []) (fun T => xf_fg ks T k)) = some r from h)
    obtain ⟨T1, h1, hT⟩ := xf_upd_ok h
    rw [hR.2] at ho
    exact xf_fg_ok ks T1 _ k r h1 (hR.set ho hT) (xr_m_forget hm)
/-- the law's run with some cells forgotten -/
noncomputable def zt_goK (ks : List Nat) (o : xv_O xd_V) : Bool := match xf_fg ks (zt_T1 o) (fun T => xf_lp zt_flaw.2 (zt_rn 6) 20000 (xf_to zt_flaw.2 23) zt_L1 [] 233 T 231 6999) with
  | some (.inl (some (.inl (.inl z)), _, _)) => xd_eqx z 1
  | _ => false
def zt_ks : List Nat := [3, 4, 5, 6, 7, 8, 9, 10, 11, 12, 13, 14, 15, 16, 17, 18, 19, 20, 21, 22, 23, 24, 25, 26, 27, 28, 29, 30, 31, 32, 33, 34, 35, 36, 37, 38, 39, 40, 41, 42, 43, 44, 45, 46, 47, 48, 49, 50, 51, 52, 53, 54, 55, 56, 57, 58, 59, 60, 61, 62, 63, 64, 65, 66, 67, 68, 69, 70, 71, 72, 73, 74, 75, 76, 77, 78, 79, 80, 81, 82, 83, 84, 85, 86, 87, 89, 90, 93, 94, 95, 96, 97, 98, 99, 100, 101, 102, 103, 104, 105, 106, 107, 108, 109, 110, 111, 112, 113, 114, 115, 116, 117, 118, 119, 120, 121, 122, 123, 124, 125, 126, 127, 128, 129, 130, 131, 132, 133, 134, 135, 136, 137, 138, 139, 140, 141, 142, 143, 144, 145, 146, 147, 148, 149, 150, 151, 153, 154, 155, 156, 157, 158, 159, 161, 162, 164, 165, 168, 169, 170, 171, 172, 173, 174, 175, 176, 177, 178, 179, 180, 181, 182, 183, 184, 185, 186, 187, 188, 190, 191, 192, 194, 195, 196, 197, 198, 199, 200, 201, 202, 203, 204, 205, 206, 207, 208, 209, 210, 211, 212, 213, 218, 221, 222, 223, 224, 225, 226, 227, 228, 229, 230, 231]
set_option maxRecDepth 100000 in
theorem zt_b20__0c1 : zt_goK zt_ks (zt_bx [.inr (64, 20), .inr (1, 200), xd_top, xd_top, xd_top, xd_top]) = true := sorry
