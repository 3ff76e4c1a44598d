/-! what a CELL is liked, by the class, is the reference's hideOf -/
/-- the laws in force, class's against the reference's -/
def zNW (m t : zu_m) (L : Int) : Prop := (m 57 L < 0 ↔ t 205 L = 0) ∧ (0 ≤ m 57 L → t 206 L = m 57 L ∧ t 207 L = m 58 L ∧ m 57 L < m 58 L ∧ m 58 L ≤ 64 ∧ (∀ i : Nat, m 57 L + (i : Int) < m 58 L → zkn1 (zstk (fun q => t 208 q) (m 57 L) i) (m 55 (m 57 L + (i : Int))) (m 56 (m 57 L + (i : Int))) (t 208 (m 57 L + (i : Int))) (t 209 (m 57 L + (i : Int))) (t 210 (m 57 L + (i : Int)))) ∧ zstk (fun q => t 208 q) (m 57 L) (m 58 L - m 57 L).toNat = [m 58 L - 1])
def zNG (m t : zu_m) : Prop := m 50 2 ≤ 48 ∧ 1 ≤ t 190 12 ∧ ∀ c, 0 ≤ c → c < m 50 2 → m 53 c = t 195 c ∧ 0 ≤ t 195 c ∧ t 195 c ≤ 3 ∧ m 52 c = Int.tdiv c (t 190 12) ∧ 0 ≤ m 52 c ∧ m 52 c ≤ 48
theorem zv_26 (n : Nat) {L : Int} {m t : zu_m} (hI : zi_I m) (hK54 : zR_K54 m) (l0 : 0 ≤ L ∧ L < 4) (hN : zNW m t L) (V0 : Int → Int) (hnm : ∀ p, 0 ≤ p → p < 7 → zvin (m 62 p)) : zl (zu_call (zt_T n) 26 [(10, 54), (0, L), (15, 62)] m) (fun v _ => (v = -9223372036854775808 ∧ ∀ d most, zvO t (fun p => m 62 p) V0 L d most = d) ∨ (zvin v ∧ ∀ d most, zvO t (fun p => m 62 p) V0 L d most = zvcl most v)) := by
  obtain ⟨n1, n2⟩ := hN
  refine zl_eq (zu_call_at (zt_T n) (zm_26 n) (zdp_26 n) _ _ _ _ _ rfl (zr_26_0 n _ _ 54 L 62 m)) ?_
  rw [if_pos l0]
  refine zl_ite (fun h0 => ?_) (fun h0 => ?_)
  · have h0 : 0 ≤ m 57 L := h0
    obtain ⟨p1, p2, p3, p4, p5, p6⟩ := n2 h0
    have h5 : t 205 L ≠ 0 := fun q => by
      have := n1.mpr q
      omega
    rw [if_pos l0]
    have hbn : ∀ i, zvin (m (54 + 2) i) := fun i => by
      have b := zi_rd hI zq_56 (zb_53 i)
      exact ⟨Int.le_trans (by decide) b.1, Int.le_trans b.2 (by decide)⟩
    have hz := zv_26L n (L := L) (f := m 57 L) (e := m 58 L) (K := fun q => t 208 q) (A := fun q => t 209 q) (B := fun q => t 210 q) (nm := fun p => m 62 p) (V0 := V0) l0 h0 p4 (m 58 L - m 57 L).toNat (by omega) (m0 := m) rfl p6 p5 (fun p q1 q2 => ⟨rfl, hnm p q1 q2⟩) hbn hK54 (m 58 L - m 57 L).toNat 0 m V0 (Nat.zero_add _) (zfr_rf _ _) rfl trivial
    rw [show m 57 L + ((0 : Nat) : Int) = m 57 L by omega] at hz
    refine zl_mono (zl_of hz) (fun v _ h => ?_)
    rcases h with ⟨h1, h2⟩ | ⟨h1, V, h2, h3⟩
    · refine Or.inl ⟨h1, fun d most => zvO_none (fun _ => ?_)⟩
      rw [p1, p2]
      exact h2
    · refine Or.inr ⟨h1, fun d most => ?_⟩
      rw [zvO_some (V := V) h5 (by rw [p1, p2]; exact h2), p2, h3]
  · have h0 : ¬ 0 ≤ m 57 L := h0
    have h5 : t 205 L = 0 := n1.mp (Int.not_le.mp h0)
    exact zl_some (Or.inl ⟨rfl, fun d most => if_pos h5⟩)
theorem zv_24 (n : Nat) {c : Int} {m t : zu_m} (hI : zi_I m) (hK54 : zR_K54 m) (c0 : 0 ≤ c) (c1 : c < m 50 2) (hN : zNW m t 1) (hG : zNG m t) (V0 : Int → Int) : zl (zu_call (zt_T n) 24 [(8, 50), (0, c)] m) (fun v _ => (v = -9223372036854775808 ∧ ∀ d most, zvO t (znH t c) V0 1 d most = d) ∨ (zvin v ∧ ∀ d most, zvO t (znH t c) V0 1 d most = zvcl most v)) := by
  obtain ⟨g1, g2, g3⟩ := hG
  obtain ⟨k1, k2, k3, k4, k5, k6⟩ := g3 c c0 c1
  refine zl_eq (zu_call_at (zt_T n) (zm_24 n) (zdp_24 n) _ _ _ _ _ rfl (zr_24_0 n _ _ 50 c m)) ?_
  have h25 : zl (zu_call (zt_T n) 25 [(8, 50), (0, c), (0, 0), (0, 0)] m) (fun _ m' => ∀ p, 0 ≤ p → p < 7 → m' 62 p = znH t c p) := by
    refine zl_eq (zu_call_at (zt_T n) (zm_25 n) (zdp_25 n) _ _ _ _ _ rfl (zr_25_0 n _ _ 50 c 0 0 m)) ?_
    refine zl_if (fun _ => zl_if (fun _ => zl_if (fun _ => zl_if (fun _ => zl_if (fun _ => zl_if (fun _ => zl_if (fun _ => zl_if (fun _ => zl_if (fun _ => zl_some ?_)))))))))
    intro p p0 p1
    have hp : p = 0 ∨ p = 1 ∨ p = 2 ∨ p = 3 ∨ p = 4 ∨ p = 5 ∨ p = 6 := by omega
    rcases hp with rfl | rfl | rfl | rfl | rfl | rfl | rfl <;> simp [zu_up_app, znH, k1, k4]
  refine zl_bd (zl_mono (zl_both (zl_of (zk_25 n hI zq_50 ⟨c0, by omega⟩ ⟨by decide, by decide⟩ ⟨by decide, by decide⟩)) h25) (fun _ m1 hs => ?_))
  obtain ⟨⟨I1, F1, -⟩, hn⟩ := hs
  have hin : ∀ p, 0 ≤ p → p < 7 → zvin (m1 62 p) := fun p p0 p1 => by
    rw [hn p p0 p1]
    unfold znH zvin
    split
    · omega
    · split
      · rw [← k4]; omega
      · decide
  have hN1 : zNW m1 t 1 := by
    unfold zNW
    rw [show m1 57 1 = m 57 1 from zfr_ap F1 zq_57 rfl, show m1 58 1 = m 58 1 from zfr_ap F1 zq_58 rfl, funext (fun q => zfr_ap F1 zq_55 rfl : ∀ q, m1 55 q = m 55 q), funext (fun q => zfr_ap F1 zq_56 rfl : ∀ q, m1 56 q = m 56 q)]
    exact hN
  have h26 := zv_26 n (t := t) I1 (zR_K54_fr (zdis_fr F1 rfl) hK54) (L := 1) (by decide) hN1 V0 hin
  refine zl_bd (zl_mono h26 (fun v m2 hs => zl_some ?_))
  rcases hs with ⟨h1, h2⟩ | ⟨h1, h2⟩
  · exact Or.inl ⟨h1, fun d most => (zvO_cg (fun p p0 p1 => (hn p p0 p1).symm)).trans (h2 d most)⟩
  · exact Or.inr ⟨h1, fun d most => (zvO_cg (fun p p0 p1 => (hn p p0 p1).symm)).trans (h2 d most)⟩
theorem zvcl_mm (v : Int) : zu_max 0 (zu_min 999 v) = zvcl 999 v := by
  unfold zu_max zu_min zvcl
  repeat' split
  all_goals omega
/-- what a CELL is liked -/
def zLK (m t : zu_m) : Prop := ∀ c, 0 ≤ c → c < m 50 2 → ∀ V0, m 60 c = zvO t (znH t c) V0 1 (1 + t 195 c) 999
theorem zz_23 (n : Nat) {m t : zu_m} (hI : zi_I m) (hK54 : zR_K54 m) (hN : zNW m t 1) (hG : zNG m t) : zl (zu_call (zt_T n) 23 [(8, 50), (27, 63)] m) (fun _ m' => zLK m' t) := by
  have h := zk_23v n hI zq_50 zq_63 (fun c x => ∀ V0, x = zvO t (znH t c) V0 1 (1 + t 195 c) 999) (fun c mh I F c0 c1 => ?_) hK54
  · refine zl_mono (zl_of h) (fun _ m' hs => ?_)
    obtain ⟨-, F, -, hR⟩ := hs
    intro c c0 c1
    rw [show m' 50 2 = m 50 2 from zfr_ap F zq_50 rfl] at c1
    exact hR c c0 c1
  · have hNh : zNW mh t 1 := by
      unfold zNW
      rw [show mh 57 1 = m 57 1 from zfr_ap F zq_57 rfl, show mh 58 1 = m 58 1 from zfr_ap F zq_58 rfl, funext (fun q => zfr_ap F zq_55 rfl : ∀ q, mh 55 q = m 55 q), funext (fun q => zfr_ap F zq_56 rfl : ∀ q, mh 56 q = m 56 q)]
      exact hN
    have e2 : mh 50 2 = m 50 2 := zfr_ap F zq_50 rfl
    have hGh : zNG mh t := by
      unfold zNG
      rw [e2, funext (fun q => zfr_ap F zq_52 rfl : ∀ q, mh 52 q = m 52 q), funext (fun q => zfr_ap F zq_53 rfl : ∀ q, mh 53 q = m 53 q)]
      exact hG
    intro v m' e
    have hv := fun V0 => zv_24 n I (zR_K54_fr (zdis_fr F rfl) hK54) c0 (by rw [e2]; exact c1) hNh hGh V0 v m' e
    have k1 : m (50 + 3) c = t 195 c := (hG.2.2 c c0 c1).1
    refine ⟨fun h V0 => ?_, fun h V0 => ?_⟩
    · rcases hv V0 with ⟨h1, -⟩ | ⟨-, h2⟩
      · exact absurd (zlc_eq.mpr h1) h
      · rw [zvcl_mm, h2]
    · rcases hv V0 with ⟨-, h2⟩ | ⟨h1, -⟩
      · rw [k1, h2]
      · exfalso
        have hv' : v = -9223372036854775808 := zlc_eq.mp (Decidable.not_not.mp h)
        rw [hv'] at h1
        exact absurd h1.1 (by decide)
