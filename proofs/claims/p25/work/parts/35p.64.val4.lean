/-! the class's Laws.valueOf works out the pure value: its loop -/
def zsv (h V : Int → Int) : List Int → Prop
  | [] => True
  | x :: l => h (l.length : Int) = V x ∧ zvin (V x) ∧ zsv h V l
theorem zsv_cg {h g V U : Int → Int} : ∀ l : List Int, (∀ x, x ∈ l → U x = V x) → (∀ i : Nat, i < l.length → g (i : Int) = h (i : Int)) → zsv h V l → zsv g U l := by
  intro l
  induction l with
  | nil => intro _ _ _; trivial
  | cons x l ih =>
    intro e1 e2 hs
    obtain ⟨h1, h2, h3⟩ := hs
    have ex : U x = V x := e1 x List.mem_cons_self
    exact ⟨(e2 l.length (by show l.length < l.length + 1; omega)).trans (h1.trans ex.symm), by rw [ex]; exact h2, ih (fun y hy => e1 y (List.mem_cons_of_mem _ hy)) (fun i hi => e2 i (by show i < l.length + 1; omega)) h3⟩
theorem zstk_p {kn : Int → Int} {f : Int} {k : Nat} (h : kn (f + (k : Int)) = 0 ∨ kn (f + (k : Int)) = 1) : zstk kn f (k + 1) = (f + (k : Int)) :: zstk kn f k := if_pos h
theorem zstk_n {kn : Int → Int} {f : Int} {k : Nat} (h : kn (f + (k : Int)) = 2) : zstk kn f (k + 1) = (f + (k : Int)) :: (zstk kn f k).tail := (if_neg (show ¬ (kn (f + (k : Int)) = 0 ∨ kn (f + (k : Int)) = 1) by omega)).trans (if_pos h)
theorem zstk_o {kn : Int → Int} {f : Int} {k : Nat} (h : 3 ≤ kn (f + (k : Int))) : zstk kn f (k + 1) = (f + (k : Int)) :: (zstk kn f k).tail.tail := (if_neg (show ¬ (kn (f + (k : Int)) = 0 ∨ kn (f + (k : Int)) = 1) by omega)).trans (if_neg (show ¬ kn (f + (k : Int)) = 2 by omega))
theorem zstk_lt {kn : Int → Int} {f : Int} : ∀ k : Nat, ∀ x, x ∈ zstk kn f k → x < f + (k : Int) := by
  intro k
  induction k with
  | zero => intro x hx; cases hx
  | succ k ih =>
    intro x hx
    have key : ∀ l : List Int, (∀ y, y ∈ l → y < f + (k : Int)) → x ∈ (f + (k : Int)) :: l → x < f + ((k + 1 : Nat) : Int) := fun l hl hm => by
      rcases List.mem_cons.mp hm with rfl | hm
      · omega
      · have := hl x hm
        omega
    have hx : x ∈ (if kn (f + (k : Int)) = 0 ∨ kn (f + (k : Int)) = 1 then (f + (k : Int)) :: zstk kn f k else if kn (f + (k : Int)) = 2 then (f + (k : Int)) :: (zstk kn f k).tail else (f + (k : Int)) :: (zstk kn f k).tail.tail) := hx
    split at hx
    · exact key _ ih hx
    · split at hx
      · exact key _ (fun y hy => ih y (List.mem_of_mem_tail hy)) hx
      · exact key _ (fun y hy => ih y (List.mem_of_mem_tail (List.mem_of_mem_tail hy))) hx
theorem zstk_ln {kn : Int → Int} {f : Int} : ∀ k : Nat, (zstk kn f k).length ≤ k := by
  intro k
  induction k with
  | zero => exact Nat.le_refl 0
  | succ k ih =>
    show (if kn (f + (k : Int)) = 0 ∨ kn (f + (k : Int)) = 1 then (f + (k : Int)) :: zstk kn f k else if kn (f + (k : Int)) = 2 then (f + (k : Int)) :: (zstk kn f k).tail else (f + (k : Int)) :: (zstk kn f k).tail.tail).length ≤ k + 1
    split
    · rw [List.length_cons]; omega
    · split
      · rw [List.length_cons, List.length_tail]; omega
      · rw [List.length_cons, List.length_tail, List.length_tail]; omega
theorem zvl_s {K A B nm V0 V : Int → Int} {f x : Int} {k : Nat} (h : zvl K A B nm V0 f k = some V) (hx : zvkn nm V (K (f + (k : Int))) (A (f + (k : Int))) (B (f + (k : Int))) = some x) : zvl K A B nm V0 f (k + 1) = some (fun j => if j = f + (k : Int) then x else V j) := by
  show (zvl K A B nm V0 f k).bind _ = _
  rw [h]
  show Option.map _ (zvkn _ _ _ _ _) = _
  rw [hx]
  rfl
theorem zvl_n {K A B nm V0 V : Int → Int} {f : Int} {k : Nat} (h : zvl K A B nm V0 f k = some V) (hx : zvkn nm V (K (f + (k : Int))) (A (f + (k : Int))) (B (f + (k : Int))) = none) : zvl K A B nm V0 f (k + 1) = none := by
  show (zvl K A B nm V0 f k).bind _ = _
  rw [h]
  show Option.map _ (zvkn _ _ _ _ _) = _
  rw [hx]
  rfl
theorem zvl_z {K A B nm V0 : Int → Int} {f : Int} {k : Nat} (h : zvl K A B nm V0 f k = none) : ∀ g : Nat, zvl K A B nm V0 f (k + g) = none := by
  intro g
  induction g with
  | zero => exact h
  | succ g ih =>
    show (zvl K A B nm V0 f (k + g)).bind _ = none
    rw [ih]
    rfl
/-- what the class's valueOf answers -/
def zvA (K A B nm V0 : Int → Int) (f e : Int) (N : Nat) (v : Int) : Prop := (v = -9223372036854775808 ∧ zvl K A B nm V0 f N = none) ∨ (zvin v ∧ ∃ V, zvl K A B nm V0 f N = some V ∧ v = V (e - 1))
theorem zW24 {a b : Int} {k : Nat} (h : a + (k : Int) + 1 = b) : a + ((k + 1 : Nat) : Int) = b := by omega
theorem zv_26L (n : Nat) {L f e : Int} {K A B nm V0 : Int → Int} (l0 : 0 ≤ L ∧ L < 4) (f0 : 0 ≤ f) (e1 : e ≤ 64) (N : Nat) (hN : f + (N : Int) = e) {m0 : zu_m} (h58 : m0 (54 + 4) L = e) (hst : zstk K f N = [e - 1]) (hkn : ∀ i : Nat, f + (i : Int) < e → zkn1 (zstk K f i) (m0 (54 + 1) (f + (i : Int))) (m0 (54 + 2) (f + (i : Int))) (K (f + (i : Int))) (A (f + (i : Int))) (B (f + (i : Int)))) (hnm : ∀ p, 0 ≤ p → p < 7 → m0 62 p = nm p ∧ zvin (nm p)) (hnu : ∀ i, zvin (m0 (54 + 2) i)) (hK54 : zR_K54 m0) : ∀ (g k : Nat) (m : zu_m) (V : Int → Int), k + g = N → zfr [(56, 0)] m0 m → zvl K A B nm V0 f k = some V → zsv (fun i => m (54 + 5) i) V (zstk K f k) → zw (zu_ex (zt_T n) 26 23 [(10, 54), (0, L), (15, 62), (0, ((zstk K f k).length : Int)), (0, f + (k : Int)), (2, 0), (2, 0)] [] m) (fun v m' => zvA K A B nm V0 f e N v) := by
  have hc1 : ∀ {m}, zfr [(56, 0)] m0 m → ∀ p, m (54 + 1) p = m0 (54 + 1) p := fun F p => zfr_ap F zq_55 rfl
  have hc2 : ∀ {m}, zfr [(56, 0)] m0 m → ∀ p, m (54 + 2) p = m0 (54 + 2) p := fun F p => zfr_ap F zq_56 rfl
  have hc4 : ∀ {m}, zfr [(56, 0)] m0 m → ∀ p, m (54 + 4) p = m0 (54 + 4) p := fun F p => zfr_ap F zq_58 rfl
  have hc62 : ∀ {m}, zfr [(56, 0)] m0 m → ∀ p, m 62 p = m0 62 p := fun F p => zfr_ap F zq_62 rfl
  intro g
  induction g with
  | zero =>
    intro k m V hk F hv hs
    have hk : k = N := hk
    subst hk
    refine zw_eq (zu_rega_at (zt_T n) (zm_26 n) (zdp_26 n) _ _ _ _ _ _ (zr_26_23 n _ _ 54 L 62 _ _ m)) ?_
    rw [if_pos l0, hc4 F, h58, if_pos (show e ≤ f + (k : Int) by omega), hst]
    rw [hst] at hs
    rw [if_neg (show ¬ (([e - 1] : List Int).length : Int) ≠ 1 from fun q => q rfl), if_pos (show 0 ≤ (0 : Int) ∧ (0 : Int) < 64 by decide)]
    obtain ⟨s1, s2, -⟩ := hs
    have s1 : m (54 + 5) 0 = V (e - 1) := s1
    exact zw_some (Or.inr ⟨by rw [s1]; exact s2, V, hv, s1⟩)
  | succ g ih =>
    intro k m V hk F hv hs
    have hlt : f + (k : Int) < e := by omega
    have hz := hkn k hlt
    have hln := zstk_ln (kn := K) (f := f) k
    have hlt2 := zstk_lt (kn := K) (f := f) k
    have key : ∀ (m2 : zu_m) (x : Int) (l : List Int), zfr [(56, 0)] m0 m2 → zstk K f (k + 1) = (f + (k : Int)) :: l → zvkn nm V (K (f + (k : Int))) (A (f + (k : Int))) (B (f + (k : Int))) = some x → zvin x → (∀ y, y ∈ l → y < f + (k : Int)) → m2 (54 + 5) (l.length : Int) = x → zsv (fun i => m2 (54 + 5) i) V l → ∀ top : Int, top = (l.length : Int) + 1 → zw (zu_ex (zt_T n) 26 274 [(10, 54), (0, L), (15, 62), (0, top), (0, f + (k : Int)), (2, 0), (2, 0)] [] m2) (fun v m' => zvA K A B nm V0 f e N v) := by
      intro m2 x l F2 hst1 hkv hxi hyl hmx hsl top htop
      refine zw_eq (zu_rega_at (zt_T n) (zm_26 n) (zdp_26 n) _ _ _ _ _ _ (zr_26_274 n _ _ 54 L 62 _ _ m2)) ?_
      rw [zu_w32_id (z := f + (k : Int) + 1) (by omega) (by omega), show f + (k : Int) + 1 = f + ((k + 1 : Nat) : Int) by omega, htop]
      have hl : (l.length : Int) + 1 = ((zstk K f (k + 1)).length : Int) := by rw [hst1]; rfl
      rw [hl]
      refine ih (k + 1) m2 _ (by omega) F2 (zvl_s hv hkv) ?_
      rw [hst1]
      refine ⟨?_, ?_, zsv_cg l (fun y hy => ?_) (fun i _ => rfl) hsl⟩
      · show m2 (54 + 5) (l.length : Int) = if f + (k : Int) = f + (k : Int) then x else V (f + (k : Int))
        rw [if_pos rfl]
        exact hmx
      · show zvin (if f + (k : Int) = f + (k : Int) then x else V (f + (k : Int)))
        rw [if_pos rfl]
        exact hxi
      · show (if y = f + (k : Int) then x else V y) = V y
        exact if_neg (by have := hyl y hy; omega)
    refine zw_eq (zu_rega_at (zt_T n) (zm_26 n) (zdp_26 n) _ _ _ _ _ _ (zr_26_23 n _ _ 54 L 62 _ _ m)) ?_
    have hx4 : 0 ≤ f + (k : Int) ∧ f + (k : Int) < 64 := by omega
    rw [if_pos l0, hc4 F, h58, if_neg (show ¬ e ≤ f + (k : Int) by omega), if_neg (show ¬ (64 : Int) ≤ f + (k : Int) by omega), if_pos hx4, hc1 F, hc2 F]
    generalize hcq : m0 (54 + 1) (f + (k : Int)) = c at hz ⊢
    generalize hxq : m0 (54 + 2) (f + (k : Int)) = x at hz ⊢
    have hxi : zvin x := by rw [← hxq]; exact hnu _
    rcases hz with ⟨rfl, r0, ax⟩ | ⟨rfl, r1, ax⟩ | ⟨rfl, r2, l, hl⟩ | ⟨ho, r3, l, hl⟩
    · rw [if_neg (show ¬ (16 : Int) ≠ 16 from fun q => q rfl), if_pos hx4, if_pos (show 0 ≤ ((zstk K f k).length : Int) ∧ ((zstk K f k).length : Int) < 64 by omega), zu_w32_id (z := ((zstk K f k).length : Int) + 1) (by omega) (by omega)]
      refine key _ x (zstk K f k) (zfr_up rfl F zq_59 rfl) (zstk_p (Or.inl r0)) ?_ hxi hlt2 zu_up_eq (zsv_cg _ (fun _ _ => rfl) (fun i hi => zu_up_ne (Or.inr (by omega))) hs) _ rfl
      rw [r0, ax]
      rfl
    · have hb := hK54 54 (f + (k : Int)) (by decide +kernel) hx4.1 hx4.2 hcq
      rw [show m0 (54 + 2) (f + (k : Int)) = x from hxq] at hb
      obtain ⟨n1, n2⟩ := hnm x hb.1 (by omega)
      rw [if_pos (show (17 : Int) ≠ 16 by decide), if_pos hx4, if_neg (show ¬ (17 : Int) ≠ 17 from fun q => q rfl), if_pos hx4, if_pos (show 0 ≤ x ∧ x < 7 by omega), if_pos (show 0 ≤ ((zstk K f k).length : Int) ∧ ((zstk K f k).length : Int) < 64 by omega), zu_w32_id (z := ((zstk K f k).length : Int) + 1) (by omega) (by omega), hc62 F, n1]
      refine key _ (nm x) (zstk K f k) (zfr_up rfl F zq_59 rfl) (zstk_p (Or.inr r1)) ?_ n2 hlt2 zu_up_eq (zsv_cg _ (fun _ _ => rfl) (fun i hi => zu_up_ne (Or.inr (by omega))) hs) _ rfl
      rw [r1, ax]
      show some (if 0 ≤ x ∧ x < 7 then nm x else 0) = some (nm x)
      rw [if_pos (show 0 ≤ x ∧ x < 7 by omega)]
    · generalize A (f + (k : Int)) = a at hl key ⊢
      generalize B (f + (k : Int)) = b at key ⊢
      rw [hl] at hs hln hlt2
      rw [hl]
      have lc : (((a :: l).length : Nat) : Int) = (l.length : Int) + 1 := rfl
      have lb : l.length + 1 ≤ k := hln
      obtain ⟨s1, s2, s3⟩ := hs
      have s1 : m (54 + 5) (l.length : Int) = V a := s1
      rw [lc, if_pos (show (15 : Int) ≠ 16 by decide), if_pos hx4, if_pos (show (15 : Int) ≠ 17 by decide), if_pos hx4, if_neg (show ¬ (15 : Int) ≠ 15 from fun q => q rfl), if_pos (show 1 ≤ (l.length : Int) + 1 by omega), zu_w32_id (z := (l.length : Int) + 1 - 1) (by omega) (by omega), show (l.length : Int) + 1 - 1 = (l.length : Int) by omega, if_pos (show 0 ≤ (l.length : Int) ∧ (l.length : Int) < 64 by omega), s1]
      have hst1 : zstk K f (k + 1) = (f + (k : Int)) :: l := by rw [zstk_n r2, hl]; rfl
      have hyl : ∀ y, y ∈ l → y < f + (k : Int) := fun y hy => hlt2 y (List.mem_cons_of_mem _ hy)
      refine zw_ite (fun h => ?_) (fun h => ?_)
      · rw [if_pos (show 0 ≤ (l.length : Int) ∧ (l.length : Int) < 64 by omega)]
        refine key _ 0 l (zfr_up rfl F zq_59 rfl) hst1 ?_ ⟨by decide, by decide⟩ hyl zu_up_eq (zsv_cg _ (fun _ _ => rfl) (fun i hi => zu_up_ne (Or.inr (by omega))) s3) _ rfl
        rw [r2]
        show some (if V a ≠ 0 then 0 else 1) = some 0
        rw [if_pos (zlc_ne.mp h)]
      · rw [if_pos (show 0 ≤ (l.length : Int) ∧ (l.length : Int) < 64 by omega)]
        refine key _ 1 l (zfr_up rfl F zq_59 rfl) hst1 ?_ ⟨by decide, by decide⟩ hyl zu_up_eq (zsv_cg _ (fun _ _ => rfl) (fun i hi => zu_up_ne (Or.inr (by omega))) s3) _ rfl
        rw [r2]
        show some (if V a ≠ 0 then 0 else 1) = some 1
        rw [if_neg (fun q => h (zlc_ne.mpr q))]
    · have hcb : c ≠ 16 ∧ c ≠ 17 ∧ c ≠ 15 := by
        unfold zoq at ho
        omega
      generalize hAq : A (f + (k : Int)) = a at hl key
      generalize hBq : B (f + (k : Int)) = b at hl key
      generalize hKq : K (f + (k : Int)) = r at ho r3 key
      rw [hl] at hs hln hlt2
      rw [hl]
      have lc : (((b :: a :: l).length : Nat) : Int) = (l.length : Int) + 2 := rfl
      have lb : l.length + 2 ≤ k := hln
      obtain ⟨s1, s2, s3, s4, s5⟩ := hs
      have s1 : m (54 + 5) ((l.length : Int) + 1) = V b := s1
      have s3 : m (54 + 5) (l.length : Int) = V a := s3
      have hst1 : zstk K f (k + 1) = (f + (k : Int)) :: l := by rw [zstk_o (by rw [hKq]; exact r3), hl]; rfl
      have hyl : ∀ y, y ∈ l → y < f + (k : Int) := fun y hy => hlt2 y (List.mem_cons_of_mem _ (List.mem_cons_of_mem _ hy))
      have hkz : zvkn nm V r a b = zvop r (V a) (V b) := by
        unfold zvkn
        rw [if_neg (show ¬ r = 0 by omega), if_neg (show ¬ r = 1 by omega), if_neg (show ¬ r = 2 by omega)]
      rw [lc, if_pos hcb.1, if_pos hx4, if_pos hcb.2.1, if_pos hx4, if_pos hcb.2.2, if_pos (show 2 ≤ (l.length : Int) + 2 by omega), if_pos hx4, zu_w32_id (z := (l.length : Int) + 2 + -1) (by omega) (by omega), show (l.length : Int) + 2 + -1 = (l.length : Int) + 1 by omega, zu_w32_id (z := (l.length : Int) + 1 - 1) (by omega) (by omega), show (l.length : Int) + 1 - 1 = (l.length : Int) by omega, s1, s3]
      have b0 : 0 ≤ (l.length : Int) ∧ (l.length : Int) < 64 := by omega
      have b1 : 0 ≤ (l.length : Int) + 1 ∧ (l.length : Int) + 1 < 64 := by omega
      have last : ∀ (y : Int), ((zvop r (V a) (V b) = none ∧ ¬ zvin y) ∨ (zvop r (V a) (V b) = some y ∧ zvin y)) → zw (zu_ex (zt_T n) 26 240 [(10, 54), (0, L), (15, 62), (0, (l.length : Int) + 1), (0, f + (k : Int)), (2, 0), (2, 0)] [(1, y)] m) (fun v m' => zvA K A B nm V0 f e N v) := fun y hy => by
        refine zw_eq (zu_rega_at (zt_T n) (zm_26 n) (zdp_26 n) _ _ _ _ _ _ (zr_26_240 n _ _ 54 L 62 _ _ y m)) ?_
        have bad : ¬ zvin y → zvA K A B nm V0 f e N (-9223372036854775808) := fun hn => by
          rcases hy with ⟨h1, -⟩ | ⟨-, h2⟩
          · have := zvl_z (zvl_n hv (by rw [hAq, hBq, hKq, hkz]; exact h1)) g
            rw [show k + 1 + g = N by omega] at this
            exact Or.inl ⟨rfl, this⟩
          · exact absurd h2 hn
        refine zw_ite (fun h => zw_some (bad (fun q => absurd (zlc_gt.mp h) (Int.not_lt.mpr q.2)))) (fun h => zw_ite (fun h2 => ?_) (fun h2 => zw_some (bad (fun q => h2 (zlc_ge.mpr q.1)))))
        have hin : zvin y := ⟨zlc_ge.mp h2, Int.not_lt.mp (fun q => h (zlc_gt.mpr q))⟩
        rw [zu_w32_id (z := (l.length : Int) + 1 - 1) (by omega) (by omega), show (l.length : Int) + 1 - 1 = (l.length : Int) by omega, if_pos b0]
        refine zw_le (zu_forget (zu_lr_same (zu_lr_same (zu_lr_same (zu_lr_same (zu_lr_same (zu_lr_drop (v := 0) (zu_lr_same zu_lr_nil)))))))) ?_
        rcases hy with ⟨-, h2⟩ | ⟨h1, -⟩
        · exact absurd hin h2
        · exact key _ y l (zfr_up rfl F zq_59 rfl) hst1 (by rw [hkz]; exact h1) hin hyl zu_up_eq (zsv_cg _ (fun _ _ => rfl) (fun i hi => zu_up_ne (Or.inr (by omega))) s5) _ rfl
      refine zw_ite (fun h6 => ?_) (fun h6 => ?_)
      · rw [if_pos hx4, if_pos b0, if_pos b1]
        refine zw_bd (zw_mono (zv_209 n ho r3 h6) (fun v m' hq => ?_))
        obtain ⟨rfl, q1, q2⟩ := hq
        refine zw_ite (fun h => last 0 (Or.inr ⟨by rw [q2, h], by decide, by decide⟩)) (fun h => last 1 (Or.inr ⟨by rw [q2, q1.resolve_left h], by decide, by decide⟩))
      · rw [if_pos hx4, if_pos b0, if_pos b1]
        refine zw_bd (zw_mono (zv_208 n ho r3 (Int.not_lt.mp h6) s4 s2) (fun v m' hq => ?_))
        obtain ⟨rfl, q2⟩ := hq
        exact last v q2
