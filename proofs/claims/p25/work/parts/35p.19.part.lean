/-! WHAT HOLDS IF A RUN COMES TO AN END: rules (that it does stands in the contracts of safety) -/
def zl (x : Option zu_R) (Q : Int → zu_m → Prop) : Prop := ∀ v m, x = some (v, m) → Q v m
theorem zl_ite {p : Prop} {d : Decidable p} {x y : Option zu_R} {Q : Int → zu_m → Prop} (h1 : p → zl x Q) (h2 : ¬ p → zl y Q) : zl (@ite _ p d x y) Q := by
  by_cases h : p
  · rw [if_pos h]; exact h1 h
  · rw [if_neg h]; exact h2 h
theorem zl_none {Q : Int → zu_m → Prop} : zl none Q := fun v m e => by cases e
theorem zl_if {p : Prop} {d : Decidable p} {x : Option zu_R} {Q : Int → zu_m → Prop} (h : p → zl x Q) : zl (@ite _ p d x none) Q := zl_ite h (fun _ => zl_none)
theorem zl_b {v : Int} {x : Option zu_R} {Q : Int → zu_m → Prop} (h : zl x Q) : zl (zu_b v x) Q := zl_if (fun _ => h)
theorem zl_some {v : Int} {m : zu_m} {Q : Int → zu_m → Prop} (h : Q v m) : zl (some (v, m)) Q := fun v' m' e => by cases e; exact h
theorem zl_bd {x : Option zu_R} {f : Int → zu_m → Option zu_R} {Q : Int → zu_m → Prop} (h : zl x (fun v m => zl (f v m) Q)) : zl (zu_bd x f) Q := fun v m e => by
  unfold zu_bd at e
  cases x with
  | none => cases e
  | some q => exact h q.1 q.2 rfl v m e
theorem zl_mono {x : Option zu_R} {P Q : Int → zu_m → Prop} (h : zl x P) (k : ∀ v m, P v m → Q v m) : zl x Q := fun v m e => k v m (h v m e)
theorem zl_eq {x y : Option zu_R} {Q : Int → zu_m → Prop} (e : x = y) (h : zl y Q) : zl x Q := by rw [e]; exact h
theorem zl_of {x : Option zu_R} {P : Int → zu_m → Prop} (h : zw x P) : zl x P := fun v m e => by
  obtain ⟨v1, m1, e1, h1⟩ := h
  cases e.symm.trans e1
  exact h1
theorem zw_zl {x : Option zu_R} {P Q : Int → zu_m → Prop} (h1 : zw x P) (h2 : zl x Q) : zw x (fun v m => P v m ∧ Q v m) := by
  obtain ⟨v, m, e, h⟩ := h1
  exact ⟨v, m, e, h, h2 v m e⟩
theorem zl_swap {x y : Option zu_R} {Q : Int → zu_m → Int → zu_m → Prop} (h : zl y (fun w t => zl x (fun v m => Q v m w t))) : zl x (fun v m => zl y (fun w t => Q v m w t)) := fun v m e w t e2 => h w t e2 v m e
theorem zl_pair {x y : Option zu_R} {f g : Int → zu_m → Option zu_R} {P Q : Int → zu_m → Int → zu_m → Prop} (h : zl x (fun v m => zl y (fun w t => P v m w t))) (k : ∀ v m w t, P v m w t → zl (f v m) (fun v' m' => zl (g w t) (fun w' t' => Q v' m' w' t'))) : zl (zu_bd x f) (fun v' m' => zl (zu_bd y g) (fun w' t' => Q v' m' w' t')) := by
  intro v' m' e w' t' e2
  unfold zu_bd at e e2
  cases x with
  | none => cases e
  | some q =>
    cases y with
    | none => cases e2
    | some r => exact k _ _ _ _ (h q.1 q.2 rfl r.1 r.2 rfl) v' m' e w' t' e2
theorem zw_zl2 {x y : Option zu_R} {P Q : Int → zu_m → Prop} {R : Int → zu_m → Int → zu_m → Prop} (h1 : zw x P) (h2 : zw y Q) (h : zl x (fun v m => zl y (fun w t => R v m w t))) : zw x (fun v m => zw y (fun w t => P v m ∧ Q w t ∧ R v m w t)) := by
  obtain ⟨v, m, e1, p1⟩ := h1
  obtain ⟨w, t, e2, p2⟩ := h2
  exact ⟨v, m, e1, w, t, e2, p1, p2, h v m e1 w t e2⟩
/-! what waits: the class's layWaiting, the reference's bind -/
def zrk (a : Int) : Int := if a < 13 then (if a < 11 then (if a < 5 then (if a ≠ 2 then (if a ≠ 3 then (if a ≠ 4 then 0 else 1) else 2) else 3) else 4) else 5) else 6
theorem zc_109 (n : Nat) (a : Int) (t : zu_m) : zu_call (zt_T n) 109 [(0, a)] t = some (zrk a, t) := by
  rw [zu_call_at (zt_T n) (zm_109 n) (zdp_109 n) _ _ _ _ _ rfl (zr_109_0 n _ _ a t)]
  unfold zrk
  split
  · split
    · split
      · split
        · split
          · split <;> rfl
          · rfl
        · rfl
      · rfl
    · rfl
  · rfl
theorem zz_207 (n : Nat) {k x : Int} {m : zu_m} : zl (zu_call (zt_T n) 207 [(10, 10), (0, k), (0, x)] m) (fun _ m' => zfr [(5, 7), (33, 0), (34, 0)] m m') := by
  refine zl_eq (zu_call_at (zt_T n) (zm_207 n) (zdp_207 n) _ _ _ _ _ rfl (zr_207_0 n _ _ 10 k x m)) ?_
  refine zl_ite (fun _ => zl_some (zfr_rf _ _)) (fun _ => zl_if (fun _ => zl_if (fun _ => ?_)))
  generalize hm1 : zu_up m (10 + 1) (m 10 6) k = m1
  generalize hm2 : zu_up m1 (10 + 2) (m1 10 6) x = m2
  generalize hm3 : zu_up m2 10 6 (zu_w32 (m2 10 6 + 1)) = m3
  exact zl_some (zfr_up hm3 (zfr_up hm2 (zfr_up hm1 (zfr_rf _ _) (show zcls 11 = 33 from zq_11) rfl) (show zcls 12 = 34 from zq_12) rfl) zq_10 rfl)
theorem zz_206 (n : Nat) {b : Int} : ∀ (k : Nat) (m : zu_m), 0 ≤ m 47 3 → m 47 3 ≤ (k : Int) → m 47 3 ≤ 72 → zl (zu_ex (zt_T n) 206 0 [(24, 47), (0, b)] [] m) (fun _ m' => zfr [(5, 7), (10, 4), (33, 0), (34, 0)] m m' ∧ 0 ≤ m' 47 3 ∧ m' 47 3 ≤ m 47 3 ∧ (m' 47 3 = 0 ∨ m 2 (m 48 (m' 47 3 - 1)) < b) ∧ ∀ i, m' 47 3 ≤ i → i < m 47 3 → b ≤ m 2 (m 48 i)) := by
  intro k
  induction k with
  | zero =>
    intro m h0 hk h72
    refine zl_eq (zu_rega_at (zt_T n) (zm_206 n) (zdp_206 n) _ _ _ _ _ _ (zr_206_0 n _ _ 47 b m)) ?_
    refine zl_ite (fun h => zl_some ⟨zfr_rf _ _, h0, by omega, Or.inl (by omega), fun i i0 i1 => by exfalso; omega⟩) (fun h => ?_)
    exfalso; omega
  | succ k ih =>
    intro m h0 hk h72
    refine zl_eq (zu_rega_at (zt_T n) (zm_206 n) (zdp_206 n) _ _ _ _ _ _ (zr_206_0 n _ _ 47 b m)) ?_
    refine zl_ite (fun h => zl_some ⟨zfr_rf _ _, h0, by omega, Or.inl (by omega), fun i i0 i1 => by exfalso; omega⟩) (fun h => ?_)
    rw [zu_w32_id (z := m 47 3 - 1) (by omega) (by omega)]
    refine zl_if (fun h1 => zl_if (fun h2 => ?_))
    refine zl_ite (fun h3 => zl_some ⟨zfr_rf _ _, h0, by omega, Or.inr h3, fun i i0 i1 => by exfalso; omega⟩) (fun h3 => ?_)
    generalize hm1 : zu_up m 47 3 (m 47 3 - 1) = m1
    have hf1 : zfr [(10, 4)] m m1 := zfr_up hm1 (zfr_rf _ _) zq_47 rfl
    have e3 : m1 47 3 = m 47 3 - 1 := zs_eq hm1
    refine zl_if (fun h4 => zl_bd (zl_mono (zz_207 n) (fun _ m2 hf2 => ?_)))
    have f3 : m2 47 3 = m 47 3 - 1 := (zfr_ap hf2 zq_47 rfl).trans e3
    have f48 : ∀ i, m2 48 i = m 48 i := fun i => (zfr_ap hf2 zq_48 rfl).trans (zfr_ap hf1 zq_48 rfl)
    have f2 : ∀ i, m2 2 i = m 2 i := fun i => (zfr_ap hf2 zq_2 rfl).trans (zfr_ap hf1 zq_2 rfl)
    refine zl_mono (ih m2 (by omega) (by omega) (by omega)) (fun _ m3 hs => ?_)
    obtain ⟨g1, g2, g3, g4, g5⟩ := hs
    refine ⟨zfr_tr (zfr_tr (zfr_tr (zfr_rf _ m) hf1 rfl) hf2 rfl) g1 rfl, g2, by omega, ?_, fun i i0 i1 => ?_⟩
    · rw [f48, f2] at g4; exact g4
    · by_cases e : i = m 47 3 - 1
      · rw [e]; omega
      · have := g5 i i0 (by omega)
        rw [f48, f2] at this
        exact this
theorem zz_111 (n : Nat) {t : zu_m} : zl (zu_call (zt_T n) 111 [(40, 190)] t) (fun _ t' => zfr [(28, 47)] t t') := by
  refine zl_eq (zu_call_at (zt_T n) (zm_111 n) (zdp_111 n) _ _ _ _ _ rfl (zr_111_0 n _ _ 190 t)) ?_
  refine zl_if (fun _ => zl_some ?_)
  generalize hm1 : zu_up t 190 46 (zu_w32 (t 190 46 - 1)) = m1
  exact zfr_up hm1 (zfr_rf _ _) zq_190 rfl
theorem zz_110 (n : Nat) {k a b : Int} {t : zu_m} : zl (zu_call (zt_T n) 110 [(40, 190), (0, k), (0, a), (0, b)] t) (fun _ t' => zfr [(28, 22), (28, 47), (117, 0), (118, 0), (119, 0), (121, 0)] t t') := by
  refine zl_eq (zu_call_at (zt_T n) (zm_110 n) (zdp_110 n) _ _ _ _ _ rfl (zr_110_0 n _ _ 190 k a b t)) ?_
  refine zl_if (fun _ => zl_if (fun _ => zl_if (fun _ => zl_if (fun _ => zl_some ?_))))
  refine zfr_up rfl (zfr_up rfl (zfr_up rfl (zfr_up rfl (zfr_up rfl (zfr_up rfl (zfr_rf _ _) zq_208 rfl) zq_209 rfl) zq_210 rfl) zq_212 rfl) zq_190 rfl) zq_190 rfl
