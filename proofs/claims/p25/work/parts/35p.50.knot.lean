/-! KNOTS side by side: class's list behind one another, the reference's with whom they join -/
def zhl (h : Int → Int) : Nat → List Int
  | 0 => []
  | k + 1 => h (k : Int) :: zhl h k
/-- what stands on the stack behind k knots from f on -/
def zstk (kn : Int → Int) (f : Int) : Nat → List Int
  | 0 => []
  | k + 1 => if kn (f + (k : Int)) = 0 ∨ kn (f + (k : Int)) = 1 then (f + (k : Int)) :: zstk kn f k else if kn (f + (k : Int)) = 2 then (f + (k : Int)) :: (zstk kn f k).tail else (f + (k : Int)) :: (zstk kn f k).tail.tail
theorem zhl_cg {h g : Int → Int} : ∀ n : Nat, (∀ k : Nat, k < n → h (k : Int) = g (k : Int)) → zhl h n = zhl g n := by
  intro n
  induction n with
  | zero => intro _; rfl
  | succ n ih =>
    intro e
    show h (n : Int) :: zhl h n = g (n : Int) :: zhl g n
    rw [e n (Nat.lt_succ_self n), ih (fun k hk => e k (Nat.lt_succ_of_lt hk))]
theorem zstk_cg {kn ln : Int → Int} {f : Int} : ∀ n : Nat, (∀ k : Nat, k < n → kn (f + (k : Int)) = ln (f + (k : Int))) → zstk kn f n = zstk ln f n := by
  intro n
  induction n with
  | zero => intro _; rfl
  | succ n ih =>
    intro e
    have e1 := e n (Nat.lt_succ_self n)
    have e2 := ih (fun k hk => e k (Nat.lt_succ_of_lt hk))
    show (if kn (f + (n : Int)) = 0 ∨ kn (f + (n : Int)) = 1 then (f + (n : Int)) :: zstk kn f n else if kn (f + (n : Int)) = 2 then (f + (n : Int)) :: (zstk kn f n).tail else (f + (n : Int)) :: (zstk kn f n).tail.tail) = (if ln (f + (n : Int)) = 0 ∨ ln (f + (n : Int)) = 1 then (f + (n : Int)) :: zstk ln f n else if ln (f + (n : Int)) = 2 then (f + (n : Int)) :: (zstk ln f n).tail else (f + (n : Int)) :: (zstk ln f n).tail.tail)
    rw [e1, e2]
/-- one knot on both sides: the class's kind c and number x, the reference's kind r, part a, other b; s: the stack before it -/
def zkn1 (s : List Int) (c x r a b : Int) : Prop := (c = 16 ∧ r = 0 ∧ a = x) ∨ (c = 17 ∧ r = 1 ∧ a = x) ∨ (c = 15 ∧ r = 2 ∧ ∃ l, s = a :: l) ∨ (zoq c r ∧ 3 ≤ r ∧ ∃ l, s = b :: a :: l)
def zKA (f : Int) (m t : zu_m) : Prop := m 10 6 = t 190 21 ∧ 0 ≤ f ∧ f ≤ t 190 21 ∧ t 190 21 ≤ 64 ∧ 0 ≤ t 190 46 ∧ (∀ i : Nat, f + (i : Int) < t 190 21 → zkn1 (zstk (fun q => t 208 (64 + q)) f i) (m 11 (f + (i : Int))) (m 12 (f + (i : Int))) (t 208 (64 + (f + (i : Int)))) (t 209 (64 + (f + (i : Int)))) (t 210 (64 + (f + (i : Int))))) ∧ zstk (fun q => t 208 (64 + q)) f (t 190 21 - f).toNat = zhl (fun q => t 212 q) (t 190 46).toNat
/-- one knot more on both sides: s' is what is held behind it -/
theorem zKA_add {f : Int} {m t m' t' : zu_m} {c x r a b h' : Int} (h : zKA f m t) (hn : t 190 21 < 64) (e6 : m' 10 6 = m 10 6 + 1) (e11 : m' 11 (m 10 6) = c) (e12 : m' 12 (m 10 6) = x) (o11 : ∀ i, i ≠ m 10 6 → m' 11 i = m 11 i) (o12 : ∀ i, i ≠ m 10 6 → m' 12 i = m 12 i) (e21 : t' 190 21 = t 190 21 + 1) (e208 : t' 208 (64 + t 190 21) = r) (e209 : t' 209 (64 + t 190 21) = a) (e210 : t' 210 (64 + t 190 21) = b) (o208 : ∀ i, i ≠ 64 + t 190 21 → t' 208 i = t 208 i) (o209 : ∀ i, i ≠ 64 + t 190 21 → t' 209 i = t 209 i) (o210 : ∀ i, i ≠ 64 + t 190 21 → t' 210 i = t 210 i) (e46 : t' 190 46 = h' + 1) (h0 : 0 ≤ h') (e212 : t' 212 h' = t 190 21) (o212 : ∀ i, i < h' → t' 212 i = t 212 i) (hk : ((r = 0 ∧ c = 16 ∧ a = x) ∨ (r = 1 ∧ c = 17 ∧ a = x)) ∧ h' = t 190 46 ∨ (r = 2 ∧ c = 15 ∧ h' + 1 = t 190 46 ∧ a = t 212 h') ∨ (3 ≤ r ∧ zoq c r ∧ h' + 2 = t 190 46 ∧ b = t 212 (h' + 1) ∧ a = t 212 h')) : zKA f m' t' := by
  obtain ⟨a1, a2, a3, a4, a5, a6, a7⟩ := h
  obtain ⟨N, hN⟩ : ∃ N : Nat, (N : Int) = t 190 21 - f := ⟨(t 190 21 - f).toNat, by omega⟩
  have eN : (t 190 21 - f).toNat = N := by omega
  have fN : f + (N : Int) = t 190 21 := by omega
  obtain ⟨H, hH⟩ : ∃ H : Nat, (H : Int) = h' := ⟨h'.toNat, by omega⟩
  rw [eN] at a7
  have cg : ∀ k : Nat, k ≤ N → zstk (fun q => t' 208 (64 + q)) f k = zstk (fun q => t 208 (64 + q)) f k := fun k hk => zstk_cg k (fun j hj => o208 _ (by omega))
  have top : ∀ L, zhl (fun q => t 212 q) H = L → zhl (fun q => t' 212 q) (H + 1) = t 190 21 :: L := fun L hL => by
    show t' 212 (H : Int) :: zhl (fun q => t' 212 q) H = _
    rw [hH, e212, ← hL]
    congr 1
    exact zhl_cg H (fun k hk => o212 _ (by omega))
  have e46N : (t' 190 46).toNat = H + 1 := by omega
  have e21N : (t' 190 21 - f).toNat = N + 1 := by omega
  have kN : (fun q => t' 208 (64 + q)) (f + (N : Int)) = r := by rw [fN]; exact e208
  refine ⟨by omega, a2, by omega, by omega, by omega, fun i hi => ?_, ?_⟩
  · by_cases e : i = N
    · subst e
      rw [cg i (Nat.le_refl i), fN, ← a1, e11, e12, a1, e208, e209, e210, a7]
      rcases hk with ⟨⟨k1, k2, k3⟩ | ⟨k1, k2, k3⟩, -⟩ | ⟨k1, k2, k3, k4⟩ | ⟨k1, k2, k3, k4, k5⟩
      · exact Or.inl ⟨k2, k1, k3⟩
      · exact Or.inr (Or.inl ⟨k2, k1, k3⟩)
      · refine Or.inr (Or.inr (Or.inl ⟨k2, k1, zhl (fun q => t 212 q) H, ?_⟩))
        rw [show (t 190 46).toNat = H + 1 by omega, k4, ← hH]
        rfl
      · refine Or.inr (Or.inr (Or.inr ⟨k2, k1, zhl (fun q => t 212 q) H, ?_⟩))
        rw [show (t 190 46).toNat = H + 2 by omega, k4, k5, ← hH]
        rfl
    · have hlt : i < N := by omega
      have := a6 i (by omega)
      rw [cg i (Nat.le_of_lt hlt), o11 _ (by omega), o12 _ (by omega), o208 _ (by omega), o209 _ (by omega), o210 _ (by omega)]
      exact this
  · rw [e21N, e46N]
    show (if (fun q => t' 208 (64 + q)) (f + (N : Int)) = 0 ∨ (fun q => t' 208 (64 + q)) (f + (N : Int)) = 1 then (f + (N : Int)) :: zstk (fun q => t' 208 (64 + q)) f N else if (fun q => t' 208 (64 + q)) (f + (N : Int)) = 2 then (f + (N : Int)) :: (zstk (fun q => t' 208 (64 + q)) f N).tail else (f + (N : Int)) :: (zstk (fun q => t' 208 (64 + q)) f N).tail.tail) = _
    rw [kN, cg N (Nat.le_refl N), fN, a7]
    rcases hk with ⟨k0, k3⟩ | ⟨k1, k2, k3, k4⟩ | ⟨k1, k2, k3, k4, k5⟩
    · rw [if_pos (by rcases k0 with ⟨k1, -⟩ | ⟨k1, -⟩; exact Or.inl k1; exact Or.inr k1)]
      exact (top _ (by rw [show (t 190 46).toNat = H by omega])).symm
    · rw [if_neg (show ¬ (r = 0 ∨ r = 1) by omega), if_pos k1, show (t 190 46).toNat = H + 1 by omega]
      exact (top _ rfl).symm
    · rw [if_neg (show ¬ (r = 0 ∨ r = 1) by omega), if_neg (show ¬ r = 2 by omega), show (t 190 46).toNat = H + 2 by omega]
      exact (top _ rfl).symm
/-- a memory alike in all that is said -/
theorem zKA_mv {f : Int} {m t m' t' : zu_m} (h : zKA f m t) (e6 : m' 10 6 = m 10 6) (e11 : ∀ i, m' 11 i = m 11 i) (e12 : ∀ i, m' 12 i = m 12 i) (e21 : t' 190 21 = t 190 21) (e46 : t' 190 46 = t 190 46) (e208 : ∀ i, t' 208 i = t 208 i) (e209 : ∀ i, t' 209 i = t 209 i) (e210 : ∀ i, t' 210 i = t 210 i) (e212 : ∀ i, t' 212 i = t 212 i) : zKA f m' t' := by
  have x208 : t' 208 = t 208 := funext e208
  have x209 : t' 209 = t 209 := funext e209
  have x210 : t' 210 = t 210 := funext e210
  have x212 : t' 212 = t 212 := funext e212
  have x11 : m' 11 = m 11 := funext e11
  have x12 : m' 12 = m 12 := funext e12
  unfold zKA at h ⊢
  rw [e6, e21, e46, x208, x209, x210, x212, x11, x12]
  exact h
/-- what the calls do -/
theorem zy_207 (n : Nat) {k x : Int} {m : zu_m} (hn : m 10 6 < 64) (h0 : 0 ≤ m 10 6) : zl (zu_call (zt_T n) 207 [(10, 10), (0, k), (0, x)] m) (fun _ m' => m' 10 6 = m 10 6 + 1 ∧ m' 11 (m 10 6) = k ∧ m' 12 (m 10 6) = x ∧ (∀ i, i ≠ m 10 6 → m' 11 i = m 11 i) ∧ (∀ i, i ≠ m 10 6 → m' 12 i = m 12 i)) := by
  refine zl_eq (zu_call_at (zt_T n) (zm_207 n) (zdp_207 n) _ _ _ _ _ rfl (zr_207_0 n _ _ 10 k x m)) ?_
  rw [if_neg (show ¬ 64 ≤ m 10 6 by omega)]
  refine zl_if (fun _ => zl_if (fun _ => zl_some ?_))
  rw [zu_up_ne (σ := m) (Or.inl (by decide))]
  generalize hm1 : zu_up m (10 + 1) (m 10 6) k = m1
  generalize hm2 : zu_up m1 (10 + 2) (m 10 6) x = m2
  have e6 : m2 10 6 = m 10 6 := (zs_ne hm2 (Or.inl (by decide))).trans (zs_ne hm1 (Or.inl (by decide)))
  rw [e6, zu_w32_id (z := m 10 6 + 1) (by omega) (by omega)]
  refine ⟨zu_up_eq, (zu_up_ne (Or.inl (by decide))).trans ((zs_ne hm2 (Or.inl (by decide))).trans (zs_eq hm1)), (zu_up_ne (Or.inl (by decide))).trans (zs_eq hm2), fun i hi => (zu_up_ne (Or.inl (by decide))).trans ((zs_ne hm2 (Or.inl (by decide))).trans (zs_ne hm1 (Or.inr hi))), fun i hi => (zu_up_ne (Or.inl (by decide))).trans ((zs_ne hm2 (Or.inr hi)).trans (zs_ne hm1 (Or.inl (by decide))))⟩
theorem zy_111 (n : Nat) {t : zu_m} (h0 : 1 ≤ t 190 46) (h1 : t 190 46 ≤ 96) : zl (zu_call (zt_T n) 111 [(40, 190)] t) (fun w t' => w = t 212 (t 190 46 - 1) ∧ t' 190 46 = t 190 46 - 1 ∧ (∀ a i, (a ≠ 190 ∨ i ≠ 46) → t' a i = t a i)) := by
  refine zl_eq (zu_call_at (zt_T n) (zm_111 n) (zdp_111 n) _ _ _ _ _ rfl (zr_111_0 n _ _ 190 t)) ?_
  rw [zu_w32_id (z := t 190 46 - 1) (by omega) (by omega)]
  generalize hm1 : zu_up t 190 46 (t 190 46 - 1) = t1
  have e46 : t1 190 46 = t 190 46 - 1 := zs_eq hm1
  rw [e46]
  refine zl_if (fun _ => zl_some ⟨zs_ne hm1 (Or.inl (by decide)), e46, fun a i h => zs_ne hm1 h⟩)
theorem zy_110 (n : Nat) {k a b : Int} {t : zu_m} (hn : t 190 21 < 64) (h0 : 0 ≤ t 190 21) (hh : 0 ≤ t 190 46 ∧ t 190 46 < 96) : zl (zu_call (zt_T n) 110 [(40, 190), (0, k), (0, a), (0, b)] t) (fun _ t' => t' 190 21 = t 190 21 + 1 ∧ t' 208 (64 + t 190 21) = k ∧ t' 209 (64 + t 190 21) = a ∧ t' 210 (64 + t 190 21) = b ∧ (∀ i, i ≠ 64 + t 190 21 → t' 208 i = t 208 i) ∧ (∀ i, i ≠ 64 + t 190 21 → t' 209 i = t 209 i) ∧ (∀ i, i ≠ 64 + t 190 21 → t' 210 i = t 210 i) ∧ t' 190 46 = t 190 46 + 1 ∧ t' 212 (t 190 46) = t 190 21 ∧ (∀ i, i ≠ t 190 46 → t' 212 i = t 212 i)) := by
  refine zl_eq (zu_call_at (zt_T n) (zm_110 n) (zdp_110 n) _ _ _ _ _ rfl (zr_110_0 n _ _ 190 k a b t)) ?_
  refine zl_if (fun _ => zl_if (fun _ => zl_if (fun _ => zl_if (fun _ => zl_some ?_))))
  rw [zu_w32_id (z := 64 + t 190 21) (by omega) (by omega)]
  generalize hm1 : zu_up t 208 (64 + t 190 21) k = t1
  have a21 : t1 190 21 = t 190 21 := zs_ne hm1 (Or.inl (by decide))
  rw [a21, zu_w32_id (z := 64 + t 190 21) (by omega) (by omega)]
  generalize hm2 : zu_up t1 209 (64 + t 190 21) a = t2
  have b21 : t2 190 21 = t 190 21 := (zs_ne hm2 (Or.inl (by decide))).trans a21
  rw [b21, zu_w32_id (z := 64 + t 190 21) (by omega) (by omega)]
  generalize hm3 : zu_up t2 210 (64 + t 190 21) b = t3
  have c21 : t3 190 21 = t 190 21 := (zs_ne hm3 (Or.inl (by decide))).trans b21
  have c46 : t3 190 46 = t 190 46 := (zs_ne hm3 (Or.inl (by decide))).trans ((zs_ne hm2 (Or.inl (by decide))).trans (zs_ne hm1 (Or.inl (by decide))))
  rw [c21, c46]
  generalize hm4 : zu_up t3 212 (t 190 46) (t 190 21) = t4
  have d46 : t4 190 46 = t 190 46 := (zs_ne hm4 (Or.inl (by decide))).trans c46
  rw [d46, zu_w32_id (z := t 190 46 + 1) (by omega) (by omega)]
  generalize hm5 : zu_up t4 190 46 (t 190 46 + 1) = t5
  have e21 : t5 190 21 = t 190 21 := (zs_ne hm5 (Or.inr (by decide))).trans ((zs_ne hm4 (Or.inl (by decide))).trans c21)
  rw [e21, zu_w32_id (z := t 190 21 + 1) (by omega) (by omega)]
  generalize hm6 : zu_up t5 190 21 (t 190 21 + 1) = t6
  refine ⟨zs_eq hm6, ?_, ?_, ?_, fun i hi => ?_, fun i hi => ?_, fun i hi => ?_, ?_, ?_, fun i hi => ?_⟩
  · exact (zs_ne hm6 (Or.inl (by decide))).trans ((zs_ne hm5 (Or.inl (by decide))).trans ((zs_ne hm4 (Or.inl (by decide))).trans ((zs_ne hm3 (Or.inl (by decide))).trans ((zs_ne hm2 (Or.inl (by decide))).trans (zs_eq hm1)))))
  · exact (zs_ne hm6 (Or.inl (by decide))).trans ((zs_ne hm5 (Or.inl (by decide))).trans ((zs_ne hm4 (Or.inl (by decide))).trans ((zs_ne hm3 (Or.inl (by decide))).trans (zs_eq hm2))))
  · exact (zs_ne hm6 (Or.inl (by decide))).trans ((zs_ne hm5 (Or.inl (by decide))).trans ((zs_ne hm4 (Or.inl (by decide))).trans (zs_eq hm3)))
  · exact (zs_ne hm6 (Or.inl (by decide))).trans ((zs_ne hm5 (Or.inl (by decide))).trans ((zs_ne hm4 (Or.inl (by decide))).trans ((zs_ne hm3 (Or.inl (by decide))).trans ((zs_ne hm2 (Or.inl (by decide))).trans (zs_ne hm1 (Or.inr hi))))))
  · exact (zs_ne hm6 (Or.inl (by decide))).trans ((zs_ne hm5 (Or.inl (by decide))).trans ((zs_ne hm4 (Or.inl (by decide))).trans ((zs_ne hm3 (Or.inl (by decide))).trans ((zs_ne hm2 (Or.inr hi)).trans (zs_ne hm1 (Or.inl (by decide)))))))
  · exact (zs_ne hm6 (Or.inl (by decide))).trans ((zs_ne hm5 (Or.inl (by decide))).trans ((zs_ne hm4 (Or.inl (by decide))).trans ((zs_ne hm3 (Or.inr hi)).trans ((zs_ne hm2 (Or.inl (by decide))).trans (zs_ne hm1 (Or.inl (by decide)))))))
  · exact (zs_ne hm6 (Or.inr (by decide))).trans (zs_eq hm5)
  · exact (zs_ne hm6 (Or.inl (by decide))).trans ((zs_ne hm5 (Or.inl (by decide))).trans (zs_eq hm4))
  · exact (zs_ne hm6 (Or.inl (by decide))).trans ((zs_ne hm5 (Or.inl (by decide))).trans ((zs_ne hm4 (Or.inr hi)).trans ((zs_ne hm3 (Or.inl (by decide))).trans ((zs_ne hm2 (Or.inl (by decide))).trans (zs_ne hm1 (Or.inl (by decide)))))))
