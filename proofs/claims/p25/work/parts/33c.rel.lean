theorem zone_3 {a : Int} (h : zcls a = 2) : a = 3 := by
  obtain ⟨n, rfl, hn, h1⟩ := zcls_inv h (by decide)
  have h2 : (List.range 234).all (fun n => !(Nat.beq (zt_clz.getD n 0) 2) || Nat.beq n 3) = true := by decide +kernel
  have h3 := List.all_eq_true.mp h2 n (List.mem_range.mpr hn)
  rw [h1] at h3
  exact congrArg Int.ofNat (Nat.eq_of_beq_eq_true h3)
theorem zone_5 {a : Int} (h : zcls a = 3) : a = 5 := by
  obtain ⟨n, rfl, hn, h1⟩ := zcls_inv h (by decide)
  have h2 : (List.range 234).all (fun n => !(Nat.beq (zt_clz.getD n 0) 3) || Nat.beq n 5) = true := by decide +kernel
  have h3 := List.all_eq_true.mp h2 n (List.mem_range.mpr hn)
  rw [h1] at h3
  exact congrArg Int.ofNat (Nat.eq_of_beq_eq_true h3)
theorem zone_6 {a : Int} (h : zcls a = 4) : a = 6 := by
  obtain ⟨n, rfl, hn, h1⟩ := zcls_inv h (by decide)
  have h2 : (List.range 234).all (fun n => !(Nat.beq (zt_clz.getD n 0) 4) || Nat.beq n 6) = true := by decide +kernel
  have h3 := List.all_eq_true.mp h2 n (List.mem_range.mpr hn)
  rw [h1] at h3
  exact congrArg Int.ofNat (Nat.eq_of_beq_eq_true h3)
theorem zone_19 {a : Int} (h : zcls a = 6) : a = 19 := by
  obtain ⟨n, rfl, hn, h1⟩ := zcls_inv h (by decide)
  have h2 : (List.range 234).all (fun n => !(Nat.beq (zt_clz.getD n 0) 6) || Nat.beq n 19) = true := by decide +kernel
  have h3 := List.all_eq_true.mp h2 n (List.mem_range.mpr hn)
  rw [h1] at h3
  exact congrArg Int.ofNat (Nat.eq_of_beq_eq_true h3)
theorem zone_50 {a : Int} (h : zcls a = 11) : a = 50 := by
  obtain ⟨n, rfl, hn, h1⟩ := zcls_inv h (by decide)
  have h2 : (List.range 234).all (fun n => !(Nat.beq (zt_clz.getD n 0) 11) || Nat.beq n 50) = true := by decide +kernel
  have h3 := List.all_eq_true.mp h2 n (List.mem_range.mpr hn)
  rw [h1] at h3
  exact congrArg Int.ofNat (Nat.eq_of_beq_eq_true h3)
theorem zone_63 {a : Int} (h : zcls a = 13) : a = 63 := by
  obtain ⟨n, rfl, hn, h1⟩ := zcls_inv h (by decide)
  have h2 : (List.range 234).all (fun n => !(Nat.beq (zt_clz.getD n 0) 13) || Nat.beq n 63) = true := by decide +kernel
  have h3 := List.all_eq_true.mp h2 n (List.mem_range.mpr hn)
  rw [h1] at h3
  exact congrArg Int.ofNat (Nat.eq_of_beq_eq_true h3)
theorem zone_89 {a : Int} (h : zcls a = 16) : a = 89 := by
  obtain ⟨n, rfl, hn, h1⟩ := zcls_inv h (by decide)
  have h2 : (List.range 234).all (fun n => !(Nat.beq (zt_clz.getD n 0) 16) || Nat.beq n 89) = true := by decide +kernel
  have h3 := List.all_eq_true.mp h2 n (List.mem_range.mpr hn)
  rw [h1] at h3
  exact congrArg Int.ofNat (Nat.eq_of_beq_eq_true h3)
theorem zone_115 {a : Int} (h : zcls a = 19) : a = 115 := by
  obtain ⟨n, rfl, hn, h1⟩ := zcls_inv h (by decide)
  have h2 : (List.range 234).all (fun n => !(Nat.beq (zt_clz.getD n 0) 19) || Nat.beq n 115) = true := by decide +kernel
  have h3 := List.all_eq_true.mp h2 n (List.mem_range.mpr hn)
  rw [h1] at h3
  exact congrArg Int.ofNat (Nat.eq_of_beq_eq_true h3)
theorem zone_164 {a : Int} (h : zcls a = 25) : a = 164 := by
  obtain ⟨n, rfl, hn, h1⟩ := zcls_inv h (by decide)
  have h2 : (List.range 234).all (fun n => !(Nat.beq (zt_clz.getD n 0) 25) || Nat.beq n 164) = true := by decide +kernel
  have h3 := List.all_eq_true.mp h2 n (List.mem_range.mpr hn)
  rw [h1] at h3
  exact congrArg Int.ofNat (Nat.eq_of_beq_eq_true h3)
theorem zone_148 {a : Int} (h : zcls a = 23) : a = 148 := by
  obtain ⟨n, rfl, hn, h1⟩ := zcls_inv h (by decide)
  have h2 : (List.range 234).all (fun n => !(Nat.beq (zt_clz.getD n 0) 23) || Nat.beq n 148) = true := by decide +kernel
  have h3 := List.all_eq_true.mp h2 n (List.mem_range.mpr hn)
  rw [h1] at h3
  exact congrArg Int.ofNat (Nat.eq_of_beq_eq_true h3)
theorem zone_228 {a : Int} (h : zcls a = 137) : a = 228 := by
  obtain ⟨n, rfl, hn, h1⟩ := zcls_inv h (by decide)
  have h2 : (List.range 234).all (fun n => !(Nat.beq (zt_clz.getD n 0) 137) || Nat.beq n 228) = true := by decide +kernel
  have h3 := List.all_eq_true.mp h2 n (List.mem_range.mpr hn)
  rw [h1] at h3
  exact congrArg Int.ofNat (Nat.eq_of_beq_eq_true h3)
theorem zone_229 {a : Int} (h : zcls a = 138) : a = 229 := by
  obtain ⟨n, rfl, hn, h1⟩ := zcls_inv h (by decide)
  have h2 : (List.range 234).all (fun n => !(Nat.beq (zt_clz.getD n 0) 138) || Nat.beq n 229) = true := by decide +kernel
  have h3 := List.all_eq_true.mp h2 n (List.mem_range.mpr hn)
  rw [h1] at h3
  exact congrArg Int.ofNat (Nat.eq_of_beq_eq_true h3)
/-! gardens, rows of what was done: relations and their rules -/
theorem zadd_mul (x y z : Int) : (x + y) * z = x * z + y * z := Int.add_mul x y z
def zgeo (m : zu_m) (a : Int) : Prop := m a 2 = m a 0 * m a 1 ∧ ∀ i, 0 ≤ i → i < m a 2 → (0 ≤ m (a + 1) i ∧ m (a + 1) i < m a 0 ∧ 0 ≤ m (a + 2) i ∧ m (a + 2) i < m a 1 ∧ i = m (a + 2) i * m a 0 + m (a + 1) i)
theorem zgeo_step {m : zu_m} {a b x y : Int} (h : zgeo m a) (e : b = a) (hw : 1 ≤ m b 0) (x0 : 0 ≤ x) (x1 : x < m b 2) (y0 : 0 ≤ y) (y1 : y < m b 2) : (m (b + 1) x < m (b + 1) y → x + 1 < m b 2) ∧ (m (b + 1) y < m (b + 1) x → 1 ≤ x) ∧ (m (b + 2) x < m (b + 2) y → x + m b 0 < m b 2) ∧ (m (b + 2) y < m (b + 2) x → m b 0 ≤ x) := by
  subst e
  obtain ⟨h1, h2⟩ := h
  obtain ⟨c0, c1, r0, r1, e1⟩ := h2 x x0 x1
  obtain ⟨d0, d1, s0, s1, e2⟩ := h2 y y0 y1
  have hc := Int.mul_comm (m b 0) (m b 1)
  refine ⟨fun h => ?_, fun h => ?_, fun h => ?_, fun h => ?_⟩
  · have k := Int.mul_le_mul_of_nonneg_right (show m (b + 2) x + 1 ≤ m b 1 by omega) (show 0 ≤ m b 0 by omega)
    rw [zadd_mul] at k
    omega
  · have k := Int.mul_nonneg r0 (show 0 ≤ m b 0 by omega)
    omega
  · have k := Int.mul_le_mul_of_nonneg_right (show m (b + 2) x + 1 + 1 ≤ m b 1 by omega) (show 0 ≤ m b 0 by omega)
    rw [zadd_mul, zadd_mul] at k
    omega
  · have k := Int.mul_le_mul_of_nonneg_right (show 1 ≤ m (b + 2) x by omega) (show 0 ≤ m b 0 by omega)
    omega
def zshp (m : zu_m) (a W H n : Int) : Prop := ∀ i, 0 ≤ i → i < n → (0 ≤ m (a + 1) i ∧ m (a + 1) i < W ∧ 0 ≤ m (a + 2) i ∧ m (a + 2) i < H ∧ i = m (a + 2) i * W + m (a + 1) i)
theorem zshp_0 (m : zu_m) (a W H : Int) : zshp m a W H 0 := fun i h0 h1 => by omega
theorem zshp_s {m m1 m2 : zu_m} {a W H c p x y n : Int} (h1 : zu_up m (a + 1) c x = m1) (h2 : zu_up m1 (a + 2) p y = m2) (hp : p = c) (hc : c = y * W + x) (x0 : 0 ≤ x) (x1 : x < W) (y0 : 0 ≤ y) (y1 : y < H) (h : zshp m a W H c) (hn : n = c + 1) : zshp m2 a W H n := fun i i0 i1 => by
  subst hp
  by_cases e : i = p
  · subst e
    rw [zs_ne h2 (Or.inl (by omega)), zs_eq h1, zs_eq h2]
    exact ⟨x0, x1, y0, y1, hc⟩
  · rw [zs_ne h2 (Or.inl (by omega)), zs_ne h1 (Or.inr e), zs_ne h2 (Or.inr e), zs_ne h1 (Or.inl (by omega))]
    exact h i i0 (by omega)
theorem zshp_y {c y W x y' : Int} (h : c = y * W + x) (hx : x = W) (hy : y' = y + 1) : c = y' * W := by
  rw [hy, zadd_mul]
  omega
theorem zshp_5 {y W : Int} (h0 : 0 ≤ y) (h5 : y ≤ 5) (hW : 0 ≤ W) : 0 ≤ y * W ∧ y * W ≤ 5 * W := ⟨Int.mul_nonneg h0 hW, Int.mul_le_mul_of_nonneg_right h5 hW⟩
theorem zshp_c {x y a b : Int} (hx : x = a) (hy : y = b) (h1 : 1 ≤ a) (h2 : a ≤ 8) (h3 : 1 ≤ b) (h4 : b ≤ 6) : zu_w32 (x * y) = a * b := by
  subst hx
  subst hy
  have h := zmul_bd (x := x) (y := y) (a := 1) (b := 1) (A := 8) (B := 6) (by omega) h1 h2 (by omega) h3 h4
  exact zu_w32_id (by omega) (by omega)
theorem zgeo_of {m : zu_m} {a W H n y : Int} (h0 : m a 0 = W) (h1 : m a 1 = H) (h2 : m a 2 = W * H) (hn : n = y * W) (hy : y = H) (h : zshp m a W H n) : zgeo m a := by
  subst hy
  subst h0
  refine ⟨by rw [h2, h1], fun i i0 i1 => ?_⟩
  rw [h1]
  exact h i i0 (by rw [hn, Int.mul_comm, ← h2]; exact i1)
def zE (m : zu_m) (M P : Int) : Prop := ∀ c, 0 ≤ c → c < 4 → c < m M 4 → m (M + 2 + 20 + c) 1 < m P 2
theorem zE_rd {m : zu_m} {M N P c A : Int} (h : zE m M P) (e : N = M) (h0 : 0 ≤ c) (h4 : c < 4) (h1 : c < m N 4) (hA : A = N + 2 + 20 + c) : m A 1 < m P 2 := by
  subst e
  subst hA
  exact h c h0 h4 h1
theorem zE_up {m m' : zu_m} {M P A V : Int} (hm : zu_up m A 1 V = m') (hV : V < m P 2) (h : zE m M P) : zE m' M P := fun c h0 h4 h1 => by
  rw [zs_ne hm (Or.inr (by decide))] at h1
  rw [zs_ne hm (Or.inr (show (2 : Int) ≠ 1 by decide))]
  by_cases e : M + 2 + 20 + c = A
  · rw [e, zs_eq hm]; exact hV
  · rw [zs_ne hm (Or.inl e)]; exact h c h0 h4 h1
theorem zE_zero {m : zu_m} {M N P : Int} (e : N = M) (h : m N 4 ≤ 0) : zE m M P := fun c h0 _ h1 => by
  subst e
  omega
theorem zE_inc {m m' : zu_m} {M N P k A : Int} (e : N = M) (hm : zu_up m N 4 k = m') (h : zE m M P) (hk : k = m N 4 + 1) (hA : A = N + 2 + 20 + m N 4) (hV : m A 1 < m P 2) (hP : P ≠ N) : zE m' M P := fun c h0 h4 h1 => by
  subst e
  rw [zs_eq hm] at h1
  rw [zs_ne hm (Or.inl hP), zs_ne hm (Or.inr (by decide))]
  by_cases ec : c = m N 4
  · rw [ec, ← hA]; exact hV
  · exact h c h0 h4 (by omega)
theorem zE_P {m : zu_m} {M P Q : Int} (h : zE m M P) (e : m Q 2 = m P 2) : zE m M Q := fun c h0 h4 h1 => by
  rw [e]
  exact h c h0 h4 h1
theorem zE_M {m : zu_m} {M N P : Int} (h : zE m M P) (e : N = M) : zE m N P := e ▸ h
def zcc (m0 m : zu_m) (a b x : Int) : Prop := ∀ c, 0 ≤ c → c < x → m (a + 2 + 20 + c) 1 = m0 (b + 2 + 20 + c) 1
theorem zcc_0 (m0 m : zu_m) (a b : Int) : zcc m0 m a b 0 := fun c h0 h1 => by omega
theorem zcc_s {m0 mo m2 : zu_m} {a b x y A B : Int} (h : zcc m0 mo a b x) (h1 : m2 A 1 = mo B 1) (h2 : mo B 1 = m0 B 1) (h3 : ∀ d, d ≠ A → m2 d 1 = mo d 1) (hA : A = a + 2 + 20 + x) (hB : B = b + 2 + 20 + x) (hy : y = x + 1) : zcc m0 m2 a b y := fun c h0 hc => by
  by_cases e : c = x
  · subst e
    rw [← hA, ← hB, h1, h2]
  · rw [h3 _ (by omega)]
    exact h c h0 (by omega)
theorem zcc_mv {m0 m m' : zu_m} {a b x : Int} (h : zcc m0 m a b x) (hx : x ≤ 4) (e : ∀ c, 0 ≤ c → c < 4 → m' (a + 2 + 20 + c) 1 = m (a + 2 + 20 + c) 1) : zcc m0 m' a b x := fun c h0 h1 => (e c h0 (by omega)).trans (h c h0 h1)
theorem zcc_x {m0 m : zu_m} {a b x y : Int} (h : zcc m0 m a b x) (e : y ≤ x) : zcc m0 m a b y := fun c h0 h1 => h c h0 (by omega)
theorem zE_cp {m0 m : zu_m} {a b x P : Int} (h : zcc m0 m a b x) (hx : m a 4 ≤ x) (h4 : m a 4 = m0 b 4) (hP : m P 2 = m0 P 2) (hE : zE m0 b P) : zE m a P := fun c h0 hc h1 => by
  rw [h c h0 (by omega), hP]
  exact hE c h0 hc (by omega)
theorem zcell_lt {n x W H C v : Int} (hC : C = W * H) (hW : 0 ≤ W) (n0 : 0 ≤ n) (n1 : n ≤ H - 1) (x1 : x ≤ W - 1) (hv : v = n * W + x) : v < C := by
  have k := Int.mul_le_mul_of_nonneg_right (show n + 1 ≤ H by omega) hW
  rw [zadd_mul] at k
  have hc := Int.mul_comm W H
  omega
theorem zcell_lt2 {n x W H C v : Int} (hC : C = W * H) (hW : 0 ≤ W) (n0 : 0 ≤ n) (n1 : n ≤ H - 1) (x1 : x ≤ W - 1) (hv : v = W * n + x) : v < C := by
  rw [Int.mul_comm W n] at hv
  exact zcell_lt hC hW n0 n1 x1 hv
/-! the class's row of what was done -/
def zR_UW (m : zu_m) : Prop := ∀ k, 0 ≤ k → k < m 148 4 → m 149 k = 2 → m 151 k < m 50 2
def zdl (v : Int) : Int := if v = 0 then 1 else if v = 1 then -1 else 0
theorem zdl_v (v : Int) : (v = 0 → zdl v = 1) ∧ (v = 1 → zdl v = -1) ∧ (v ≠ 0 → v ≠ 1 → zdl v = 0) := by
  unfold zdl
  refine ⟨fun h => if_pos h, fun h => ?_, fun h1 h2 => ?_⟩
  · rw [if_neg (by omega), if_pos h]
  · rw [if_neg h1, if_neg h2]
def zsf (g : Int → Int) (e : Int) : Nat → Int
  | 0 => 0
  | n + 1 => zsf g e n + zdl (g (e - ((n : Int) + 1)))
theorem zsf_cg {g g' : Int → Int} {e e' : Int} : ∀ {n : Nat}, (∀ k, 1 ≤ k → k ≤ (n : Int) → g' (e' - k) = g (e - k)) → zsf g' e' n = zsf g e n
  | 0, _ => rfl
  | n + 1, h => by
    simp only [zsf]
    rw [zsf_cg (fun k h1 h2 => h k h1 (by omega)), h ((n : Int) + 1) (by omega) (by omega)]
theorem zsf_s (g : Int → Int) (e : Int) : ∀ n : Nat, zsf g (e + 1) (n + 1) = zdl (g e) + zsf g e n
  | 0 => by
    simp only [zsf]
    rw [show e + 1 - (((0 : Nat) : Int) + 1) = e by omega]
    omega
  | n + 1 => by
    rw [zsf, zsf_s g e n, zsf]
    rw [show e + 1 - (((n + 1 : Nat) : Int) + 1) = e - ((n : Int) + 1) by omega]
    omega
def zUN (m : zu_m) (s : Int) : Prop := ∀ n : Nat, (n : Int) ≤ m 148 4 → 0 ≤ m 89 2 + s - zsf (m 149) (m 148 4) n ∧ m 89 2 + s - zsf (m 149) (m 148 4) n ≤ 16
def zR_UN (m : zu_m) : Prop := zUN m 0
theorem zUN_zero {m : zu_m} {a : Int} (e : a = 148) (h : m a 4 ≤ 0) (h1 : 0 ≤ m 89 2 ∧ m 89 2 ≤ 16) : zR_UN m := fun n hn => by
  subst e
  have : n = 0 := by omega
  subst this
  simp only [zsf]
  omega
theorem zUW_zero {m : zu_m} {a : Int} (e : a = 148) (h : m a 4 ≤ 0) : zR_UW m := fun k h0 h1 => by
  subst e
  omega
theorem zUN_mv {m m' : zu_m} {a s s' : Int} (h : zUN m s) (e : a = 148) (e9 : ∀ p, m' 149 p = m 149 p) (e4 : m' a 4 = m a 4) (hs : m' 89 2 + s' = m 89 2 + s) : zUN m' s' := fun n hn => by
  subst e
  rw [e4] at hn
  have h1 := h n hn
  rw [e4, show m' 149 = m 149 from funext e9]
  omega
theorem zUN_bd {m : zu_m} {a s : Int} (h : zUN m s) (e : a = 148) (h0 : 0 ≤ m a 4) : 0 ≤ m 89 2 + s ∧ m 89 2 + s ≤ 16 := by
  subst e
  have h1 := h 0 (by omega)
  simp only [zsf] at h1
  omega
theorem zUN_cast {m : zu_m} {s : Int} (h : zUN m s) (e : s = 0) : zR_UN m := by
  subst e
  exact h
/-- one more thing done -/
theorem zUN_note {m m1 m2 m3 m4 m5 : zu_m} {a p1 p2 p3 p4 d w c k v s : Int} (e : a = 148) (h1 : zu_up m 149 p1 d = m1) (h2 : zu_up m1 150 p2 w = m2) (h3 : zu_up m2 151 p3 c = m3) (h4 : zu_up m3 152 p4 k = m4) (h5 : zu_up m4 a 4 v = m5) (hp : p1 = m a 4) (hv : v = m a 4 + 1) (h : zUN m s) (hb : 0 ≤ m 89 2 + s + zdl d ∧ m 89 2 + s + zdl d ≤ 16) : zUN m5 (s + zdl d) := fun n hn => by
  subst e
  have e4 : m5 148 4 = m 148 4 + 1 := by rw [zs_eq h5]; exact hv
  have e2 : m5 89 2 = m 89 2 := by rw [zs_ne h5 (Or.inl (by decide)), zs_ne h4 (Or.inl (by decide)), zs_ne h3 (Or.inl (by decide)), zs_ne h2 (Or.inl (by decide)), zs_ne h1 (Or.inl (by decide))]
  have e9 : ∀ q, m5 149 q = m1 149 q := fun q => by rw [zs_ne h5 (Or.inl (by decide)), zs_ne h4 (Or.inl (by decide)), zs_ne h3 (Or.inl (by decide)), zs_ne h2 (Or.inl (by decide))]
  rw [e4] at hn
  rw [e4, e2, show m5 149 = m1 149 from funext e9]
  cases n with
  | zero => simp only [zsf]; omega
  | succ n =>
    rw [zsf_s, ← hp, zs_eq h1, zsf_cg (g := m 149) (e := p1) (n := n) (fun k h1' _ => zs_ne h1 (Or.inr (by omega)))]
    have := h n (by omega)
    rw [← hp] at this
    omega
theorem zUW_note {m m1 m2 m3 m4 m5 : zu_m} {a p1 p2 p3 p4 d w c k v : Int} (e : a = 148) (h1 : zu_up m 149 p1 d = m1) (h2 : zu_up m1 150 p2 w = m2) (h3 : zu_up m2 151 p3 c = m3) (h4 : zu_up m3 152 p4 k = m4) (h5 : zu_up m4 a 4 v = m5) (hp : p1 = m a 4) (hp3 : p3 = m a 4) (hv : v = m a 4 + 1) (h : zR_UW m) (hb : d = 2 → c < m 50 2) : zR_UW m5 := fun i i0 i1 i2 => by
  subst e
  rw [zs_eq h5, hv] at i1
  have e5 : m5 50 2 = m 50 2 := by rw [zs_ne h5 (Or.inl (by decide)), zs_ne h4 (Or.inl (by decide)), zs_ne h3 (Or.inl (by decide)), zs_ne h2 (Or.inl (by decide)), zs_ne h1 (Or.inl (by decide))]
  rw [zs_ne h5 (Or.inl (by decide)), zs_ne h4 (Or.inl (by decide)), zs_ne h3 (Or.inl (by decide)), zs_ne h2 (Or.inl (by decide))] at i2
  rw [zs_ne h5 (Or.inl (by decide)), zs_ne h4 (Or.inl (by decide)), e5]
  by_cases ei : i = m 148 4
  · subst ei
    rw [← hp, zs_eq h1] at i2
    rw [← hp3, zs_eq h3]
    exact hb i2
  · rw [zs_ne h1 (Or.inr (by omega))] at i2
    rw [zs_ne h3 (Or.inr (by omega)), zs_ne h2 (Or.inl (by decide)), zs_ne h1 (Or.inl (by decide))]
    exact h i i0 (by omega) i2
/-- rows moved down by one -/
def zdr (m0 m : zu_m) (A x : Int) : Prop := (∀ k, 0 ≤ k → k < x - 1 → m A k = m0 A (k + 1)) ∧ (∀ k, x - 1 ≤ k → m A k = m0 A k)
theorem zdr_0 {m0 : zu_m} {A x : Int} (h : x = 1) : zdr m0 m0 A x := ⟨fun k h0 h1 => by omega, fun _ _ => rfl⟩
theorem zdr_mv {m0 m m' : zu_m} {A x : Int} (h : zdr m0 m A x) (e : ∀ p, m' A p = m A p) : zdr m0 m' A x := ⟨fun k h0 h1 => (e k).trans (h.1 k h0 h1), fun k h0 => (e k).trans (h.2 k h0)⟩
theorem zdr_s {m0 m m' : zu_m} {A x y p v : Int} (hm : zu_up m A p v = m') (hp : p = x - 1) (hv : v = m A x) (hy : y = x + 1) (h : zdr m0 m A x) : zdr m0 m' A y := by
  subst hy
  subst hp
  refine ⟨fun k h0 h1 => ?_, fun k h1 => ?_⟩
  · by_cases e : k = x - 1
    · subst e
      rw [zs_eq hm, hv, h.2 x (by omega), show x - 1 + 1 = x by omega]
    · rw [zs_ne hm (Or.inr e)]; exact h.1 k h0 (by omega)
  · rw [zs_ne hm (Or.inr (by omega))]; exact h.2 k (by omega)
theorem zUN_drop {m0 m m' : zu_m} {a s x v : Int} (e : a = 148) (c1 : zdr m0 m 149 x) (e4 : m a 4 = m0 a 4) (e2 : m 89 2 = m0 89 2) (hx : m a 4 ≤ x) (hm : zu_up m a 4 v = m') (hv : v = m a 4 - 1) (h : zUN m0 s) : zUN m' s := fun n hn => by
  subst e
  rw [zs_eq hm, hv] at hn
  have h1 := h n (by omega)
  rw [zs_eq hm, hv, zs_ne hm (Or.inl (by decide)), e2, show m' 149 = m 149 from funext (fun q => zs_ne hm (Or.inl (by decide)))]
  rw [zsf_cg (g := m0 149) (e := m0 148 4) (n := n) (fun k k1 k2 => by
    rw [c1.1 _ (by omega) (by omega)]
    congr 1
    omega)]
  exact h1
theorem zUW_drop {m0 m m' : zu_m} {a x v : Int} (e : a = 148) (c1 : zdr m0 m 149 x) (c3 : zdr m0 m 151 x) (e4 : m a 4 = m0 a 4) (e5 : m 50 2 = m0 50 2) (hx : m a 4 ≤ x) (hm : zu_up m a 4 v = m') (hv : v = m a 4 - 1) (h : zR_UW m0) : zR_UW m' := fun i i0 i1 i2 => by
  subst e
  rw [zs_eq hm, hv] at i1
  rw [zs_ne hm (Or.inl (by decide)), c1.1 i i0 (by omega)] at i2
  rw [zs_ne hm (Or.inl (by decide)), zs_ne hm (Or.inl (by decide)), c3.1 i i0 (by omega), e5]
  exact h (i + 1) (by omega) (by omega) i2
theorem zUN_pop {m m' : zu_m} {a s v w : Int} (e : a = 148) (hm : zu_up m a 4 v = m') (hv : v = m a 4 - 1) (h0 : 0 ≤ v) (h : zUN m s) (hw : w = m 149 v) : zUN m' (s - zdl w) := fun n hn => by
  subst e
  rw [zs_eq hm] at hn
  have h1 := h (n + 1) (by omega)
  rw [show m 148 4 = v + 1 by omega, zsf_s, ← hw] at h1
  rw [zs_eq hm, zs_ne hm (Or.inl (by decide)), show m' 149 = m 149 from funext (fun q => zs_ne hm (Or.inl (by decide)))]
  omega
theorem zUW_pop {m m' : zu_m} {a v : Int} (e : a = 148) (hm : zu_up m a 4 v = m') (hv : v ≤ m a 4) (h : zR_UW m) : zR_UW m' := fun i i0 i1 i2 => by
  subst e
  rw [zs_eq hm] at i1
  rw [zs_ne hm (Or.inl (by decide))] at i2
  rw [zs_ne hm (Or.inl (by decide)), zs_ne hm (Or.inl (by decide))]
  exact h i i0 (by omega) i2
theorem zUW_rd {m : zu_m} {a v : Int} (e : a = 148) (h : zR_UW m) (h0 : 0 ≤ v) (h1 : v < m a 4) : m 149 v = 2 → m 151 v < m 50 2 := by
  subst e
  exact h v h0 h1
/-! the reference -/
def zR_LR (m : zu_m) : Prop := m 190 4 ≠ 0 ∨ ∀ i, 4 ≤ i → i < 8 → m 205 i = 1 → 1 ≤ m 207 i
def zR_LT (m : zu_m) : Prop := ∀ i, 0 ≤ i → i < 4 → m 205 i = 1 → 1 ≤ m 207 i
theorem zLR_wr {m m' : zu_m} {a v : Int} (e : a = 190) (hm : zu_up m a 4 v = m') (hv : v ≠ 0) : zR_LR m' := Or.inl (by subst e; rw [zs_eq hm]; exact hv)
theorem zLR_pl {m : zu_m} {x : Int} (h : ∀ i, 4 ≤ i → i < x → m 205 i = 0) (hx : 8 ≤ x) : zR_LR m := Or.inr (fun i h0 h1 h2 => by
  have := h i h0 (by omega)
  omega)
theorem zLR_law {mo m1 mb m2 : zu_m} {a k V : Int} (e : a = 190) (h : zR_LR mo) (hf : mo a 4 = 0) (h1 : zu_up mo 205 k 1 = m1) (e5 : ∀ p, mb 205 p = m1 205 p) (e7 : ∀ p, mb 207 p = m1 207 p) (h2 : zu_up mb 207 k V = m2) (hv : m2 a 4 ≠ 0 ∨ 1 ≤ V) : zR_LR m2 := by
  subst e
  rcases hv with hv | hv
  · exact Or.inl hv
  · refine Or.inr (fun i h0 h8 hi => ?_)
    rcases h with h | h
    · exact absurd hf h
    · by_cases ei : i = k
      · subst ei
        rw [zs_eq h2]; exact hv
      · rw [zs_ne h2 (Or.inl (by decide)), e5, zs_ne h1 (Or.inr ei)] at hi
        rw [zs_ne h2 (Or.inr ei), e7, zs_ne h1 (Or.inl (by decide))]
        exact h i h0 h8 hi
theorem zLR_lo {m m' : zu_m} {k v : Int} (hm : zu_up m 205 k v = m') (hk : k < 4) (h : zR_LR m) : zR_LR m' := by
  rcases h with h | h
  · exact Or.inl (by rw [zs_ne hm (Or.inl (by decide))]; exact h)
  · refine Or.inr (fun i h0 h8 hi => ?_)
    rw [zs_ne hm (Or.inr (by omega))] at hi
    rw [zs_ne hm (Or.inl (by decide))]
    exact h i h0 h8 hi
theorem zLT_h5 {m m' : zu_m} {k v : Int} (hm : zu_up m 205 k v = m') (hk : 4 ≤ k) (h : zR_LT m) : zR_LT m' := fun i h0 h4 hi => by
  rw [zs_ne hm (Or.inr (by omega))] at hi
  rw [zs_ne hm (Or.inl (by decide))]
  exact h i h0 h4 hi
theorem zLT_h7 {m m' : zu_m} {k v : Int} (hm : zu_up m 207 k v = m') (hk : 4 ≤ k) (h : zR_LT m) : zR_LT m' := fun i h0 h4 hi => by
  rw [zs_ne hm (Or.inl (by decide))] at hi
  rw [zs_ne hm (Or.inr (by omega))]
  exact h i h0 h4 hi
theorem zLT_keep {mh mb m2 : zu_m} {a x : Int} (ea : a = 190) (hc : ∀ k, 0 ≤ k → k < x → mh 205 k = mh 205 (4 + k)) (hx : 4 ≤ x) (e5 : ∀ p, mb 205 p = mh 205 p) (c : zcpl mb m2 207 4 4) (e2 : ∀ p, m2 205 p = mb 205 p) (hf : mb a 4 = 0) (h : zR_LR mb) : zR_LT m2 := fun i h0 h4 hi => by
  subst ea
  rw [e2, e5, hc i h0 (by omega), ← e5] at hi
  rcases h with h | h
  · exact absurd hf h
  · have := h (4 + i) (by omega) (by omega) hi
    rw [c.1 i h0 (by omega)]
    exact this
theorem zLT_rd {m : zu_m} {i : Int} (h : zR_LT m) (h0 : 0 ≤ i) (h4 : i < 4) : m 205 i = 1 → 1 ≤ m 207 i := h i h0 h4
def zrow (m : zu_m) (A i : Int) : Prop := m 190 14 ≤ m A i ∧ ∀ c, 0 ≤ c → c < 4 → c < m 190 15 → m A (i + 2 + c) < m 190 12 * m 190 13
def zE1 (m : zu_m) (b : Int) : Prop := ∀ c, 0 ≤ c → c < 4 → c < m 190 15 → m 217 (4 * b + c) < m 190 12 * m 190 13
def zR_C0 (m : zu_m) : Prop := ∀ c, 0 ≤ c → c < 4 → c < m 190 15 → m 201 c < m 190 12 * m 190 13
def zR_CR (m : zu_m) : Prop := (m 190 23 = 0 → m 190 20 = 0) ∧ ∀ c, 0 ≤ c → c < 4 → c < m 190 20 → m 201 (4 + c) < m 190 17 * m 190 18
def zR_TE (m : zu_m) : Prop := m 190 14 ≤ m 216 0
def zR_RU (m : zu_m) : Prop := ∀ r, 0 ≤ r → r < 20 → r < m 190 81 → zrow m 228 (22 * r)
def zR_RI (m : zu_m) : Prop := m 190 83 = 1 → zrow m 229 0
theorem zE1_rd {m : zu_m} {a b c i : Int} (h : zE1 m b) (e : a = 190) (h0 : 0 ≤ c) (h4 : c < 4) (hl : c < m a 15) (hi : i = 4 * b + c) : m 217 i < m a 12 * m a 13 := by
  subst e
  subst hi
  exact h c h0 h4 hl
theorem zE1_up {m m' : zu_m} {a b j V : Int} (hm : zu_up m 217 j V = m') (e : a = 190) (hV : (∀ c, 0 ≤ c → c < 4 → c < m a 15 → j = 4 * b + c → V < m a 12 * m a 13)) (h : zE1 m b) : zE1 m' b := fun c h0 h4 hl => by
  subst e
  rw [zs_ne hm (Or.inl (by decide))] at hl
  rw [zs_ne hm (Or.inl (show (190 : Int) ≠ 217 by decide)), zs_ne hm (Or.inl (show (190 : Int) ≠ 217 by decide))]
  by_cases ej : 4 * b + c = j
  · rw [ej, zs_eq hm]; exact hV c h0 h4 hl ej.symm
  · rw [zs_ne hm (Or.inr ej)]; exact h c h0 h4 hl
/-- the places 4 b .. of the row `stands` filled up to x -/
def zE1p (m : zu_m) (b x : Int) : Prop := ∀ c, 0 ≤ c → c < x → c < m 190 15 → m 217 (4 * b + c) < m 190 12 * m 190 13
theorem zE1p_0 (m : zu_m) (b : Int) : zE1p m b 0 := fun c h0 h1 => by omega
theorem zE1p_s {m m' : zu_m} {a b j V x y : Int} (hm : zu_up m 217 j V = m') (e : a = 190) (hj : j = 4 * b + x) (hy : y = x + 1) (hV : x < m a 15 → V < m a 12 * m a 13) (h : zE1p m b x) : zE1p m' b y := fun c h0 h4 hl => by
  subst e
  rw [zs_ne hm (Or.inl (by decide))] at hl
  rw [zs_ne hm (Or.inl (show (190 : Int) ≠ 217 by decide)), zs_ne hm (Or.inl (show (190 : Int) ≠ 217 by decide))]
  by_cases ej : c = x
  · subst ej
    rw [← hj, zs_eq hm]; exact hV hl
  · rw [zs_ne hm (Or.inr (by omega))]; exact h c h0 (by omega) hl
theorem zE1p_mv {m m' : zu_m} {b x y : Int} (h : zE1p m b x) (e : ∀ p, m' 217 p = m 217 p) (e5 : m' 190 15 = m 190 15) (e2 : m' 190 12 = m 190 12) (e3 : m' 190 13 = m 190 13) (hy : y ≤ x) : zE1p m' b y := fun c h0 h4 hl => by
  rw [e, e2, e3]
  exact h c h0 (by omega) (by omega)
theorem zE1_of {m : zu_m} {b x : Int} (h : zE1p m b x) (hx : 4 ≤ x) : zE1 m b := fun c h0 h4 hl => h c h0 (by omega) hl
theorem zC0_rd {m : zu_m} {a c : Int} (h : zR_C0 m) (e : a = 190) (h0 : 0 ≤ c) (h4 : c < 4) : c < m a 15 → m 201 c < m a 12 * m a 13 := by
  subst e
  exact h c h0 h4
theorem zTE_rd {m : zu_m} {a : Int} (h : zR_TE m) (e : a = 190) : m a 14 ≤ m 216 0 := by
  subst e
  exact h
theorem zTE_of {m : zu_m} {a : Int} (e : a = 190) (h : m a 14 ≤ m 216 0) : zR_TE m := by
  subst e
  exact h
theorem zC0_keep {mb m2 : zu_m} {a : Int} (e : a = 190) (c : zcpl mb m2 201 4 4) (h : zR_CR mb) (e1 : m2 a 12 = mb a 17) (e2 : m2 a 13 = mb a 18) (e3 : m2 a 15 = mb a 20) : zR_C0 m2 := fun i h0 h4 hl => by
  subst e
  rw [c.1 i h0 (by omega), e1, e2]
  exact h.2 i h0 h4 (by omega)
theorem zCR_keep {mb m2 : zu_m} {a : Int} (e : a = 190) (c : zcpl mb m2 201 4 4) (h : zR_CR mb) (e1 : m2 a 17 = mb a 17) (e2 : m2 a 18 = mb a 18) (e3 : m2 a 20 = mb a 20) (e4 : m2 a 23 = mb a 23) : zR_CR m2 := by
  subst e
  refine ⟨by rw [e3, e4]; exact h.1, fun i h0 h4 hl => ?_⟩
  rw [c.2 (4 + i) (by omega), e1, e2]
  exact h.2 i h0 h4 (by omega)
theorem zCR_zero {m : zu_m} {a : Int} (e : a = 190) (h : m a 20 ≤ 0) (h1 : 0 ≤ m a 20) : zR_CR m := by
  subst e
  exact ⟨fun _ => by omega, fun c h0 _ hl => by omega⟩
theorem zCR_cells {m m' : zu_m} {a v : Int} (e : a = 190) (hm : zu_up m a 23 v = m') (hv : v = 1) (h : zR_CR m) : zR_CR m' := by
  subst e
  refine ⟨fun h1 => ?_, fun c h0 h4 hl => ?_⟩
  · rw [zs_eq hm] at h1
    omega
  · rw [zs_ne hm (Or.inr (by decide))] at hl
    rw [zs_ne hm (Or.inl (by decide)), zs_ne hm (Or.inr (by decide)), zs_ne hm (Or.inr (by decide))]
    exact h.2 c h0 h4 hl
theorem zCR_hi {m m' : zu_m} {a p v : Int} (e : a = 190) (hm : zu_up m 201 p v = m') (hp : p = 4 + m a 20) (h : zR_CR m) : zR_CR m' := by
  subst e
  refine ⟨by rw [zs_ne hm (Or.inl (by decide)), zs_ne hm (Or.inl (by decide))]; exact h.1, fun c h0 h4 hl => ?_⟩
  rw [zs_ne hm (Or.inl (by decide))] at hl
  rw [zs_ne hm (Or.inr (by omega)), zs_ne hm (Or.inl (by decide)), zs_ne hm (Or.inl (by decide))]
  exact h.2 c h0 h4 hl
theorem zCR_inc {m m' : zu_m} {a v p : Int} (e : a = 190) (hm : zu_up m a 20 v = m') (hv : v = m a 20 + 1) (h3 : m a 23 = 1) (hp : p = 4 + m a 20) (hV : m 201 p < m a 17 * m a 18) (h : zR_CR m) : zR_CR m' := by
  subst e
  refine ⟨fun h1 => ?_, fun c h0 h4 hl => ?_⟩
  · rw [zs_ne hm (Or.inr (by decide))] at h1
    omega
  · rw [zs_eq hm, hv] at hl
    rw [zs_ne hm (Or.inl (by decide)), zs_ne hm (Or.inr (by decide)), zs_ne hm (Or.inr (by decide))]
    by_cases ec : c = m 190 20
    · rw [ec, ← hp]; exact hV
    · exact h.2 c h0 h4 (by omega)
theorem zCR_ap {m : zu_m} {a : Int} (e : a = 190) (h : zR_CR m) : m a 23 = 0 → m a 20 = 0 := by
  subst e
  exact h.1
theorem zprod {m m' : zu_m} {a : Int} (e1 : m' a 12 = m a 12) (e2 : m' a 13 = m a 13) : m' a 12 * m' a 13 = m a 12 * m a 13 := by rw [e1, e2]
theorem zprod2 {m m' : zu_m} {a : Int} (e1 : m' a 17 = m a 17) (e2 : m' a 18 = m a 18) : m' a 17 * m' a 18 = m a 17 * m a 18 := by rw [e1, e2]
theorem zwk {W H W0 H0 a : Int} (e1 : W = W0) (e2 : H = H0) (hW : 1 ≤ W) (h0 : 0 ≤ a) (h : a < W0 * H0) : 0 ≤ Int.tdiv a W ∧ Int.tdiv a W ≤ H - 1 ∧ 0 ≤ Int.tmod a W ∧ Int.tmod a W < W ∧ a = W * Int.tdiv a W + Int.tmod a W := by
  subst e1
  subst e2
  rw [Int.tdiv_eq_ediv_of_nonneg h0, Int.tmod_eq_emod_of_nonneg h0]
  refine ⟨Int.ediv_nonneg h0 (by omega), ?_, Int.emod_nonneg a (by omega), Int.emod_lt_of_pos a (by omega), ?_⟩
  · have : a / W < H := Int.ediv_lt_of_lt_mul (by omega) (by rw [Int.mul_comm]; exact h)
    omega
  · have := Int.emod_add_mul_ediv a W
    omega
theorem zwk_lt {W H y x : Int} (hW : 0 ≤ W) (hy : y ≤ H - 1) (hx : x ≤ W - 1) : W * y + x < W * H := by
  have k := Int.mul_le_mul_of_nonneg_left (show y + 1 ≤ H by omega) hW
  rw [Int.mul_add] at k
  omega
theorem zwk_ne {W a b : Int} (h : a ≠ b) (e : Int.tmod a W = Int.tmod b W) (ha : a = W * Int.tdiv a W + Int.tmod a W) (hb : b = W * Int.tdiv b W + Int.tmod b W) : Int.tdiv a W ≠ Int.tdiv b W := fun e2 => h (by rw [ha, hb, e, e2])
theorem zrow_te {m : zu_m} {a A i : Int} (h : zrow m A i) (e : a = 190) : m a 14 ≤ m A i := by
  subst e
  exact h.1
theorem zrow_rd {m : zu_m} {a A i c j : Int} (h : zrow m A i) (e : a = 190) (h0 : 0 ≤ c) (h4 : c < 4) (hj : j = i + 2 + c) : c < m a 15 → m A j < m a 12 * m a 13 := by
  subst e
  subst hj
  exact h.2 c h0 h4
theorem zrow_mv {m m' : zu_m} {A i j : Int} (h : zrow m A i) (e : ∀ c, 0 ≤ c → c < 6 → m' A (j + c) = m A (i + c)) (e4 : m' 190 14 = m 190 14) (e5 : m' 190 15 = m 190 15) (e2 : m' 190 12 = m 190 12) (e3 : m' 190 13 = m 190 13) : zrow m' A j := by
  refine ⟨?_, fun c h0 h4 hl => ?_⟩
  · have := e 0 (by omega) (by omega)
    rw [Int.add_zero, Int.add_zero] at this
    rw [this, e4]
    exact h.1
  · have := e (2 + c) (by omega) (by omega)
    rw [show j + (2 + c) = j + 2 + c by omega, show i + (2 + c) = i + 2 + c by omega] at this
    rw [this, e2, e3]
    exact h.2 c h0 h4 (by omega)
/-- what `put` has laid: the row's first place and the children's up to x -/
def zputp (m : zu_m) (A i x : Int) : Prop := m A i = m 216 0 ∧ ∀ c, 0 ≤ c → c < x → m A (i + 2 + c) = m 217 c
theorem zputp_s {m m' : zu_m} {A i x y j v : Int} (hm : zu_up m A j v = m') (hA : A = 228 ∨ A = 229) (hj : j = i + 2 + x) (hv : v = m 217 x) (hy : y = x + 1) (h0x : 0 ≤ x) (h : zputp m A i x) : zputp m' A i y := by
  subst hj
  refine ⟨?_, fun c h0 h1 => ?_⟩
  · rw [zs_ne hm (Or.inr (by omega)), zs_ne hm (Or.inl (by omega))]
    exact h.1
  · rw [zs_ne hm (Or.inl (show (217 : Int) ≠ A by omega))]
    by_cases ec : c = x
    · subst ec
      rw [zs_eq hm]; exact hv
    · rw [zs_ne hm (Or.inr (by omega))]; exact h.2 c h0 (by omega)
theorem zputp_hi {m m' : zu_m} {A i x j v : Int} (hm : zu_up m A j v = m') (hA : A = 228 ∨ A = 229) (hj : i + 6 ≤ j) (hx : x ≤ 4) (h : zputp m A i x) : zputp m' A i x := by
  refine ⟨?_, fun c h0 h1 => ?_⟩
  · rw [zs_ne hm (Or.inr (by omega)), zs_ne hm (Or.inl (by omega))]
    exact h.1
  · rw [zs_ne hm (Or.inl (show (217 : Int) ≠ A by omega)), zs_ne hm (Or.inr (by omega))]
    exact h.2 c h0 h1
theorem zputp_0 {m m1 m2 : zu_m} {A i j v w : Int} (h1 : zu_up m A i v = m1) (h2 : zu_up m1 A j w = m2) (hA : A = 228 ∨ A = 229) (hj : j = i + 1) (hv : v = m 216 0) : zputp m2 A i 0 := by
  refine ⟨?_, fun c h0 h1 => by omega⟩
  rw [zs_ne h2 (Or.inr (by omega)), zs_eq h1, zs_ne h2 (Or.inl (by omega)), zs_ne h1 (Or.inl (by omega))]
  exact hv
theorem zputp_x {m : zu_m} {A i x y : Int} (h : zputp m A i x) (e : y ≤ x) : zputp m A i y := ⟨h.1, fun c h0 h1 => h.2 c h0 (by omega)⟩
/-- outside a row nothing changed -/
def zout (m0 m : zu_m) (A i : Int) : Prop := ∀ p, p < i ∨ i + 22 ≤ p → m A p = m0 A p
theorem zout_s {m0 m m' : zu_m} {A i j v : Int} (hm : zu_up m A j v = m') (h1 : i ≤ j) (h2 : j < i + 22) (h : zout m0 m A i) : zout m0 m' A i := fun p hp => by
  rw [zs_ne hm (Or.inr (by omega))]
  exact h p hp
theorem zrow_put {m : zu_m} {a A i x : Int} (e : a = 190) (h : zputp m A i x) (hx : 4 ≤ x) (hT : zR_TE m) (hS : zE1 m 0) : zrow m A i := by
  refine ⟨by rw [h.1]; exact hT, fun c h0 h4 hl => ?_⟩
  rw [h.2 c h0 (by omega)]
  have := hS c h0 h4 hl
  rw [show 4 * 0 + c = c by omega] at this
  exact this
theorem zRU_zero {m : zu_m} {a : Int} (e : a = 190) (h : m a 81 ≤ 0) : zR_RU m := fun r h0 _ h1 => by
  subst e
  omega
theorem zRI_zero {m : zu_m} {a : Int} (e : a = 190) (h : m a 83 = 0) : zR_RI m := fun h1 => by
  subst e
  omega
theorem zRI_of {m : zu_m} (h : zrow m 229 0) : zR_RI m := fun _ => h
theorem zRU_rd {m : zu_m} {a r i : Int} (h : zR_RU m) (e : a = 190) (h0 : 0 ≤ r) (h1 : r < 20) (h2 : r < m a 81) (hi : i = 22 * r) : zrow m 228 i := by
  subst e
  subst hi
  exact h r h0 h1 h2
theorem zRU_dn {m m' : zu_m} {a v : Int} (e : a = 190) (hm : zu_up m a 81 v = m') (hv : v ≤ m a 81) (h : zR_RU m) : zR_RU m' := fun r h0 h1 h2 => by
  subst e
  rw [zs_eq hm] at h2
  exact zrow_mv (h r h0 h1 (by omega)) (fun c _ _ => zs_ne hm (Or.inl (by decide))) (zs_ne hm (Or.inr (by decide))) (zs_ne hm (Or.inr (by decide))) (zs_ne hm (Or.inr (by decide))) (zs_ne hm (Or.inr (by decide)))
/-- the oldest row dropped -/
theorem zRU_shift {m0 m m' : zu_m} {a v x : Int} (e : a = 190) (c : zcpl m0 m 228 22 x) (hx : 418 ≤ x) (h20 : m a 81 ≤ 20) (e81 : m a 81 = m0 a 81) (e14 : m a 14 = m0 a 14) (e15 : m a 15 = m0 a 15) (e12 : m a 12 = m0 a 12) (e13 : m a 13 = m0 a 13) (hm : zu_up m a 81 v = m') (hv : v = m a 81 - 1) (h : zR_RU m0) : zR_RU m' := fun r h0 h1 h2 => by
  subst e
  rw [zs_eq hm] at h2
  by_cases hr : r + 1 < 20
  · refine zrow_mv (h (r + 1) (by omega) hr (by omega)) (fun c' _ _ => ?_) ((zs_ne hm (Or.inr (by decide))).trans e14) ((zs_ne hm (Or.inr (by decide))).trans e15) ((zs_ne hm (Or.inr (by decide))).trans e12) ((zs_ne hm (Or.inr (by decide))).trans e13)
    rw [zs_ne hm (Or.inl (by decide)), c.1 _ (by omega) (by omega)]
    congr 1
    omega
  · omega
theorem zcpl_t {m0 m m' : zu_m} {a n x y q v : Int} (hm : zu_up m a x v = m') (hv : v = m a q) (hq : q = n + x) (hy : y = x + 1) (h : zcpl m0 m a n x) (h0 : 0 ≤ x) (hn : 0 ≤ n) : zcpl m0 m' a n y := by
  subst hy
  refine ⟨fun k h1 h2 => ?_, fun k h1 => ?_⟩
  · by_cases hk : k = x
    · subst hk
      rw [zs_eq hm, hv, hq]
      exact h.2 (n + k) (by omega)
    · rw [zs_ne hm (Or.inr hk)]
      exact h.1 k h1 (by omega)
  · rw [zs_ne hm (Or.inr (by omega))]
    exact h.2 k (by omega)
/-- a new row laid -/
theorem zRU_put {mb m2 m3 : zu_m} {a i v : Int} (e : a = 190) (hi : i = 22 * mb a 81) (ho : zout mb m2 228 i) (hr : zrow m2 228 i) (e81 : m2 a 81 = mb a 81) (e14 : m2 a 14 = mb a 14) (e15 : m2 a 15 = mb a 15) (e12 : m2 a 12 = mb a 12) (e13 : m2 a 13 = mb a 13) (hm : zu_up m2 a 81 v = m3) (hv : v = m2 a 81 + 1) (h : zR_RU mb) : zR_RU m3 := fun r h0 h1 h2 => by
  subst e
  rw [zs_eq hm] at h2
  by_cases er : r = mb 190 81
  · subst er
    rw [← hi]
    exact zrow_mv hr (fun c _ _ => zs_ne hm (Or.inl (by decide))) (zs_ne hm (Or.inr (by decide))) (zs_ne hm (Or.inr (by decide))) (zs_ne hm (Or.inr (by decide))) (zs_ne hm (Or.inr (by decide)))
  · refine zrow_mv (h r h0 h1 (by omega)) (fun c _ _ => ?_) ((zs_ne hm (Or.inr (by decide))).trans e14) ((zs_ne hm (Or.inr (by decide))).trans e15) ((zs_ne hm (Or.inr (by decide))).trans e12) ((zs_ne hm (Or.inr (by decide))).trans e13)
    rw [zs_ne hm (Or.inl (by decide))]
    exact ho _ (by omega)
/-! bits of a long -/
def zhb (h k : Int) : Bool := decide (zu_i64 3 (zu_shr h k) 1 = 1)
def zhc (h : Int) : Nat → Int
  | 0 => 0
  | n + 1 => zhc h n + (if zhb h (n : Int) = true then 1 else 0)
theorem zhc_bd (h : Int) : ∀ n : Nat, 0 ≤ zhc h n ∧ zhc h n ≤ (n : Int)
  | 0 => ⟨by simp [zhc], by simp [zhc]⟩
  | n + 1 => by
    have := zhc_bd h n
    simp only [zhc]
    split <;> omega
theorem zhc_mono (h : Int) {n k : Nat} (hn : n ≤ k) : zhc h n ≤ zhc h k := by
  induction hn with
  | refl => omega
  | step _ ih =>
    simp only [zhc]
    split <;> omega
theorem zhc_all {h : Int} : ∀ {n : Nat}, (∀ k : Int, 0 ≤ k → k < (n : Int) → zhb h k = true) → zhc h n = (n : Int)
  | 0, _ => rfl
  | n + 1, ha => by
    simp only [zhc]
    rw [zhc_all (fun k h0 h1 => ha k h0 (by omega)), if_pos (ha (n : Int) (by omega) (by omega))]
    omega
theorem zhc_one {h h' b : Int} : ∀ {n : Nat}, (n : Int) ≤ 64 → (∀ k : Int, 0 ≤ k → k < 64 → k ≠ b → zhb h' k = zhb h k) → zhc h' n ≤ zhc h n + (if b < (n : Int) ∧ 0 ≤ b then 1 else 0)
  | 0, _, _ => by
    simp only [zhc]
    split <;> omega
  | n + 1, hn, he => by
    have ih := zhc_one (n := n) (by omega) he
    simp only [zhc]
    by_cases eb : (n : Int) = b
    · rw [if_neg (by omega)] at ih
      rw [if_pos (show b < ((n + 1 : Nat) : Int) ∧ 0 ≤ b by omega)]
      split <;> split <;> omega
    · rw [he (n : Int) (by omega) (by omega) eb]
      split at ih
      · rw [if_pos (show b < ((n + 1 : Nat) : Int) ∧ 0 ≤ b by omega)]
        split <;> omega
      · rw [if_neg (show ¬ (b < ((n + 1 : Nat) : Int) ∧ 0 ≤ b) by omega)]
        split <;> omega
set_option maxRecDepth 100000 in
theorem zht : ((List.range 64).all (fun b => (List.range 64).all (fun k => Nat.beq k b || decide ((((Int64.ofInt 1 <<< ((Int32.ofInt (b : Int)).toInt64 &&& 63)) >>> ((Int32.ofInt (k : Int)).toInt64 &&& 63)) &&& Int64.ofInt 1) = 0)))) = true := by decide +kernel
theorem zh_or (x y o : Int64) (h : y &&& o = 0) : (x ||| y) &&& o = x &&& o := by
  refine Int64.toBitVec_inj.1 ?_
  refine BitVec.eq_of_getLsbD_eq (fun i hi => ?_)
  have h1 := congrArg (fun z : Int64 => z.toBitVec.getLsbD i) h
  simp only [Int64.toBitVec_and, BitVec.getLsbD_and, Int64.toBitVec_zero, BitVec.getLsbD_zero] at h1
  simp only [Int64.toBitVec_and, Int64.toBitVec_or, BitVec.getLsbD_and, BitVec.getLsbD_or]
  cases hx : x.toBitVec.getLsbD i <;> cases hy : y.toBitVec.getLsbD i <;> cases ho : o.toBitVec.getLsbD i <;> simp_all
theorem zhb_or {h b k : Int} (b0 : 0 ≤ b) (b1 : b < 64) (k0 : 0 ≤ k) (k1 : k < 64) (hne : k ≠ b) : zhb (zu_i64 4 h (zu_shl 1 b)) k = zhb h k := by
  obtain ⟨nb, rfl⟩ := Int.eq_ofNat_of_zero_le b0
  obtain ⟨nk, rfl⟩ := Int.eq_ofNat_of_zero_le k0
  have h1 := List.all_eq_true.mp (List.all_eq_true.mp zht nb (List.mem_range.mpr (by omega))) nk (List.mem_range.mpr (by omega))
  have h2 : Nat.beq nk nb = false := by
    cases e : Nat.beq nk nb with
    | false => rfl
    | true => exact absurd (congrArg Int.ofNat (Nat.eq_of_beq_eq_true e)) hne
  rw [h2, Bool.false_or] at h1
  have h3 := of_decide_eq_true h1
  unfold zhb zu_i64 zu_shr zu_shl
  simp only [xv_semL, Int64.ofInt_toInt]
  rw [Int64.shiftRight_or, zh_or _ _ _ h3]
theorem zhc_or {h b : Int} (b0 : 0 ≤ b) (b1 : b < 48) : zhc (zu_i64 4 h (zu_shl 1 b)) 48 ≤ zhc h 48 + 1 := by
  have := zhc_one (h := h) (h' := zu_i64 4 h (zu_shl 1 b)) (b := b) (n := 48) (by omega) (fun k k0 k1 hk => zhb_or b0 (by omega) k0 k1 hk)
  split at this <;> omega
theorem ztops {had best c C t : Int} (h1 : zhc had 48 ≤ t) (h2 : t < C) (hC : C ≤ 48) (hc : C ≤ c) (c0 : 0 ≤ C) (h : best < 0 → ∀ k, 0 ≤ k → k < c → zhb had k = true) : 0 ≤ best := by
  by_cases hb : 0 ≤ best
  · exact hb
  · obtain ⟨n, rfl⟩ := Int.eq_ofNat_of_zero_le c0
    have h3 := zhc_all (h := had) (n := n) (fun k k0 k1 => h (by omega) k k0 (by omega))
    have h4 := zhc_mono had (show n ≤ 48 by omega)
    omega
theorem zth_s {had b c c' : Int} (h : b < 0 → ∀ k, 0 ≤ k → k < c → zhb had k = true) (hx : b < 0 → zu_i64 3 (zu_shr had c) 1 = 1) (hc : c' = c + 1) : b < 0 → ∀ k, 0 ≤ k → k < c' → zhb had k = true := fun hb k k0 k1 => by
  by_cases e : k = c
  · subst e
    exact decide_eq_true (hx hb)
  · exact h hb k k0 (by omega)
/-! small rules -/
theorem zlt_pr {x v p q : Int} (h1 : x = v) (h2 : v < p) (h3 : q = p) : x < q := by omega
theorem zE1_upx {m m' : zu_m} {a b b' j V x : Int} (hm : zu_up m 217 j V = m') (e : a = 190) (hj : j = 4 * b' + x) (x0 : 0 ≤ x) (x4 : x < 4) (hV : x < m a 15 → V < m a 12 * m a 13) (h : zE1 m b) : zE1 m' b := zE1_up hm e (fun c h0 h4 hl hjc => hV (by omega)) h
theorem zE1_rdi {m : zu_m} {a b c i : Int} (h : zE1 m b) (e : a = 190) (h0 : 0 ≤ c) (h4 : c < 4) (hi : i = 4 * b + c) : c < m a 15 → m 217 i < m a 12 * m a 13 := fun hl => zE1_rd h e h0 h4 hl hi
theorem zE1_mv {m m' : zu_m} {b : Int} (h : zE1 m b) (e : ∀ p, m' 217 p = m 217 p) (e5 : m' 190 15 = m 190 15) (e2 : m' 190 12 = m 190 12) (e3 : m' 190 13 = m 190 13) : zE1 m' b := fun c h0 h4 hl => by
  rw [e, e2, e3]
  exact h c h0 h4 (by omega)
theorem zTE_af {m0 mo m' : zu_m} {a b V : Int} (e : a = 190) (hm : zu_up mo 216 b V = m') (hV : V = mo a 14) (e4 : mo a 14 = m0 a 14) (e6 : ∀ p, mo 216 p = m0 216 p) : (m0 a 14 ≤ m0 216 0 ∨ b = 0) → m' a 14 ≤ m' 216 0 := fun h => by
  subst e
  rw [zs_ne hm (Or.inl (by decide))]
  by_cases eb : (0 : Int) = b
  · subst eb
    rw [zs_eq hm]
    omega
  · rw [zs_ne hm (Or.inr eb), e6]
    omega
theorem zRU_pop {m m' : zu_m} {a v i : Int} (e : a = 190) (hm : zu_up m a 81 v = m') (hv : v = m a 81 - 1) (h0 : 0 ≤ v) (h1 : v < 20) (hi : i = 22 * v) (h : zR_RU m) : zrow m' 228 i := by
  subst e
  subst hi
  exact zrow_mv (h v h0 h1 (by omega)) (fun c _ _ => zs_ne hm (Or.inl (by decide))) (zs_ne hm (Or.inr (by decide))) (zs_ne hm (Or.inr (by decide))) (zs_ne hm (Or.inr (by decide))) (zs_ne hm (Or.inr (by decide)))
theorem zrow_i {m : zu_m} {A i j : Int} (h : zrow m A i) (e : j = i) : zrow m A j := e ▸ h
theorem zRI_ap {m : zu_m} {a : Int} (h : zR_RI m) (e : a = 190) (h1 : m a 83 = 1) : zrow m 229 0 := by
  subst e
  exact h h1
theorem zUW_top {m m' : zu_m} {a v i : Int} (e : a = 148) (hm : zu_up m a 4 v = m') (hv : v = m a 4 - 1) (h0 : 0 ≤ v) (hi : i = v) (h : zR_UW m) : m' 149 i = 2 → m' 151 i < m' 50 2 := by
  subst e
  subst hi
  rw [zs_ne hm (Or.inl (by decide)), zs_ne hm (Or.inl (by decide)), zs_ne hm (Or.inl (by decide))]
  exact h i h0 (by omega)
theorem zG6_at {m : zu_m} {a : Int} (h : m 6 2 = m 6 0 * m 6 1) (e : a = 6) : m a 2 = m a 0 * m a 1 := by
  subst e
  exact h
theorem zCT_ap {m : zu_m} {a : Int} (h : m 5 6 = 0 → m 19 4 = 0) (e : a = 5) (h0 : m a 6 = 0) : m 19 4 = 0 := by
  subst e
  exact h h0
theorem zCT_t {m m' : zu_m} {a v : Int} (e : a = 5) (hm : zu_up m a 6 v = m') (hv : v = 1) : m' 5 6 = 0 → m' 19 4 = 0 := fun h => by
  subst e
  rw [zs_eq hm] at h
  omega
theorem zCT_n {m : zu_m} {a : Int} (e : a = 5) (h : m a 6 ≠ 0) : m 5 6 = 0 → m 19 4 = 0 := fun h1 => by
  subst e
  exact absurd h1 h
theorem zE5_z {m m' : zu_m} {a v : Int} (e : a = 3) (hm : zu_up m a 9 v = m') (hv : v = 0) : m' 3 9 = 1 → zE m' 115 50 := fun h => by
  subst e
  rw [zs_eq hm] at h
  omega
theorem zE5_ap {m : zu_m} {a : Int} (h : m 3 9 = 1 → zE m 115 50) (e : a = 3) (h1 : m a 9 = 1) : zE m 115 50 := by
  subst e
  exact h h1

theorem zpl_s {m m' : zu_m} {x y : Int} (hm : zu_up m 205 x 0 = m') (h : ∀ i, 4 ≤ i → i < x → m 205 i = 0) (hy : y = x + 1) : ∀ i, 4 ≤ i → i < y → m' 205 i = 0 := fun i h0 h1 => by
  by_cases e : i = x
  · rw [e, zs_eq hm]
  · rw [zs_ne hm (Or.inr e)]; exact h i h0 (by omega)
theorem zk5_s {m m' : zu_m} {x y v q : Int} (hm : zu_up m 205 x v = m') (h : ∀ k, 0 ≤ k → k < x → m 205 k = m 205 (4 + k)) (hx : x < 4) (hv : v = m 205 q) (hq : q = 4 + x) (hy : y = x + 1) : ∀ k, 0 ≤ k → k < y → m' 205 k = m' 205 (4 + k) := fun k h0 h1 => by
  rw [zs_ne hm (Or.inr (show 4 + k ≠ x by omega))]
  by_cases e : k = x
  · subst e
    rw [zs_eq hm, hv, hq]
  · rw [zs_ne hm (Or.inr e)]; exact h k h0 (by omega)
theorem zC0_hi {m m' : zu_m} {k v : Int} (hm : zu_up m 201 k v = m') (hk : 4 ≤ k) (h : zR_C0 m) : zR_C0 m' := fun c h0 h4 hl => by
  rw [zs_ne hm (Or.inl (by decide))] at hl
  rw [zs_ne hm (Or.inr (by omega)), zs_ne hm (Or.inl (show (190 : Int) ≠ 201 by decide)), zs_ne hm (Or.inl (show (190 : Int) ≠ 201 by decide))]
  exact h c h0 h4 hl
theorem zR_G5_fr {m m' : zu_m} (h : ∀ (a p : Int), zin [(11, 1), (11, 2), (11, 3), (49, 0), (50, 0)] (zcls a) p = true → m' a p = m a p) (hr : zgeo m 50) : zgeo m' 50 := by
  have e0 := h 50 0 (by rw [zq_50]; rfl)
  have e1 := h 50 1 (by rw [zq_50]; rfl)
  have e2 := h 50 2 (by rw [zq_50]; rfl)
  refine ⟨by rw [e0, e1, e2]; exact hr.1, fun i i0 i1 => ?_⟩
  rw [e2] at i1
  rw [show m' (50 + 1) i = m (50 + 1) i from h 51 i (by rw [zq_51]; rfl), show m' (50 + 2) i = m (50 + 2) i from h 52 i (by rw [zq_52]; rfl), e0, e1]
  exact hr.2 i i0 i1
theorem zR_G6_fr {m m' : zu_m} (h : ∀ (a p : Int), zin [(4, 1), (4, 2), (4, 3)] (zcls a) p = true → m' a p = m a p) (hr : (m 6 2 = m 6 0 * m 6 1)) : (m' 6 2 = m' 6 0 * m' 6 1) := by
  rw [h 6 2 (by rw [zq_6]; rfl), h 6 0 (by rw [zq_6]; rfl), h 6 1 (by rw [zq_6]; rfl)]
  exact hr
theorem zcel_19 {c : Int} (h0 : 0 ≤ c) (h4 : c < 4) : zcls (19 + 2 + 20 + c) = 8 := zcls_el (k := 20) (l := 4) (a := 19 + 2) (by decide +kernel) (by decide) (c := 42) zq_21 ⟨h0, h4⟩
theorem zcel_63 {c : Int} (h0 : 0 ≤ c) (h4 : c < 4) : zcls (63 + 2 + 20 + c) = 15 := zcls_el (k := 20) (l := 4) (a := 63 + 2) (by decide +kernel) (by decide) (c := 61) zq_65 ⟨h0, h4⟩
theorem zcel_89 {c : Int} (h0 : 0 ≤ c) (h4 : c < 4) : zcls (89 + 2 + 20 + c) = 18 := zcls_el (k := 20) (l := 4) (a := 89 + 2) (by decide +kernel) (by decide) (c := 66) zq_91 ⟨h0, h4⟩
theorem zcel_164 {c : Int} (h0 : 0 ≤ c) (h4 : c < 4) : zcls (164 + 2 + 20 + c) = 27 := zcls_el (k := 20) (l := 4) (a := 164 + 2) (by decide +kernel) (by decide) (c := 96) zq_166 ⟨h0, h4⟩
theorem zcel_115 {c : Int} (h0 : 0 ≤ c) (h4 : c < 4) : zcls (115 + 2 + 20 + c) = 21 := zcls_el (k := 20) (l := 4) (a := 115 + 2) (by decide +kernel) (by decide) (c := 71) zq_117 ⟨h0, h4⟩
theorem zR_E19_fr {m m' : zu_m} (h : ∀ (a p : Int), zin [(4, 3), (6, 5), (8, 2)] (zcls a) p = true → m' a p = m a p) (hr : zE m 19 6) : zE m' 19 6 := fun c h0 h4 h1 => by
  rw [h 19 4 (by rw [zq_19]; rfl)] at h1
  rw [h 6 2 (by rw [zq_6]; rfl), h (19 + 2 + 20 + c) 1 (by rw [zcel_19 h0 h4]; rfl)]
  exact hr c h0 h4 h1
theorem zR_E63_fr {m m' : zu_m} (h : ∀ (a p : Int), zin [(11, 3), (13, 5), (15, 2)] (zcls a) p = true → m' a p = m a p) (hr : zE m 63 50) : zE m' 63 50 := fun c h0 h4 h1 => by
  rw [h 63 4 (by rw [zq_63]; rfl)] at h1
  rw [h 50 2 (by rw [zq_50]; rfl), h (63 + 2 + 20 + c) 1 (by rw [zcel_63 h0 h4]; rfl)]
  exact hr c h0 h4 h1
theorem zR_E89_fr {m m' : zu_m} (h : ∀ (a p : Int), zin [(11, 3), (16, 5), (18, 2)] (zcls a) p = true → m' a p = m a p) (hr : zE m 89 50) : zE m' 89 50 := fun c h0 h4 h1 => by
  rw [h 89 4 (by rw [zq_89]; rfl)] at h1
  rw [h 50 2 (by rw [zq_50]; rfl), h (89 + 2 + 20 + c) 1 (by rw [zcel_89 h0 h4]; rfl)]
  exact hr c h0 h4 h1
theorem zR_E164_fr {m m' : zu_m} (h : ∀ (a p : Int), zin [(11, 3), (25, 5), (27, 2)] (zcls a) p = true → m' a p = m a p) (hr : zE m 164 50) : zE m' 164 50 := fun c h0 h4 h1 => by
  rw [h 164 4 (by rw [zq_164]; rfl)] at h1
  rw [h 50 2 (by rw [zq_50]; rfl), h (164 + 2 + 20 + c) 1 (by rw [zcel_164 h0 h4]; rfl)]
  exact hr c h0 h4 h1
theorem zR_ES_fr {m m' : zu_m} (h : ∀ (a p : Int), zin [(11, 3), (19, 5), (21, 2)] (zcls a) p = true → m' a p = m a p) (hr : zE m 115 50) : zE m' 115 50 := fun c h0 h4 h1 => by
  rw [h 115 4 (by rw [zq_115]; rfl)] at h1
  rw [h 50 2 (by rw [zq_50]; rfl), h (115 + 2 + 20 + c) 1 (by rw [zcel_115 h0 h4]; rfl)]
  exact hr c h0 h4 h1
theorem zR_E115_fr {m m' : zu_m} (h : ∀ (a p : Int), zin [(2, 10), (11, 3), (19, 5), (21, 2)] (zcls a) p = true → m' a p = m a p) (hr : (m 3 9 = 1 → zE m 115 50)) : (m' 3 9 = 1 → zE m' 115 50) := fun h9 => by
  rw [h 3 9 (by rw [zq_3]; rfl)] at h9
  have hr := hr h9
  intro c h0 h4 h1
  rw [h 115 4 (by rw [zq_115]; rfl)] at h1
  rw [h 50 2 (by rw [zq_50]; rfl), h (115 + 2 + 20 + c) 1 (by rw [zcel_115 h0 h4]; rfl)]
  exact hr c h0 h4 h1
theorem zR_CT_fr {m m' : zu_m} (h : ∀ (a p : Int), zin [(3, 7), (6, 5)] (zcls a) p = true → m' a p = m a p) (hr : (m 5 6 = 0 → m 19 4 = 0)) : (m' 5 6 = 0 → m' 19 4 = 0) := by
  rw [h 5 6 (by rw [zq_5]; rfl), h 19 4 (by rw [zq_19]; rfl)]
  exact hr
theorem zR_UW_fr {m m' : zu_m} (h : ∀ (a p : Int), zin [(11, 3), (23, 5), (81, 0), (83, 0)] (zcls a) p = true → m' a p = m a p) (hr : zR_UW m) : zR_UW m' := fun k k0 k1 k2 => by
  rw [h 148 4 (by rw [zq_148]; rfl)] at k1
  rw [h 149 k (by rw [zq_149]; rfl)] at k2
  rw [h 151 k (by rw [zq_151]; rfl), h 50 2 (by rw [zq_50]; rfl)]
  exact hr k k0 k1 k2
theorem zR_UN_fr {m m' : zu_m} (h : ∀ (a p : Int), zin [(16, 3), (23, 5), (81, 0)] (zcls a) p = true → m' a p = m a p) (hr : zR_UN m) : zR_UN m' := fun n hn => by
  have e9 : m' 149 = m 149 := funext (fun i => h 149 i (by rw [zq_149]; rfl))
  have e4 := h 148 4 (by rw [zq_148]; rfl)
  have e2 := h 89 2 (by rw [zq_89]; rfl)
  rw [e4] at hn
  rw [e9, e4, e2]
  exact hr n hn
theorem zR_LR_fr {m m' : zu_m} (h : ∀ (a p : Int), zin [(28, 5), (114, 0), (116, 0)] (zcls a) p = true → m' a p = m a p) (hr : zR_LR m) : zR_LR m' := by
  rcases hr with hr | hr
  · exact Or.inl (by rw [h 190 4 (by rw [zq_190]; rfl)]; exact hr)
  · refine Or.inr (fun i h0 h8 hi => ?_)
    rw [h 205 i (by rw [zq_205]; rfl)] at hi
    rw [h 207 i (by rw [zq_207]; rfl)]
    exact hr i h0 h8 hi
theorem zR_LT_fr {m m' : zu_m} (h : ∀ (a p : Int), zin [(114, 0), (116, 0)] (zcls a) p = true → m' a p = m a p) (hr : zR_LT m) : zR_LT m' := fun i h0 h4 hi => by
  rw [h 205 i (by rw [zq_205]; rfl)] at hi
  rw [h 207 i (by rw [zq_207]; rfl)]
  exact hr i h0 h4 hi
theorem zR_SE_fr {m m' : zu_m} (h : ∀ (a p : Int), zin [(28, 13), (28, 14), (28, 16), (126, 0)] (zcls a) p = true → m' a p = m a p) (hr : zE1 m 0) : zE1 m' 0 := zE1_mv hr (fun p => h 217 p (by rw [zq_217]; rfl)) (h 190 15 (by rw [zq_190]; rfl)) (h 190 12 (by rw [zq_190]; rfl)) (h 190 13 (by rw [zq_190]; rfl))
theorem zR_S1_fr {m m' : zu_m} (h : ∀ (a p : Int), zin [(28, 13), (28, 14), (28, 16), (126, 0)] (zcls a) p = true → m' a p = m a p) (hr : zE1 m 1) : zE1 m' 1 := zE1_mv hr (fun p => h 217 p (by rw [zq_217]; rfl)) (h 190 15 (by rw [zq_190]; rfl)) (h 190 12 (by rw [zq_190]; rfl)) (h 190 13 (by rw [zq_190]; rfl))
theorem zR_EB_fr {m m' : zu_m} {a1 : Int} (h : ∀ (a p : Int), zin [(28, 13), (28, 14), (28, 16), (126, 0)] (zcls a) p = true → m' a p = m a p) (hr : zE1 m a1) : zE1 m' a1 := zE1_mv hr (fun p => h 217 p (by rw [zq_217]; rfl)) (h 190 15 (by rw [zq_190]; rfl)) (h 190 12 (by rw [zq_190]; rfl)) (h 190 13 (by rw [zq_190]; rfl))
theorem zR_C0_fr {m m' : zu_m} (h : ∀ (a p : Int), zin [(28, 13), (28, 14), (28, 16), (110, 0)] (zcls a) p = true → m' a p = m a p) (hr : zR_C0 m) : zR_C0 m' := fun c h0 h4 hl => by
  rw [h 190 15 (by rw [zq_190]; rfl)] at hl
  rw [h 201 c (by rw [zq_201]; rfl), h 190 12 (by rw [zq_190]; rfl), h 190 13 (by rw [zq_190]; rfl)]
  exact hr c h0 h4 hl
theorem zR_CR_fr {m m' : zu_m} (h : ∀ (a p : Int), zin [(28, 18), (28, 19), (28, 21), (28, 24), (110, 0)] (zcls a) p = true → m' a p = m a p) (hr : zR_CR m) : zR_CR m' := by
  refine ⟨by rw [h 190 23 (by rw [zq_190]; rfl), h 190 20 (by rw [zq_190]; rfl)]; exact hr.1, fun c h0 h4 hl => ?_⟩
  rw [h 190 20 (by rw [zq_190]; rfl)] at hl
  rw [h 201 (4 + c) (by rw [zq_201]; rfl), h 190 17 (by rw [zq_190]; rfl), h 190 18 (by rw [zq_190]; rfl)]
  exact hr.2 c h0 h4 hl
theorem zR_TE_fr {m m' : zu_m} (h : ∀ (a p : Int), zin [(28, 15), (125, 1)] (zcls a) p = true → m' a p = m a p) (hr : zR_TE m) : zR_TE m' := by
  show m' 190 14 ≤ m' 216 0
  rw [h 190 14 (by rw [zq_190]; rfl), h 216 0 (by rw [zq_216]; rfl)]
  exact hr
theorem zR_RU_fr {m m' : zu_m} (h : ∀ (a p : Int), zin [(28, 13), (28, 14), (28, 15), (28, 16), (28, 82), (137, 0)] (zcls a) p = true → m' a p = m a p) (hr : zR_RU m) : zR_RU m' := fun r h0 h1 h2 => by
  rw [h 190 81 (by rw [zq_190]; rfl)] at h2
  exact zrow_mv (hr r h0 h1 h2) (fun c _ _ => h 228 _ (by rw [zq_228]; rfl)) (h 190 14 (by rw [zq_190]; rfl)) (h 190 15 (by rw [zq_190]; rfl)) (h 190 12 (by rw [zq_190]; rfl)) (h 190 13 (by rw [zq_190]; rfl))
theorem zR_RI_fr {m m' : zu_m} (h : ∀ (a p : Int), zin [(28, 13), (28, 14), (28, 15), (28, 16), (28, 84), (138, 0)] (zcls a) p = true → m' a p = m a p) (hr : zR_RI m) : zR_RI m' := fun h9 => by
  rw [h 190 83 (by rw [zq_190]; rfl)] at h9
  exact zrow_mv (hr h9) (fun c _ _ => h 229 _ (by rw [zq_229]; rfl)) (h 190 14 (by rw [zq_190]; rfl)) (h 190 15 (by rw [zq_190]; rfl)) (h 190 12 (by rw [zq_190]; rfl)) (h 190 13 (by rw [zq_190]; rfl))
