/-! what waits falls to W1 -/
theorem zdpq_lt {w : Int → Int} {n p : Nat} (hp : p < n) (h0 : w (p : Int) = 0) : zdpq w p + 1 ≤ zdpq w n := by
  have h1 := zdpq_mn w (n' := p + 1) (n - (p + 1))
  rw [Nat.add_sub_cancel' (Nat.succ_le_of_lt hp)] at h1
  have h2 : zdpq w (p + 1) = zdpq w p + 1 := by
    show zdpq w p + (if w (p : Int) = 0 then 1 else 0) = _
    rw [if_pos h0]
  rw [h2] at h1
  exact h1
theorem zdpq_pop {w : Int → Int} {n n1 : Nat} (h : n1 ≤ n) (hr : ∀ i : Nat, n1 ≤ i → i < n → 1 ≤ zrk (w (i : Int))) : zdpq w n = zdpq w n1 := by
  have := zpop_d (w := w) (n' := n1) (n - n1) (fun i i0 i1 => hr i i0 (by rw [Nat.add_sub_cancel' h] at i1; exact i1))
  rw [Nat.add_sub_cancel' h] at this
  exact this
theorem zW4 {a b : Int} (h : a + 1 = b + 1) : a = b := by omega
theorem zN1 {a b : Int} (h : a ≤ b) : a.toNat ≤ b.toNat := by omega
theorem zN2 {a : Int} {i : Nat} (h : a.toNat ≤ i) : a ≤ (i : Int) := by omega
theorem zN3 {b : Int} {i : Nat} (h : i < b.toNat) : (i : Int) < b := by omega
theorem zN4 {b : Int} {p : Nat} (h : (p : Int) < b) : p < b.toNat := by omega
theorem zFM_pop {m t mb tb : zu_m} {W W1 b o : Int} (h : zFM m t) (hW : t 190 45 = W) (ho : t 190 47 = o) (hb : 1 ≤ b) (h0 : 0 ≤ W1) (hle : W1 ≤ W) (hall : ∀ i, W1 ≤ i → i < W → b ≤ zrk (t 211 i)) (e1 : mb 47 3 = W1) (e2 : tb 190 45 = W1) (e3 : ∀ i, tb 211 i = t 211 i) (e4 : ∀ i, mb 48 i = m 48 i) (e5 : mb 49 o = zb01 (zhq (t 211) W1.toNat)) (e6 : ∀ i, i ≠ o → mb 49 i = m 49 i) (e7 : mb 47 4 = o) (e8 : tb 190 47 = o) (e9 : mb 47 6 = tb 190 49 ∧ mb 47 7 = tb 190 50) (e10 : mb 10 5 = tb 190 48 ∧ 0 ≤ tb 190 48 ∧ tb 190 48 ≤ 64 ∧ W1 ≤ tb 190 48 + o) (e11 : tb 190 49 = 0) : zFM mb tb := by
  obtain ⟨⟨-, a2, a3, a4⟩, ⟨-, b2, b3⟩, ⟨-, c2⟩, d, -, -, -⟩ := h
  rw [hW] at a2 a3 b3 c2 d a4
  rw [ho] at b2 b3
  have f211 : tb 211 = t 211 := funext e3
  have hn : W1.toNat ≤ W.toNat := zN1 hle
  have hd : zdpq (t 211) W.toNat = zdpq (t 211) W1.toNat := zdpq_pop hn (fun i i0 i1 => Int.le_trans hb (hall (i : Int) (zN2 i0) (zN3 i1)))
  refine ⟨⟨e1.trans e2.symm, ?_, ?_, fun i i0 i1 => ?_⟩, ⟨e7.trans e8.symm, ?_, ?_⟩, ⟨?_, fun p p1 p0 => ?_⟩, ?_, e9, ⟨e10.1, e10.2.1, e10.2.2.1, ?_⟩, fun q => absurd e11 q⟩
  · rw [e2]; exact h0
  · rw [e2]; exact Int.le_trans hle a3
  · rw [e4, e3]
    rw [e2] at i1
    exact a4 i i0 (Int.lt_of_lt_of_le i1 hle)
  · rw [e8]; exact b2
  · rw [e8, f211, e2, b3, hd]
  · rw [e8, f211, e2]; exact e5
  · rw [f211] at p0 ⊢
    rw [e2] at p1
    have hp : (p : Int) < W := Int.lt_of_lt_of_le p1 hle
    have hl := zdpq_lt (w := t 211) (n := W.toNat) (p := p) (zN4 hp) p0
    rw [← b3] at hl
    rw [e6 _ (Int.ne_of_lt (Int.lt_of_lt_of_le (Int.lt_succ _) hl))]
    exact c2 p hp p0
  · rw [f211, e2]; exact zord_le hn d
  · rw [e2, e8]; exact e10.2.2.2
/-- a bracket closes: the top is its '(' -/
theorem zFM_cl {m t m' t' : zu_m} {W o : Int} (h : zFM m t) (hW : t 190 45 = W + 1) (h0 : 0 ≤ W) (hz : t 211 W = 0) (ho : t 190 47 = o + 1) (e1 : m' 47 3 = W) (e2 : t' 190 45 = W) (e3 : ∀ i, t' 211 i = t 211 i) (e4 : ∀ i, m' 48 i = m 48 i) (e5 : ∀ i, i ≠ o + 1 → m' 49 i = m 49 i) (e7 : m' 47 4 = o) (e8 : t' 190 47 = o) (e9 : m' 47 6 = t' 190 49 ∧ m' 47 7 = t' 190 50) (e10 : m' 10 5 = t' 190 48 ∧ 0 ≤ t' 190 48 ∧ t' 190 48 ≤ 64 ∧ W ≤ t' 190 48 + o) (e11 : t' 190 49 = 0) : zFM m' t' := by
  obtain ⟨⟨-, a2, a3, a4⟩, ⟨-, b2, b3⟩, ⟨-, c2⟩, d, -, -, -⟩ := h
  rw [hW] at a2 a3 b3 c2 d a4
  rw [ho] at b2 b3
  have f211 : t' 211 = t 211 := funext e3
  have ew : ((W.toNat : Nat) : Int) = W := Int.toNat_of_nonneg h0
  have en : (W + 1).toNat = W.toNat + 1 := by clear b3 c2 d a4 e1 e2 e7 e8 e9 e10 e11 a3 a2 b2; omega
  have hlt : W < W + 1 := Int.lt_succ W
  have hd : o = zdpq (t 211) W.toNat := by
    rw [en] at b3
    have h2 : zdpq (t 211) (W.toNat + 1) = zdpq (t 211) W.toNat + 1 := by
      show zdpq (t 211) W.toNat + (if t 211 (W.toNat : Int) = 0 then 1 else 0) = _
      rw [ew, if_pos hz]
    rw [h2] at b3
    exact zW4 b3
  have hn : W.toNat ≤ (W + 1).toNat := zN1 (Int.le_of_lt hlt)
  refine ⟨⟨e1.trans e2.symm, ?_, ?_, fun i i0 i1 => ?_⟩, ⟨e7.trans e8.symm, ?_, ?_⟩, ⟨?_, fun p p1 p0 => ?_⟩, ?_, e9, ⟨e10.1, e10.2.1, e10.2.2.1, ?_⟩, fun q => absurd e11 q⟩
  · rw [e2]; exact h0
  · rw [e2]; exact Int.le_trans (Int.le_of_lt hlt) a3
  · rw [e4, e3]
    rw [e2] at i1
    exact a4 i i0 (Int.lt_trans i1 hlt)
  · rw [e8]; exact Int.le_trans (Int.le_of_lt (Int.lt_succ o)) b2
  · rw [e8, f211, e2]; exact hd
  · rw [e8, f211, e2, e5 o (Int.ne_of_lt (Int.lt_succ o))]
    have := c2 W.toNat (by rw [ew]; exact hlt) (by rw [ew]; exact hz)
    rw [← hd] at this
    exact this
  · rw [f211] at p0 ⊢
    rw [e2] at p1
    have hp : (p : Int) < W + 1 := Int.lt_trans p1 hlt
    have hl := zdpq_lt (w := t 211) (n := (W + 1).toNat) (p := p) (zN4 hp) p0
    rw [← b3] at hl
    rw [e5 _ (Int.ne_of_lt (Int.lt_of_lt_of_le (Int.lt_succ _) hl))]
    exact c2 p hp p0
  · rw [f211, e2]; exact zord_le hn d
  · rw [e2, e8]; exact e10.2.2.2
/-- a sign that joins: bind leaves W1, then the sign on top -/
theorem zFM_op {m t m' t' : zu_m} {c r W W1 b o : Int} (h : zFM m t) (hW : t 190 45 = W) (ho : t 190 47 = o) (hz : zoq c r) (hr0 : r ≠ 0) (hb : 1 ≤ b) (h0 : 0 ≤ W1) (hle : W1 ≤ W) (hall : ∀ i, W1 ≤ i → i < W → b ≤ zrk (t 211 i)) (htop : W1 = 0 ∨ zrk (t 211 (W1 - 1)) < zrk r) (hc : m' 48 W1 = c) (hc' : ∀ i, i ≠ W1 → m' 48 i = m 48 i) (hr : t' 211 W1 = r) (hr' : ∀ i, i ≠ W1 → t' 211 i = t 211 i) (hW1 : m' 47 3 = W1 + 1) (hW' : t' 190 45 = W1 + 1) (h72 : W1 + 1 ≤ 72) (ho1 : m' 47 4 = o) (ho' : t' 190 47 = o) (hfl : m' 49 o = zb01 (decide (zrk r = 4) || zhq (t 211) W1.toNat)) (hfl' : ∀ i, i ≠ o → m' 49 i = m 49 i) (hw : m' 47 6 = t' 190 49 ∧ m' 47 7 = t' 190 50) (hk : m' 10 5 = t' 190 48 ∧ 0 ≤ t' 190 48 ∧ t' 190 48 ≤ 64 ∧ W1 + 1 ≤ t' 190 48 + o) (ht : t' 190 49 ≠ 0 → t' 190 50 ≠ 0 → zrk r ≤ 3) : zFM m' t' := by
  have h' := h
  obtain ⟨-, ⟨-, b2, -⟩, -, -, ⟨-, g2⟩, ⟨k1, k2, k3, k4⟩, -⟩ := h'
  rw [ho] at b2 k4
  rw [hW] at k4
  have hp := zFM_pop (mb := zu_up (zu_up (zu_up (zu_up m 47 3 W1) 49 o (zb01 (zhq (t 211) W1.toNat))) 47 6 0) 47 4 o) (tb := zu_up (zu_up (zu_up t 190 45 W1) 190 49 0) 190 47 o) h hW ho hb h0 hle hall (by simp [zu_up_app]) (by simp [zu_up_app]) (fun i => by simp [zu_up_app]) (fun i => by simp [zu_up_app]) (by simp [zu_up_app]) (fun i hi => by simp [zu_up_app, hi]) (by simp [zu_up_app]) (by simp [zu_up_app]) ⟨by simp [zu_up_app], by simp [zu_up_app, g2]⟩ ⟨by simp [zu_up_app, k1], by simp [zu_up_app, k2], by simp [zu_up_app, k3], by simp [zu_up_app]; exact Int.le_trans hle k4⟩ (by simp [zu_up_app])
  generalize hmb : zu_up (zu_up (zu_up (zu_up m 47 3 W1) 49 o (zb01 (zhq (t 211) W1.toNat))) 47 6 0) 47 4 o = mb at hp
  generalize htb : zu_up (zu_up (zu_up t 190 45 W1) 190 49 0) 190 47 o = tb at hp
  have q45 : tb 190 45 = W1 := by rw [← htb]; simp [zu_up_app]
  have q47 : tb 190 47 = o := by rw [← htb]; simp [zu_up_app]
  have q211 : ∀ i, tb 211 i = t 211 i := fun i => by rw [← htb]; simp [zu_up_app]
  have f211 : tb 211 = t 211 := funext q211
  have q48 : ∀ i, mb 48 i = m 48 i := fun i => by rw [← hmb]; simp [zu_up_app]
  have q49 : ∀ i, i ≠ o → mb 49 i = m 49 i := fun i hi => by rw [← hmb]; simp [zu_up_app, hi]
  clear hmb htb
  refine zFM_push (c := c) (r := r) hp hz ?_ ?_ ?_ ?_ ?_ ?_ ?_ ?_ ?_ (Or.inr ⟨hr0, ?_, ?_, ?_, ?_⟩) hw ?_ ht
  · rw [q45]; exact hc
  · rw [q45]; exact fun i hi => (hc' i hi).trans (q48 i).symm
  · rw [q45]; exact hr
  · rw [q45]; exact fun i hi => (hr' i hi).trans (q211 i).symm
  · rw [q45]; exact hW1
  · rw [q45]; exact hW'
  · rw [q45]; exact h72
  · exact ho1.trans ho'.symm
  · rw [ho']; exact b2
  · rw [q47]; exact ho'
  · rw [q47, q45, f211]; exact hfl
  · rw [q47]; exact fun i hi => (hfl' i hi).trans (q49 i hi).symm
  · rw [q45, f211]
    rcases htop with q | q
    · exact Or.inl q
    · exact Or.inr (Or.inl q)
  · rw [hW', ho']; exact hk
