section XSQ
variable {p : Program} {l : Launch} {e : Env} {R : Room} {s : State} {m : MethodId} {args : Array Value} {below : List Frame} {meth : Method} {c : Code} {H : Heap} {locs : List Loc} {cells slots : Nat} {Q : State → Prop}
variable {cc : ByteArray} {pc : Nat} {V : Type} {D : xv_D V} {g : V → Value → Prop} {φ : List Nat} {nL : Nat} {L L' : xv_L V} {S S' : List (xv_V V)} {ls : Array Slot} {st : List Value}
set_option maxHeartbeats 4000000 in
/-- THE INSTRUCTIONS OF LOCALS AND STACK -/
theorem xs_pure (hx : p.tables.exec = Jvm.exec) (hb : c.code = cc) {own : String} (hown : s.vm.findClass own = some m.cls) (hD : xv_ok D g) {K : xv_K}
    (hKi : ∀ (i : Nat) (v : Int32), xv_find K.2.2.2.1 i = some v → (Jvm.Cond.constant own i v).before args s = true) (hKl : ∀ (i : Nat) (v : Int64), xv_find K.2.2.2.2 i = some v → (Jvm.Cond.constantLong own i v).before args s = true)
    (hKs : ∀ (i n : Nat), xv_find K.2.2.1 i = some n → 2000 ≤ n → ∃ (tx : String) (q : Nat), vk_R own i tx q s ∧ φ[n - 2000]? = some q)
    {i : Instr} (h : xv_pure D K L S i = some (L', S')) (hdg : decode cc pc = .ok (i, xv_len i)) (hl : xr_l g φ L ls nL) (hs : xr_s g φ S st)
    (kk : ∀ (ls' : Array Slot) (st' : List Value), xr_l g φ L' ls' nL → xr_s g φ S' st' → W p l e R s m args below meth c H locs cells slots Q (F0 m (pc + xv_len i) ls' st')) :
    W p l e R s m args below meth c H locs cells slots Q (F0 m pc ls st) := by
  cases i
  all_goals (first | (simp only [xv_pure, reduceCtorEq] at h; done) | skip)

  case bipush n =>
    obtain ⟨rfl, rfl⟩ := by simpa [xv_pure] using h
    exact lv_bipush hx hb hdg rfl (kk _ _ hl ⟨_, _, rfl, ⟨_, rfl, hD.1 _⟩, hs⟩)
  case iconst n =>
    obtain ⟨rfl, rfl⟩ := by simpa [xv_pure] using h
    exact lv_iconst hx hb hdg rfl (kk _ _ hl ⟨_, _, rfl, ⟨_, rfl, hD.1 _⟩, hs⟩)
  case sipush n =>
    obtain ⟨rfl, rfl⟩ := by simpa [xv_pure] using h
    exact lv_sipush hx hb hdg rfl (kk _ _ hl ⟨_, _, rfl, ⟨_, rfl, hD.1 _⟩, hs⟩)
  case lconst n =>
    obtain ⟨rfl, rfl⟩ := by simpa [xv_pure] using h
    exact lv_lconst hx hb hdg rfl (kk _ _ hl ⟨_, _, rfl, ⟨_, rfl, hD.2.1 _⟩, hs⟩)
  case ldc n =>
    simp only [xv_pure] at h
    split at h
    · rename_i v hv
      obtain ⟨rfl, rfl⟩ := by simpa using h
      exact lv_ldc hx hb hown (hKi _ _ hv) hdg (kk _ _ hl ⟨_, _, rfl, ⟨_, rfl, hD.1 _⟩, hs⟩)
    · split at h
      · rename_i k hk
        cases h2 : Nat.ble 2000 k <;> simp only [h2, cond_true, cond_false] at h
        · cases h
        obtain ⟨rfl, rfl⟩ := by simpa using h
        obtain ⟨tx, q, hR, hq⟩ := hKs _ _ hk (Nat.le_of_ble_eq_true h2)
        exact va_ldcS hx hb hown hR hdg (kk _ _ hl ⟨_, _, rfl, ⟨q, hq, rfl⟩, hs⟩)
      · cases h
  case ldc2_w n =>
    simp only [xv_pure] at h
    split at h
    · rename_i v hv
      obtain ⟨rfl, rfl⟩ := by simpa using h
      exact lv_ldc2 hx hb hown (hKl _ _ hv) hdg (kk _ _ hl ⟨_, _, rfl, ⟨_, rfl, hD.2.1 _⟩, hs⟩)
    · cases h
  case iload_n k =>
    simp only [xv_pure] at h
    obtain ⟨rfl, v, x, rfl, h1, h2, hv⟩ := xs_ld h hl
    obtain ⟨a, rfl⟩ := hv.1 rfl
    obtain ⟨n, rfl, hn⟩ := h2
    exact lv_iload_n hx hb hdg rfl h1 (kk _ _ hl ⟨_, _, rfl, ⟨n, rfl, hn⟩, hs⟩)
  case iload k =>
    simp only [xv_pure] at h
    obtain ⟨rfl, v, x, rfl, h1, h2, hv⟩ := xs_ld h hl
    obtain ⟨a, rfl⟩ := hv.1 rfl
    obtain ⟨n, rfl, hn⟩ := h2
    exact lv_iload hx hb hdg h1 (kk _ _ hl ⟨_, _, rfl, ⟨n, rfl, hn⟩, hs⟩)
  case lload_n k =>
    simp only [xv_pure] at h
    obtain ⟨rfl, v, x, rfl, h1, h2, hv⟩ := xs_ld h hl
    obtain ⟨a, rfl⟩ := hv.2.1 rfl
    obtain ⟨n, rfl, hn⟩ := h2
    exact lv_lload_n hx hb hdg rfl h1 (kk _ _ hl ⟨_, _, rfl, ⟨n, rfl, hn⟩, hs⟩)
  case lload k =>
    simp only [xv_pure] at h
    obtain ⟨rfl, v, x, rfl, h1, h2, hv⟩ := xs_ld h hl
    obtain ⟨a, rfl⟩ := hv.2.1 rfl
    obtain ⟨n, rfl, hn⟩ := h2
    exact lv_lload hx hb hdg h1 (kk _ _ hl ⟨_, _, rfl, ⟨n, rfl, hn⟩, hs⟩)
  case aload_n k =>
    simp only [xv_pure] at h
    obtain ⟨rfl, v, x, rfl, h1, h2, hv⟩ := xs_ld h hl
    obtain ⟨a, rfl⟩ := hv.2.2 rfl
    obtain ⟨q, hq, rfl⟩ := h2
    exact lv_aload_n hx hb hdg rfl h1 (kk _ _ hl ⟨_, _, rfl, ⟨q, hq, rfl⟩, hs⟩)
  case aload k =>
    simp only [xv_pure] at h
    obtain ⟨rfl, v, x, rfl, h1, h2, hv⟩ := xs_ld h hl
    obtain ⟨a, rfl⟩ := hv.2.2 rfl
    obtain ⟨q, hq, rfl⟩ := h2
    exact lv_aload hx hb hdg h1 (kk _ _ hl ⟨_, _, rfl, ⟨q, hq, rfl⟩, hs⟩)
  case istore_n k =>
    simp only [xv_pure] at h
    obtain ⟨a, rfl, hi, rfl⟩ := xs_sto0 h
    obtain ⟨_, r, rfl, ⟨n, rfl, hn⟩, hr⟩ := hs
    obtain ⟨hL, lv, h1, h2⟩ := hl
    exact lv_istore_n hx hb hdg rfl h1 (by rw [← hL]; exact hi) rfl (fun ls' h3 => kk _ _ (xr_l_put1 hL h2 ⟨n, rfl, hn⟩ h3) hr)
  case istore k =>
    simp only [xv_pure] at h
    obtain ⟨a, rfl, hi, rfl⟩ := xs_sto0 h
    obtain ⟨_, r, rfl, ⟨n, rfl, hn⟩, hr⟩ := hs
    obtain ⟨hL, lv, h1, h2⟩ := hl
    exact lv_istore hx hb hdg h1 (by rw [← hL]; exact hi) rfl (fun ls' h3 => kk _ _ (xr_l_put1 hL h2 ⟨n, rfl, hn⟩ h3) hr)
  case lstore_n k =>
    simp only [xv_pure] at h
    obtain ⟨a, rfl, hi, rfl⟩ := xs_sto1 h
    obtain ⟨_, r, rfl, ⟨n, rfl, hn⟩, hr⟩ := hs
    obtain ⟨hL, lv, h1, h2⟩ := hl
    exact lv_lstore_n hx hb hdg rfl h1 (by rw [← hL]; exact hi) rfl (fun ls' h3 => kk _ _ (xr_l_put2 hL h2 ⟨n, rfl, hn⟩ h3) hr)
  case lstore k =>
    simp only [xv_pure] at h
    obtain ⟨a, rfl, hi, rfl⟩ := xs_sto1 h
    obtain ⟨_, r, rfl, ⟨n, rfl, hn⟩, hr⟩ := hs
    obtain ⟨hL, lv, h1, h2⟩ := hl
    exact lv_lstore hx hb hdg h1 (by rw [← hL]; exact hi) rfl (fun ls' h3 => kk _ _ (xr_l_put2 hL h2 ⟨n, rfl, hn⟩ h3) hr)
  case astore_n k =>
    simp only [xv_pure] at h
    obtain ⟨a, rfl, hi, rfl⟩ := xs_sto2 h
    obtain ⟨_, r, rfl, ⟨q, hq, rfl⟩, hr⟩ := hs
    obtain ⟨hL, lv, h1, h2⟩ := hl
    exact lv_astore_n hx hb hdg rfl h1 (by rw [← hL]; exact hi) rfl (fun ls' h3 => kk _ _ (xr_l_put1 hL h2 ⟨q, hq, rfl⟩ h3) hr)
  case astore k =>
    simp only [xv_pure] at h
    obtain ⟨a, rfl, hi, rfl⟩ := xs_sto2 h
    obtain ⟨_, r, rfl, ⟨q, hq, rfl⟩, hr⟩ := hs
    obtain ⟨hL, lv, h1, h2⟩ := hl
    exact lv_astore hx hb hdg h1 (by rw [← hL]; exact hi) rfl (fun ls' h3 => kk _ _ (xr_l_put1 hL h2 ⟨q, hq, rfl⟩ h3) hr)
  case iinc k n =>
    simp only [xv_pure] at h
    unfold xv_iinc at h
    split at h
    · rename_i a ha
      split at h
      · rename_i r hr
        obtain ⟨rfl, rfl⟩ := by simpa using h
        obtain ⟨hL, lv, h1, h2⟩ := hl
        obtain ⟨_, hm, n0, rfl, hn⟩ := h2 k _ ha
        obtain ⟨z, hz, hg⟩ := hD.2.2.1 0 _ _ _ n0 (Int32.ofInt n) (by decide) hr hn (hD.1 _)
        obtain rfl : n0 + Int32.ofInt n = z := by simpa [xv_semI] using hz
        obtain ⟨j, hj⟩ := List.getElem?_of_mem hm
        have hk : k < nL := by rw [← hL]; exact (List.getElem?_eq_some_iff.mp ha).1
        exact lv_iinc hx hb hdg h1 hj rfl hk rfl (fun ls' h3 => kk _ _ (xr_l_put1 hL h2 ⟨_, rfl, hg⟩ h3) hs)
      · cases h
    · cases h
  case iadd =>
    simp only [xv_pure] at h
    obtain ⟨rfl, r, S1, x, y, z, rest, rfl, rfl, hr, hz, hg⟩ := xs_i2 hD (by decide) h hs
    cases Option.some.inj hz
    exact lv_iadd hx hb hdg (kk _ _ hl ⟨_, _, rfl, ⟨_, rfl, hg⟩, hr⟩)
  case isub =>
    simp only [xv_pure] at h
    obtain ⟨rfl, r, S1, x, y, z, rest, rfl, rfl, hr, hz, hg⟩ := xs_i2 hD (by decide) h hs
    cases Option.some.inj hz
    exact lv_isub hx hb hdg (kk _ _ hl ⟨_, _, rfl, ⟨_, rfl, hg⟩, hr⟩)
  case imul =>
    simp only [xv_pure] at h
    obtain ⟨rfl, r, S1, x, y, z, rest, rfl, rfl, hr, hz, hg⟩ := xs_i2 hD (by decide) h hs
    cases Option.some.inj hz
    exact lv_imul hx hb hdg (kk _ _ hl ⟨_, _, rfl, ⟨_, rfl, hg⟩, hr⟩)
  case iand =>
    simp only [xv_pure] at h
    obtain ⟨rfl, r, S1, x, y, z, rest, rfl, rfl, hr, hz, hg⟩ := xs_i2 hD (by decide) h hs
    cases Option.some.inj hz
    exact lv_iand hx hb hdg (kk _ _ hl ⟨_, _, rfl, ⟨_, rfl, hg⟩, hr⟩)
  case ior =>
    simp only [xv_pure] at h
    obtain ⟨rfl, r, S1, x, y, z, rest, rfl, rfl, hr, hz, hg⟩ := xs_i2 hD (by decide) h hs
    cases Option.some.inj hz
    exact lv_ior hx hb hdg (kk _ _ hl ⟨_, _, rfl, ⟨_, rfl, hg⟩, hr⟩)
  case ishl =>
    simp only [xv_pure] at h
    obtain ⟨rfl, r, S1, x, y, z, rest, rfl, rfl, hr, hz, hg⟩ := xs_i2 hD (by decide) h hs
    cases Option.some.inj hz
    exact lv_ishl hx hb hdg (kk _ _ hl ⟨_, _, rfl, ⟨_, rfl, hg⟩, hr⟩)
  case ishr =>
    simp only [xv_pure] at h
    obtain ⟨rfl, r, S1, x, y, z, rest, rfl, rfl, hr, hz, hg⟩ := xs_i2 hD (by decide) h hs
    cases Option.some.inj hz
    exact lv_ishr hx hb hdg (kk _ _ hl ⟨_, _, rfl, ⟨_, rfl, hg⟩, hr⟩)
  case iushr =>
    simp only [xv_pure] at h
    obtain ⟨rfl, r, S1, x, y, z, rest, rfl, rfl, hr, hz, hg⟩ := xs_i2 hD (by decide) h hs
    cases Option.some.inj hz
    exact lv_iushr hx hb hdg rfl (kk _ _ hl ⟨_, _, rfl, ⟨_, rfl, hg⟩, hr⟩)
  case idiv =>
    simp only [xv_pure] at h
    obtain ⟨rfl, r, S1, x, y, z, rest, rfl, rfl, hr, hz, hg⟩ := xs_i2 hD (by decide) h hs
    by_cases hy : y = 0
    · simp [xv_semI, hy] at hz
    · simp [xv_semI, hy] at hz
      subst hz
      exact lv_idiv hx hb hdg hy (kk _ _ hl ⟨_, _, rfl, ⟨_, rfl, hg⟩, hr⟩)
  case irem =>
    simp only [xv_pure] at h
    obtain ⟨rfl, r, S1, x, y, z, rest, rfl, rfl, hr, hz, hg⟩ := xs_i2 hD (by decide) h hs
    by_cases hy : y = 0
    · simp [xv_semI, hy] at hz
    · simp [xv_semI, hy] at hz
      subst hz
      exact lv_irem hx hb hdg hy (kk _ _ hl ⟨_, _, rfl, ⟨_, rfl, hg⟩, hr⟩)
  case ladd =>
    simp only [xv_pure] at h
    obtain ⟨rfl, r, S1, x, y, z, rest, rfl, rfl, hr, hz, hg⟩ := xs_l2 (o := 0) hD (by decide) h hs
    cases Option.some.inj hz
    exact lv_ladd hx hb hdg (kk _ _ hl ⟨_, _, rfl, ⟨_, rfl, hg⟩, hr⟩)
  case lsub =>
    simp only [xv_pure] at h
    obtain ⟨rfl, r, S1, x, y, z, rest, rfl, rfl, hr, hz, hg⟩ := xs_l2 (o := 1) hD (by decide) h hs
    cases Option.some.inj hz
    exact lv_lsub hx hb hdg (kk _ _ hl ⟨_, _, rfl, ⟨_, rfl, hg⟩, hr⟩)
  case lmul =>
    simp only [xv_pure] at h
    obtain ⟨rfl, r, S1, x, y, z, rest, rfl, rfl, hr, hz, hg⟩ := xs_l2 (o := 2) hD (by decide) h hs
    cases Option.some.inj hz
    exact lv_lmul hx hb hdg (kk _ _ hl ⟨_, _, rfl, ⟨_, rfl, hg⟩, hr⟩)
  case land =>
    simp only [xv_pure] at h
    obtain ⟨rfl, r, S1, x, y, z, rest, rfl, rfl, hr, hz, hg⟩ := xs_l2 (o := 3) hD (by decide) h hs
    cases Option.some.inj hz
    exact lv_land hx hb hdg (kk _ _ hl ⟨_, _, rfl, ⟨_, rfl, hg⟩, hr⟩)
  case lor =>
    simp only [xv_pure] at h
    obtain ⟨rfl, r, S1, x, y, z, rest, rfl, rfl, hr, hz, hg⟩ := xs_l2 (o := 4) hD (by decide) h hs
    cases Option.some.inj hz
    exact lv_lor hx hb hdg (kk _ _ hl ⟨_, _, rfl, ⟨_, rfl, hg⟩, hr⟩)
  case ldiv =>
    simp only [xv_pure] at h
    obtain ⟨rfl, r, S1, x, y, z, rest, rfl, rfl, hr, hz, hg⟩ := xs_l2 (o := 5) hD (by decide) h hs
    by_cases hy : y = 0
    · simp [xv_semL, hy] at hz
    · simp [xv_semL, hy] at hz
      subst hz
      exact lv_ldiv hx hb hdg hy (kk _ _ hl ⟨_, _, rfl, ⟨_, rfl, hg⟩, hr⟩)
  case lrem =>
    simp only [xv_pure] at h
    obtain ⟨rfl, r, S1, x, y, z, rest, rfl, rfl, hr, hz, hg⟩ := xs_l2 (o := 6) hD (by decide) h hs
    by_cases hy : y = 0
    · simp [xv_semL, hy] at hz
    · simp [xv_semL, hy] at hz
      subst hz
      exact lv_lrem hx hb hdg hy (kk _ _ hl ⟨_, _, rfl, ⟨_, rfl, hg⟩, hr⟩)
  case ineg =>
    simp only [xv_pure] at h
    split at h
    · rename_i a S1
      obtain ⟨_, r1, rfl, ⟨x, rfl, hx1⟩, hr⟩ := hs
      split at h
      · rename_i r hr2
        obtain ⟨rfl, rfl⟩ := by simpa using h
        obtain ⟨z, hz, hg⟩ := hD.2.2.1 10 a a r x x (by decide) hr2 hx1 hx1
        cases Option.some.inj hz
        exact lv_ineg hx hb hdg (kk _ _ hl ⟨_, _, rfl, ⟨_, rfl, hg⟩, hr⟩)
      · cases h
    · cases h
  case lneg =>
    simp only [xv_pure] at h
    split at h
    · rename_i a S1
      obtain ⟨_, r1, rfl, ⟨x, rfl, hx1⟩, hr⟩ := hs
      split at h
      · rename_i r hr2
        obtain ⟨rfl, rfl⟩ := by simpa using h
        obtain ⟨z, hz, hg⟩ := hD.2.2.2.1 7 a a r x x (by decide) hr2 hx1 hx1
        cases Option.some.inj hz
        exact lv_lneg hx hb hdg (kk _ _ hl ⟨_, _, rfl, ⟨_, rfl, hg⟩, hr⟩)
      · cases h
    · cases h
  case lshl =>
    simp only [xv_pure] at h
    obtain ⟨rfl, a, b, r, S1, x, y, rest, rfl, rfl, hr, hz, hga, hgb⟩ := xs_s2 h hs
    exact lv_lshl hx hb hdg rfl (kk _ _ hl ⟨_, _, rfl, ⟨_, rfl, hD.2.2.2.2.1 _ _ _ _ _ hz hga hgb⟩, hr⟩)
  case lshr =>
    simp only [xv_pure] at h
    obtain ⟨rfl, a, b, r, S1, x, y, rest, rfl, rfl, hr, hz, hga, hgb⟩ := xs_s2 h hs
    exact lv_lshr hx hb hdg rfl (kk _ _ hl ⟨_, _, rfl, ⟨_, rfl, hD.2.2.2.2.2.1 _ _ _ _ _ hz hga hgb⟩, hr⟩)
  case i2l =>
    simp only [xv_pure] at h
    split at h
    · rename_i a S1
      obtain ⟨_, r1, rfl, ⟨x, rfl, hx1⟩, hr⟩ := hs
      split at h
      · rename_i r hr2
        obtain ⟨rfl, rfl⟩ := by simpa using h
        exact lv_i2l hx hb hdg rfl (kk _ _ hl ⟨_, _, rfl, ⟨_, rfl, hD.2.2.2.2.2.2.1 _ _ _ _ hr2 hx1⟩, hr⟩)
      · cases h
    · cases h
  case l2i =>
    simp only [xv_pure] at h
    split at h
    · rename_i a S1
      obtain ⟨_, r1, rfl, ⟨x, rfl, hx1⟩, hr⟩ := hs
      split at h
      · rename_i r hr2
        obtain ⟨rfl, rfl⟩ := by simpa using h
        exact lv_l2i hx hb hdg rfl (kk _ _ hl ⟨_, _, rfl, ⟨_, rfl, hD.2.2.2.2.2.2.2.1 _ _ _ _ hr2 hx1⟩, hr⟩)
      · cases h
    · cases h
  case lcmp =>
    simp only [xv_pure] at h
    split at h
    · rename_i b a S1
      obtain ⟨_, r1, rfl, ⟨y, rfl, hy1⟩, _, r2, rfl, ⟨x, rfl, hx1⟩, hr⟩ := hs
      split at h
      · rename_i r hr2
        obtain ⟨rfl, rfl⟩ := by simpa using h
        exact W.lcmp hx hb hdg (kk _ _ hl ⟨_, _, rfl, ⟨_, rfl, hD.2.2.2.2.2.2.2.2.1 _ _ _ _ _ hr2 hx1 hy1⟩, hr⟩)
      · cases h
    · cases h
  case dup =>
    simp only [xv_pure] at h
    split at h
    · rename_i v S1
      obtain ⟨x, r1, rfl, hv, hr⟩ := hs
      cases hc : Nat.beq (xv_cat v) 1 <;> simp [hc] at h
      obtain ⟨rfl, rfl⟩ := h
      exact lv_dup hx hb hdg ((xr_v_cat hv).trans (Nat.eq_of_beq_eq_true hc)) (kk _ _ hl ⟨_, _, rfl, hv, _, _, rfl, hv, hr⟩)
    · cases h
  case pop =>
    simp only [xv_pure] at h
    split at h
    · rename_i v S1
      obtain ⟨x, r1, rfl, hv, hr⟩ := hs
      cases hc : Nat.beq (xv_cat v) 1 <;> simp [hc] at h
      obtain ⟨rfl, rfl⟩ := h
      exact lv_pop hx hb hdg ((xr_v_cat hv).trans (Nat.eq_of_beq_eq_true hc)) (kk _ _ hl hr)
    · cases h
  case dup2 =>
    simp only [xv_pure] at h
    split at h
    · rename_i v w S1
      obtain ⟨x, r1, rfl, hv, y, r2, rfl, hw, hr⟩ := hs
      cases hc : Nat.beq (xv_cat v) 1 <;> simp [hc] at h
      cases hd : Nat.beq (xv_cat w) 1 <;> simp [hd] at h
      obtain ⟨rfl, rfl⟩ := h
      exact lv_dup2_11 hx hb hdg ((xr_v_cat hv).trans (Nat.eq_of_beq_eq_true hc)) ((xr_v_cat hw).trans (Nat.eq_of_beq_eq_true hd)) (kk _ _ hl ⟨_, _, rfl, hv, _, _, rfl, hw, _, _, rfl, hv, _, _, rfl, hw, hr⟩)
    · cases h
end XSQ
