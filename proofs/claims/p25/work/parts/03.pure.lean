section XSP
variable {p : Program} {l : Launch} {e : Env} {R : Room} {s : State} {m : MethodId} {args : Array Value} {below : List Frame} {meth : Method} {c : Code} {H : Heap} {locs : List Loc} {cells slots : Nat} {Q : State → Prop}
variable {cc : ByteArray} {pc : Nat} {V : Type} {D : xv_D V} {g : V → Value → Prop} {φ : List Nat} {nL : Nat} {L L' : xv_L V} {S S' : List (xv_V V)} {ls : Array Slot} {st : List Value}
theorem xs_ld {t i : Nat} (h : xv_ld L S t i = some (L', S')) (hl : xr_l g φ L ls nL) : L' = L ∧ ∃ (v : xv_V V) (x : Value), S' = v :: S ∧ ls[i]? = some (.val x) ∧ xr_v g φ v x ∧ ((t = 0 → ∃ a, v = .inl a) ∧ (t = 1 → ∃ a, v = .inr (.inl a)) ∧ (t = 2 → ∃ k, v = .inr (.inr (some k)))) := by
  unfold xv_ld at h
  split at h
  · rename_i a ha
    obtain ⟨x, h1, h2⟩ := xr_l_at hl ha
    cases ht : Nat.beq t 0 <;> simp [ht] at h
    obtain ⟨rfl, rfl⟩ := h
    have e := Nat.eq_of_beq_eq_true ht
    exact ⟨rfl, _, x, rfl, h1, h2, fun _ => ⟨a, rfl⟩, fun q => by omega, fun q => by omega⟩
  · rename_i a ha
    obtain ⟨x, h1, h2⟩ := xr_l_at hl ha
    cases ht : Nat.beq t 1 <;> simp [ht] at h
    obtain ⟨rfl, rfl⟩ := h
    have e := Nat.eq_of_beq_eq_true ht
    exact ⟨rfl, _, x, rfl, h1, h2, fun q => by omega, fun _ => ⟨a, rfl⟩, fun q => by omega⟩
  · rename_i a ha
    obtain ⟨x, h1, h2⟩ := xr_l_at hl ha
    cases ht : Nat.beq t 2 <;> simp [ht] at h
    obtain ⟨rfl, rfl⟩ := h
    have e := Nat.eq_of_beq_eq_true ht
    exact ⟨rfl, _, x, rfl, h1, h2, fun q => by omega, fun q => by omega, fun _ => ⟨a, rfl⟩⟩
  · cases h
theorem xs_sto0 {i : Nat} (h : xv_sto L S 0 i = some (L', S')) : ∃ a, S = .inl a :: S' ∧ i < L.length ∧ L' = xv_put1 L i (.inl a) := by
  unfold xv_sto at h
  split at h
  · rename_i a S1
    cases ht : Nat.blt i L.length <;> simp [ht, show Nat.beq 0 0 = true from rfl] at h
    obtain ⟨rfl, rfl⟩ := h
    exact ⟨a, rfl, Nat.le_of_ble_eq_true ht, rfl⟩
  · simp [show Nat.beq 0 1 = false from rfl] at h
  · simp [show Nat.beq 0 2 = false from rfl] at h
  · cases h
theorem xs_sto1 {i : Nat} (h : xv_sto L S 1 i = some (L', S')) : ∃ a, S = .inr (.inl a) :: S' ∧ i + 1 < L.length ∧ L' = xv_put2 L i (.inr (.inl a)) := by
  unfold xv_sto at h
  split at h
  · simp [show Nat.beq 1 0 = false from rfl] at h
  · rename_i a S1
    cases ht : Nat.blt (i + 1) L.length <;> simp [ht, show Nat.beq 1 1 = true from rfl] at h
    obtain ⟨rfl, rfl⟩ := h
    exact ⟨a, rfl, Nat.le_of_ble_eq_true ht, rfl⟩
  · simp [show Nat.beq 1 2 = false from rfl] at h
  · cases h
theorem xs_sto2 {i : Nat} (h : xv_sto L S 2 i = some (L', S')) : ∃ a, S = .inr (.inr (some a)) :: S' ∧ i < L.length ∧ L' = xv_put1 L i (.inr (.inr (some a))) := by
  unfold xv_sto at h
  split at h
  · simp [show Nat.beq 2 0 = false from rfl] at h
  · simp [show Nat.beq 2 1 = false from rfl] at h
  · rename_i a S1
    cases ht : Nat.blt i L.length <;> simp [ht, show Nat.beq 2 2 = true from rfl] at h
    obtain ⟨rfl, rfl⟩ := h
    exact ⟨a, rfl, Nat.le_of_ble_eq_true ht, rfl⟩
  · cases h
theorem xs_i2 (hD : xv_ok D g) {o : Nat} (ho : o < 20) (h : xv_i2 D o L S = some (L', S')) (hs : xr_s g φ S st) : L' = L ∧ ∃ (r : V) (S1 : List (xv_V V)) (x y z : Int32) (rest : List Value), S' = .inl r :: S1 ∧ st = .int y :: .int x :: rest ∧ xr_s g φ S1 rest ∧ xv_semI o x y = some z ∧ g r (.int z) := by
  unfold xv_i2 at h
  split at h
  · rename_i b a S1
    obtain ⟨_, r1, rfl, ⟨y, rfl, hy⟩, _, r2, rfl, ⟨x, rfl, hx⟩, hr⟩ := hs
    split at h
    · rename_i r hr2
      obtain ⟨rfl, rfl⟩ := by simpa using h
      obtain ⟨z, hz, hg⟩ := hD.2.2.1 o a b r x y ho hr2 hx hy
      exact ⟨rfl, r, S1, x, y, z, r2, rfl, rfl, hr, hz, hg⟩
    · cases h
  · cases h
theorem xs_l2 (hD : xv_ok D g) {o : Nat} (ho : o < 10) (h : xv_l2 D (o + 20) L S = some (L', S')) (hs : xr_s g φ S st) : L' = L ∧ ∃ (r : V) (S1 : List (xv_V V)) (x y z : Int64) (rest : List Value), S' = .inr (.inl r) :: S1 ∧ st = .long y :: .long x :: rest ∧ xr_s g φ S1 rest ∧ xv_semL o x y = some z ∧ g r (.long z) := by
  unfold xv_l2 at h
  split at h
  · rename_i b a S1
    obtain ⟨_, r1, rfl, ⟨y, rfl, hy⟩, _, r2, rfl, ⟨x, rfl, hx⟩, hr⟩ := hs
    split at h
    · rename_i r hr2
      obtain ⟨rfl, rfl⟩ := by simpa using h
      obtain ⟨z, hz, hg⟩ := hD.2.2.2.1 o a b r x y ho hr2 hx hy
      exact ⟨rfl, r, S1, x, y, z, r2, rfl, rfl, hr, hz, hg⟩
    · cases h
  · cases h
theorem xs_s2 {o : Nat} (h : xv_s2 D o L S = some (L', S')) (hs : xr_s g φ S st) : L' = L ∧ ∃ (a b r : V) (S1 : List (xv_V V)) (x : Int64) (y : Int32) (rest : List Value), S' = .inr (.inl r) :: S1 ∧ st = .int y :: .long x :: rest ∧ xr_s g φ S1 rest ∧ D.2.2.1 o a b = some r ∧ g a (.long x) ∧ g b (.int y) := by
  unfold xv_s2 at h
  split at h
  · rename_i b a S1
    obtain ⟨_, r1, rfl, ⟨y, rfl, hy⟩, _, r2, rfl, ⟨x, rfl, hx⟩, hr⟩ := hs
    split at h
    · rename_i r hr2
      obtain ⟨rfl, rfl⟩ := by simpa using h
      exact ⟨rfl, a, b, r, S1, x, y, r2, rfl, rfl, hr, hr2, hx, hy⟩
    · cases h
  · cases h
end XSP
