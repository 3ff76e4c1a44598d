/-- a switch: its length is its own -/
def xv_sw : Instr → Bool
  | .tableswitch _ _ _ _ => true
  | .lookupswitch _ _ => true
  | _ => false
theorem xs_tgt {pc t : Nat} {off : Int} (h : xv_tgt pc off = some t) : (pc : Int) + off = (t : Int) := by
  unfold xv_tgt at h
  split at h
  · rename_i k hk
    rw [hk]
    cases h
    rfl
  · cases h
section XSB
variable {p : Program} {l : Launch} {e : Env} {R : Room} {s : State} {m : MethodId} {args : Array Value} {below : List Frame} {meth : Method} {c : Code} {H : Heap} {locs : List Loc} {cells slots : Nat} {Q : State → Prop}
variable {cc : ByteArray} {pc : Nat} {V : Type} {D : xv_D V} {g : V → Value → Prop} {φ : List Nat} {S S' : List (xv_V V)} {ls : Array Slot} {st : List Value}
theorem xs_cmp2 (hD : xv_ok D g) {o t : Nat} {off : Int} (h : xv_cmp2 D o pc off S = some (t, S')) (hs : xr_s g φ S st) : ∃ (x y : Int32) (rest : List Value) (tgt : Nat), st = .int y :: .int x :: rest ∧ xr_s g φ S' rest ∧ (pc : Int) + off = (tgt : Int) ∧ ((xv_cmp o x y = true ∧ t = tgt) ∨ (xv_cmp o x y = false ∧ t = pc + 3)) := by
  unfold xv_cmp2 at h
  split at h
  · rename_i b a S1
    obtain ⟨_, r1, rfl, ⟨y, rfl, hy⟩, _, r2, rfl, ⟨x, rfl, hx⟩, hr⟩ := hs
    split at h
    · rename_i r t' hc ht
      have h1 := hD.2.2.2.2.2.2.2.2.2.1 _ _ _ _ _ _ hc hx hy
      cases r
      · obtain ⟨rfl, rfl⟩ := by simpa using h
        exact ⟨x, y, r2, t', rfl, hr, xs_tgt ht, Or.inr ⟨h1, rfl⟩⟩
      · obtain ⟨rfl, rfl⟩ := by simpa using h
        exact ⟨x, y, r2, _, rfl, hr, xs_tgt ht, Or.inl ⟨h1, rfl⟩⟩
    · cases h
  · cases h
theorem xs_cmp1 (hD : xv_ok D g) {o t : Nat} {off : Int} (h : xv_cmp1 D o pc off S = some (t, S')) (hs : xr_s g φ S st) : ∃ (x : Int32) (rest : List Value) (tgt : Nat), st = .int x :: rest ∧ xr_s g φ S' rest ∧ (pc : Int) + off = (tgt : Int) ∧ ((xv_cmp o x 0 = true ∧ t = tgt) ∨ (xv_cmp o x 0 = false ∧ t = pc + 3)) := by
  unfold xv_cmp1 at h
  split at h
  · rename_i a S1
    obtain ⟨_, r2, rfl, ⟨x, rfl, hx⟩, hr⟩ := hs
    split at h
    · rename_i r t' hc ht
      have h1 := hD.2.2.2.2.2.2.2.2.2.1 _ _ _ _ _ _ hc hx (hD.1 0)
      cases r
      · obtain ⟨rfl, rfl⟩ := by simpa using h
        exact ⟨x, r2, t', rfl, hr, xs_tgt ht, Or.inr ⟨h1, rfl⟩⟩
      · obtain ⟨rfl, rfl⟩ := by simpa using h
        exact ⟨x, r2, _, rfl, hr, xs_tgt ht, Or.inl ⟨h1, rfl⟩⟩
    · cases h
  · cases h

theorem xs_out (hD : xv_ok D g) {a : V} {lo hi : Int} {x : Int32} (h : xv_out D a lo hi = true) (hx : g a (.int x)) : x.toInt < lo ∨ hi < x.toInt := by
  unfold xv_out at h
  split at h
  · rename_i h1
    have e := of_decide_eq_true h
    have h2 := hD.2.2.2.2.2.2.2.2.2.1 _ _ _ _ _ _ h1 hx (hD.1 _)
    have h3 : x < Int32.ofInt lo := of_decide_eq_true h2
    rw [Int32.lt_iff_toInt_lt, e] at h3
    exact Or.inl h3
  · rename_i h1 hno
    have e := of_decide_eq_true h
    have h2 := hD.2.2.2.2.2.2.2.2.2.1 _ _ _ _ _ _ h1 hx (hD.1 _)
    have h3 : Int32.ofInt hi < x := of_decide_eq_true h2
    rw [Int32.lt_iff_toInt_lt, e] at h3
    exact Or.inr h3
  · cases h
set_option maxHeartbeats 4000000 in
/-- JUMPS -/
theorem xs_br (hx : p.tables.exec = Jvm.exec) (hb : c.code = cc) (hD : xv_ok D g) {i : Instr} {t len : Nat} (h : xv_br D pc S i = some (t, S')) (hdg : decode cc pc = .ok (i, len)) (hlen : xv_sw i = true ∨ len = xv_len i) (hs : xr_s g φ S st)
    (kk : ∀ st' : List Value, xr_s g φ S' st' → W p l e R s m args below meth c H locs cells slots Q (F0 m t ls st')) :
    W p l e R s m args below meth c H locs cells slots Q (F0 m pc ls st) := by
  cases i
  all_goals (first | (simp only [xv_br, reduceCtorEq] at h; done) | skip)
  case goto off =>
    obtain rfl : len = 3 := by simpa [xv_sw, xv_len] using hlen
    simp only [xv_br] at h
    split at h
    · rename_i t' ht
      obtain ⟨rfl, rfl⟩ := by simpa using h
      exact lv_goto hx hb hdg (xs_tgt ht) (kk _ hs)
    · cases h
  case if_icmp cd off =>
    obtain rfl : len = 3 := by simpa [xv_sw, xv_len] using hlen
    cases cd
    case eq =>
      simp only [xv_br] at h
      obtain ⟨x, y, rest, tgt, rfl, hr, ht, hc⟩ := xs_cmp2 hD h hs
      refine lv_icmp_eq hx hb hdg ht (fun q => ?_) (fun q => ?_)
      · rcases hc with ⟨hc, rfl⟩ | ⟨hc, rfl⟩
        · exact kk _ hr
        · exact absurd hc (by simp [xv_cmp, q])
      · rcases hc with ⟨hc, rfl⟩ | ⟨hc, rfl⟩
        · exact absurd hc (by simp [xv_cmp, q])
        · exact kk _ hr
    case ne =>
      simp only [xv_br] at h
      obtain ⟨x, y, rest, tgt, rfl, hr, ht, hc⟩ := xs_cmp2 hD h hs
      refine lv_icmp_ne hx hb hdg ht (fun q => ?_) (fun q => ?_)
      · rcases hc with ⟨hc, rfl⟩ | ⟨hc, rfl⟩
        · exact kk _ hr
        · exact absurd hc (by simp [xv_cmp, q])
      · rcases hc with ⟨hc, rfl⟩ | ⟨hc, rfl⟩
        · exact absurd hc (by simp [xv_cmp, q])
        · exact kk _ hr
    case lt =>
      simp only [xv_br] at h
      obtain ⟨x, y, rest, tgt, rfl, hr, ht, hc⟩ := xs_cmp2 hD h hs
      refine lv_icmp_lt hx hb hdg ht (fun q => ?_) (fun q => ?_)
      · rcases hc with ⟨hc, rfl⟩ | ⟨hc, rfl⟩
        · exact kk _ hr
        · exact absurd hc (by simp [xv_cmp, q])
      · rcases hc with ⟨hc, rfl⟩ | ⟨hc, rfl⟩
        · exact absurd hc (by simp [xv_cmp, q])
        · exact kk _ hr
    case ge =>
      simp only [xv_br] at h
      obtain ⟨x, y, rest, tgt, rfl, hr, ht, hc⟩ := xs_cmp2 hD h hs
      refine lv_icmp_ge hx hb hdg ht (fun q => ?_) (fun q => ?_)
      · rcases hc with ⟨hc, rfl⟩ | ⟨hc, rfl⟩
        · exact kk _ hr
        · exact absurd hc (by simp [xv_cmp, q])
      · rcases hc with ⟨hc, rfl⟩ | ⟨hc, rfl⟩
        · exact absurd hc (by simp [xv_cmp, q])
        · exact kk _ hr
    case gt =>
      simp only [xv_br] at h
      obtain ⟨x, y, rest, tgt, rfl, hr, ht, hc⟩ := xs_cmp2 hD h hs
      refine lv_icmp_gt hx hb hdg ht (fun q => ?_) (fun q => ?_)
      · rcases hc with ⟨hc, rfl⟩ | ⟨hc, rfl⟩
        · exact kk _ hr
        · exact absurd hc (by simp [xv_cmp, q])
      · rcases hc with ⟨hc, rfl⟩ | ⟨hc, rfl⟩
        · exact absurd hc (by simp [xv_cmp, q])
        · exact kk _ hr
    case le =>
      simp only [xv_br] at h
      obtain ⟨x, y, rest, tgt, rfl, hr, ht, hc⟩ := xs_cmp2 hD h hs
      refine lv_icmp_le hx hb hdg ht (fun q => ?_) (fun q => ?_)
      · rcases hc with ⟨hc, rfl⟩ | ⟨hc, rfl⟩
        · exact kk _ hr
        · exact absurd hc (by simp [xv_cmp, q])
      · rcases hc with ⟨hc, rfl⟩ | ⟨hc, rfl⟩
        · exact absurd hc (by simp [xv_cmp, q])
        · exact kk _ hr
  case ifCond cd off =>
    obtain rfl : len = 3 := by simpa [xv_sw, xv_len] using hlen
    cases cd
    case eq =>
      simp only [xv_br] at h
      obtain ⟨x, rest, tgt, rfl, hr, ht, hc⟩ := xs_cmp1 hD h hs
      refine lv_if_eq hx hb hdg ht (fun q => ?_) (fun q => ?_)
      · rcases hc with ⟨hc, rfl⟩ | ⟨hc, rfl⟩
        · exact kk _ hr
        · exact absurd hc (by simp [xv_cmp, q])
      · rcases hc with ⟨hc, rfl⟩ | ⟨hc, rfl⟩
        · exact absurd hc (by simp [xv_cmp, q])
        · exact kk _ hr
    case ne =>
      simp only [xv_br] at h
      obtain ⟨x, rest, tgt, rfl, hr, ht, hc⟩ := xs_cmp1 hD h hs
      refine lv_if_ne hx hb hdg ht (fun q => ?_) (fun q => ?_)
      · rcases hc with ⟨hc, rfl⟩ | ⟨hc, rfl⟩
        · exact kk _ hr
        · exact absurd hc (by simp [xv_cmp, q])
      · rcases hc with ⟨hc, rfl⟩ | ⟨hc, rfl⟩
        · exact absurd hc (by simp [xv_cmp, q])
        · exact kk _ hr
    case lt =>
      simp only [xv_br] at h
      obtain ⟨x, rest, tgt, rfl, hr, ht, hc⟩ := xs_cmp1 hD h hs
      refine lv_if_lt hx hb hdg ht (fun q => ?_) (fun q => ?_)
      · rcases hc with ⟨hc, rfl⟩ | ⟨hc, rfl⟩
        · exact kk _ hr
        · exact absurd hc (by simp [xv_cmp, q])
      · rcases hc with ⟨hc, rfl⟩ | ⟨hc, rfl⟩
        · exact absurd hc (by simp [xv_cmp, q])
        · exact kk _ hr
    case ge =>
      simp only [xv_br] at h
      obtain ⟨x, rest, tgt, rfl, hr, ht, hc⟩ := xs_cmp1 hD h hs
      refine lv_if_ge hx hb hdg ht (fun q => ?_) (fun q => ?_)
      · rcases hc with ⟨hc, rfl⟩ | ⟨hc, rfl⟩
        · exact kk _ hr
        · exact absurd hc (by simp [xv_cmp, q])
      · rcases hc with ⟨hc, rfl⟩ | ⟨hc, rfl⟩
        · exact absurd hc (by simp [xv_cmp, q])
        · exact kk _ hr
    case gt =>
      simp only [xv_br] at h
      obtain ⟨x, rest, tgt, rfl, hr, ht, hc⟩ := xs_cmp1 hD h hs
      refine lv_if_gt hx hb hdg ht (fun q => ?_) (fun q => ?_)
      · rcases hc with ⟨hc, rfl⟩ | ⟨hc, rfl⟩
        · exact kk _ hr
        · exact absurd hc (by simp [xv_cmp, q])
      · rcases hc with ⟨hc, rfl⟩ | ⟨hc, rfl⟩
        · exact absurd hc (by simp [xv_cmp, q])
        · exact kk _ hr
    case le =>
      simp only [xv_br] at h
      obtain ⟨x, rest, tgt, rfl, hr, ht, hc⟩ := xs_cmp1 hD h hs
      refine lv_if_le hx hb hdg ht (fun q => ?_) (fun q => ?_)
      · rcases hc with ⟨hc, rfl⟩ | ⟨hc, rfl⟩
        · exact kk _ hr
        · exact absurd hc (by simp [xv_cmp, q])
      · rcases hc with ⟨hc, rfl⟩ | ⟨hc, rfl⟩
        · exact absurd hc (by simp [xv_cmp, q])
        · exact kk _ hr
  case tableswitch dflt lo hi offs =>
    simp only [xv_br] at h
    split at h
    · rename_i a S1
      obtain ⟨_, r2, rfl, ⟨x, rfl, hx1⟩, hr⟩ := hs
      split at h
      · rename_i n hn
        have hxn := hD.2.2.2.2.2.2.2.2.2.2.1 _ _ _ hn hx1
        unfold xv_tab at h
        split at h
        · rename_i hout
          split at h
          · rename_i t' ht
            obtain ⟨rfl, rfl⟩ := by simpa using h
            exact lv_tableOut hx hb hdg (by rw [hxn]; exact hout) (xs_tgt ht) (kk _ hr)
          · cases h
        · rename_i hin
          split at h
          · rename_i off ho
            split at h
            · rename_i t' ht
              obtain ⟨rfl, rfl⟩ := by simpa using h
              exact lv_tableIn hx hb hdg (by rw [hxn]; exact fun q => hin (Or.inl q)) (by rw [hxn]; exact fun q => hin (Or.inr q)) (by rw [hxn]; exact ho) (xs_tgt ht) (kk _ hr)
            · cases h
          · cases h
      · cases hout : xv_out D a lo hi <;> simp only [hout, cond_true, cond_false] at h
        · cases h
        split at h
        · rename_i t' ht
          obtain ⟨rfl, rfl⟩ := by simpa using h
          exact lv_tableOut hx hb hdg (xs_out hD hout hx1) (xs_tgt ht) (kk _ hr)
        · cases h
    · cases h
  case lookupswitch dflt ps =>
    simp only [xv_br] at h
    split at h
    · rename_i a S1
      obtain ⟨_, r2, rfl, ⟨x, rfl, hx1⟩, hr⟩ := hs
      split at h
      · rename_i n hn
        have hxn := hD.2.2.2.2.2.2.2.2.2.2.1 _ _ _ hn hx1
        cases hp : (ps.toList.zip (ps.toList.drop 1)).all (fun q => decide (q.1.1 < q.2.1)) <;> simp only [hp, cond_true, cond_false] at h
        · cases h
        · split at h
          · rename_i t' ht
            obtain ⟨rfl, rfl⟩ := by simpa using h
            exact lv_lookup hx hb hdg hp (by rw [hxn]) (xs_tgt ht) (kk _ hr)
          · cases h
      · cases h
    · cases h
end XSB
