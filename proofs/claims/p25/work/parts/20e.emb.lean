/-! THE MEMORY OF NUMBERS AS CELLS of the pure machine. kd: the kind of each cell -/
def zu_pl (q : zu_k) : List zu_f := bif Nat.ble 8 q.1.1 then q.2 else match q.2 with
  | f :: _ => List.replicate q.1.2 f
  | [] => []
def zu_sl (f : zu_f) (a p : Int) (σ : zu_m) : xv_V Int := match f.1 with
  | 0 => .inl (σ a p)
  | 1 => .inr (.inl (σ a p))
  | _ => .inr (.inr (some (zu_rd f a p σ).toNat))
def zu_cell (q : zu_k) (a : Int) (σ : zu_m) : xv_O Int := (q.1.1, (zu_pl q).mapIdx (fun p f => zu_sl f a (p : Int) σ))
def zu_emb (T : zu_T) (kd : List Nat) (σ : zu_m) : xv_M Int := kd.mapIdx (fun a k => match T.1[k]? with
  | some q => zu_cell q (a : Int) σ
  | none => (7, []))
def zu_x (w : zu_v) : xv_V Int := match w.1 with
  | 0 => .inl w.2
  | 1 => .inr (.inl w.2)
  | _ => .inr (.inr (some w.2.toNat))
def zu_xl (w : zu_v) : Option (xv_V Int) := match w.1 with
  | 2 => none
  | _ => some (zu_x w)
def zu_ok (kd : List Nat) (w : zu_v) : Prop := ∀ t, w.1 = t + 3 → 0 ≤ w.2 ∧ kd[w.2.toNat]? = some t
def zu_okL (kd : List Nat) (L : List zu_v) : Prop := ∀ w ∈ L, zu_ok kd w
def zu_okS (kd : List Nat) (S : List zu_v) : Prop := ∀ w ∈ S, zu_ok kd w ∧ w.1 ≠ 2
/-- the tables are right: what a place names is of the kind that it says -/
def zu_wf (T : zu_T) (kd : List Nat) : Prop := ∀ (a k : Nat) (q : zu_k), kd[a]? = some k → T.1[k]? = some q → (q.1.1 ≠ 7 ∧ (8 ≤ q.1.1 ∨ ∃ f, q.2 = [f])) ∧ ∀ (p : Nat) (f : zu_f), (zu_pl q)[p]? = some f → f.1 ≠ 2 ∧ ((q.1.1 = 0 ∨ q.1.1 = 2 ∨ q.1.1 = 3) → f.1 = 0) ∧ (q.1.1 = 1 → f.1 = 1) ∧ ∀ (t : Nat) (σ : zu_m), f.1 = t + 3 → 0 ≤ zu_rd f (a : Int) (p : Int) σ ∧ kd[(zu_rd f (a : Int) (p : Int) σ).toNat]? = some t
section ZUE
variable {T : zu_T} {kd : List Nat} {σ : zu_m}
theorem zu_emb_at {a k : Nat} {q : zu_k} (h1 : kd[a]? = some k) (h2 : T.1[k]? = some q) : (zu_emb T kd σ)[a]? = some (zu_cell q (a : Int) σ) := by
  unfold zu_emb
  rw [List.getElem?_mapIdx, h1]
  simp only [Option.map_some, h2]
theorem zu_cell_at {q : zu_k} {a : Int} {p : Nat} {f : zu_f} (h : (zu_pl q)[p]? = some f) : (zu_cell q a σ).2[p]? = some (zu_sl f a (p : Int) σ) := by
  unfold zu_cell
  rw [List.getElem?_mapIdx, h]
  rfl
theorem zu_cell_len {q : zu_k} {a : Int} : (zu_cell q a σ).2.length = (zu_pl q).length := by
  unfold zu_cell
  rw [List.length_mapIdx]
theorem zu_sl_ne {f : zu_f} {a b p i v : Int} (h : a ≠ b ∨ p ≠ i) : zu_sl f a p (zu_up σ b i v) = zu_sl f a p σ := by
  have e : zu_up σ b i v a p = σ a p := by
    unfold zu_up
    rw [if_neg (by rintro ⟨rfl, rfl⟩; exact h.elim (fun q => q rfl) (fun q => q rfl))]
  have e2 : zu_rd f a p (zu_up σ b i v) = zu_rd f a p σ := by
    unfold zu_rd
    split <;> first | exact e | rfl
  unfold zu_sl
  split
  · rw [e]
  · rw [e]
  · rw [e2]
theorem zu_emb_up {a k p : Nat} {q : zu_k} {f : zu_f} {v : Int} {w : xv_V Int} (h1 : kd[a]? = some k) (h2 : T.1[k]? = some q) (h3 : (zu_pl q)[p]? = some f) (hw : (f.1 = 0 ∧ w = .inl v) ∨ (f.1 = 1 ∧ w = .inr (.inl v))) :
    (zu_emb T kd σ).set a ((zu_cell q (a : Int) σ).1, (zu_cell q (a : Int) σ).2.set p w) = zu_emb T kd (zu_up σ (a : Int) (p : Int) v) := by
  refine List.ext_getElem? (fun b => ?_)
  rw [List.getElem?_set]
  have hlen : (zu_emb T kd σ).length = kd.length := by unfold zu_emb; rw [List.length_mapIdx]
  have ha : a < kd.length := (List.getElem?_eq_some_iff.mp h1).1
  by_cases e : a = b
  · subst e
    rw [if_pos rfl, if_pos (by rw [hlen]; exact ha), zu_emb_at h1 h2]
    congr 1
    unfold zu_cell
    simp only
    congr 1
    refine List.ext_getElem? (fun i => ?_)
    rw [List.getElem?_set, List.getElem?_mapIdx, List.getElem?_mapIdx, List.length_mapIdx]
    by_cases ei : p = i
    · subst ei
      rw [if_pos rfl, if_pos (List.getElem?_eq_some_iff.mp h3).1, h3]
      simp only [Option.map_some]
      congr 1
      have e1 : zu_up σ (a : Int) (p : Int) v (a : Int) (p : Int) = v := by unfold zu_up; rw [if_pos ⟨rfl, rfl⟩]
      unfold zu_sl
      rcases hw with ⟨hf, rfl⟩ | ⟨hf, rfl⟩
      · rw [hf]; simp only; rw [e1]
      · rw [hf]; simp only; rw [e1]
    · rw [if_neg ei]
      cases hi : (zu_pl q)[i]? with
      | none => rfl
      | some fi =>
        simp only [Option.map_some]
        rw [zu_sl_ne (Or.inr (by omega))]
  · rw [if_neg e]
    unfold zu_emb
    rw [List.getElem?_mapIdx, List.getElem?_mapIdx]
    cases hb : kd[b]? with
    | none => rfl
    | some kb =>
      simp only [Option.map_some]
      congr 1
      cases hq : T.1[kb]? with
      | none => rfl
      | some qb =>
        simp only
        unfold zu_cell
        congr 1
        refine List.ext_getElem? (fun i => ?_)
        rw [List.getElem?_mapIdx, List.getElem?_mapIdx]
        cases hi : (zu_pl qb)[i]? with
        | none => rfl
        | some fi =>
          simp only [Option.map_some]
          rw [zu_sl_ne (Or.inl (by omega))]
theorem zu_kill_map (L : List zu_v) (i : Nat) : (zu_kill L i).map zu_xl = xv_kill (L.map zu_xl) i := by
  cases i with
  | zero => rfl
  | succ j =>
    simp only [zu_kill, xv_kill, List.getElem?_map]
    rcases h : L[j]? with _ | ⟨_ | _ | _ | t, v⟩
    · rfl
    · rfl
    · simp only [Option.map_some]
      rw [List.map_set]
      rfl
    · rfl
    · rfl
theorem zu_put1_map {L : List zu_v} {i : Nat} {w : zu_v} (hw : w.1 ≠ 2) : (zu_put1 L i w).map zu_xl = xv_put1 (L.map zu_xl) i (zu_x w) := by
  unfold zu_put1 xv_put1
  rw [List.map_set, zu_kill_map]
  congr 1
  unfold zu_xl
  split
  · contradiction
  · rfl
theorem zu_put2_map {L : List zu_v} {i : Nat} {w : zu_v} (hw : w.1 ≠ 2) : (zu_put2 L i w).map zu_xl = xv_put2 (L.map zu_xl) i (zu_x w) := by
  unfold zu_put2 xv_put2
  rw [List.map_set, List.map_set, zu_kill_map]
  congr 1
  unfold zu_xl
  split
  · contradiction
  · rfl
theorem zu_ok_nil : zu_ok kd (2, 0) := fun t h => by simp at h
theorem zu_ok_int (v : Int) : zu_ok kd (0, v) := fun t h => by simp at h
theorem zu_ok_long (v : Int) : zu_ok kd (1, v) := fun t h => by simp at h
theorem zu_okL_set {L : List zu_v} {i : Nat} {w : zu_v} (h : zu_okL kd L) (hw : zu_ok kd w) : zu_okL kd (L.set i w) := fun x hx => by
  rcases List.mem_or_eq_of_mem_set hx with h1 | rfl
  · exact h x h1
  · exact hw
theorem zu_okL_kill {L : List zu_v} {i : Nat} (h : zu_okL kd L) : zu_okL kd (zu_kill L i) := by
  cases i with
  | zero => exact h
  | succ j =>
    simp only [zu_kill]
    split
    · exact zu_okL_set h zu_ok_nil
    · exact h
theorem zu_okL_put1 {L : List zu_v} {i : Nat} {w : zu_v} (h : zu_okL kd L) (hw : zu_ok kd w) : zu_okL kd (zu_put1 L i w) := zu_okL_set (zu_okL_kill h) hw
theorem zu_okL_put2 {L : List zu_v} {i : Nat} {w : zu_v} (h : zu_okL kd L) (hw : zu_ok kd w) : zu_okL kd (zu_put2 L i w) := zu_okL_set (zu_okL_set (zu_okL_kill h) zu_ok_nil) hw
theorem zu_okS_cons {S : List zu_v} {w : zu_v} (h : zu_okS kd S) (hw : zu_ok kd w) (h2 : w.1 ≠ 2) : zu_okS kd (w :: S) := fun x hx => by
  rcases List.mem_cons.mp hx with rfl | hx
  · exact ⟨hw, h2⟩
  · exact h x hx
theorem zu_okS_tl {S : List zu_v} {w : zu_v} (h : zu_okS kd (w :: S)) : zu_okS kd S := fun x hx => h x (List.mem_cons_of_mem _ hx)
theorem zu_n02 : (0 : Nat) ≠ 2 := by decide
theorem zu_n12 : (1 : Nat) ≠ 2 := by decide
theorem zu_okS_hd {S : List zu_v} {w : zu_v} (h : zu_okS kd (w :: S)) : zu_ok kd w ∧ w.1 ≠ 2 := h w List.mem_cons_self
/-- what the instructions of locals and stack need -/
def zs_P (kd : List Nat) (K : xv_K) (L S : List zu_v) (i : Instr) (L' S' : List zu_v) : Prop := xv_pure zc_D K (L.map zu_xl) (S.map zu_x) i = some (L'.map zu_xl, S'.map zu_x) ∧ zu_okL kd L' ∧ zu_okS kd S'
theorem zs_ld {L S L' S' : List zu_v} {t i : Nat} (hL : zu_okL kd L) (hS : zu_okS kd S) (h : zu_ld L S t i = some (L', S')) : xv_ld (L.map zu_xl) (S.map zu_x) t i = some (L'.map zu_xl, S'.map zu_x) ∧ zu_okL kd L' ∧ zu_okS kd S' := by
  unfold zu_ld at h
  unfold xv_ld
  rw [List.getElem?_map]
  rcases hi : L[i]? with _ | ⟨_ | _ | _ | k, v⟩ <;> rw [hi] at h <;> simp only [reduceCtorEq] at h
  · cases ht : Nat.beq t 0 <;> simp only [ht, cond_true, cond_false, reduceCtorEq] at h
    cases h
    exact ⟨by simp [zu_xl, zu_x, ht], hL, zu_okS_cons hS (zu_ok_int v) (zu_n02)⟩
  · cases ht : Nat.beq t 1 <;> simp only [ht, cond_true, cond_false, reduceCtorEq] at h
    cases h
    exact ⟨by simp [zu_xl, zu_x, ht], hL, zu_okS_cons hS (zu_ok_long v) zu_n12⟩
  · cases ht : Nat.beq t 2 <;> simp only [ht, cond_true, cond_false, reduceCtorEq] at h
    cases h
    exact ⟨by simp [zu_xl, zu_x, ht], hL, zu_okS_cons hS (hL _ (List.mem_of_getElem? hi)) (by show k + 3 ≠ 2; omega)⟩
theorem zs_sto {L S L' S' : List zu_v} {t i : Nat} (hL : zu_okL kd L) (hS : zu_okS kd S) (h : zu_sto L S t i = some (L', S')) : xv_sto (L.map zu_xl) (S.map zu_x) t i = some (L'.map zu_xl, S'.map zu_x) ∧ zu_okL kd L' ∧ zu_okS kd S' := by
  unfold zu_sto at h
  rcases S with _ | ⟨⟨_ | _ | _ | k, v⟩, S⟩ <;> simp only [reduceCtorEq] at h
  · cases ht : (Nat.beq t 0 && Nat.blt i L.length) <;> simp only [ht, cond_true, cond_false, reduceCtorEq] at h
    cases h
    refine ⟨?_, zu_okL_put1 hL (zu_ok_int v), zu_okS_tl hS⟩
    rw [zu_put1_map (zu_n02)]
    show (bif Nat.beq t 0 && Nat.blt i (L.map zu_xl).length then _ else none) = _
    rw [List.length_map, ht]
    rfl
  · cases ht : (Nat.beq t 1 && Nat.blt (i + 1) L.length) <;> simp only [ht, cond_true, cond_false, reduceCtorEq] at h
    cases h
    refine ⟨?_, zu_okL_put2 hL (zu_ok_long v), zu_okS_tl hS⟩
    rw [zu_put2_map zu_n12]
    show (bif Nat.beq t 1 && Nat.blt (i + 1) (L.map zu_xl).length then _ else none) = _
    rw [List.length_map, ht]
    rfl
  · cases ht : (Nat.beq t 2 && Nat.blt i L.length) <;> simp only [ht, cond_true, cond_false, reduceCtorEq] at h
    cases h
    refine ⟨?_, zu_okL_put1 hL (zu_okS_hd hS).1, zu_okS_tl hS⟩
    rw [zu_put1_map (by show k + 3 ≠ 2; omega)]
    show (bif Nat.beq t 2 && Nat.blt i (L.map zu_xl).length then _ else none) = _
    rw [List.length_map, ht]
    rfl
theorem zs_i2 {K : xv_K} {L S L' S' : List zu_v} {f : Int → Int → Int} {o : Nat} (hL : zu_okL kd L) (hS : zu_okS kd S) (hf : ∀ a b, zc_op o a b = some (f a b)) (h : zu_i2 f L S = some (L', S')) : xv_i2 zc_D o (L.map zu_xl) (S.map zu_x) = some (L'.map zu_xl, S'.map zu_x) ∧ zu_okL kd L' ∧ zu_okS kd S' := by
  unfold zu_i2 at h
  rcases S with _ | ⟨⟨_ | _ | _ | k, b⟩, _ | ⟨⟨_ | _ | _ | k2, a⟩, S⟩⟩ <;> simp only [reduceCtorEq] at h
  cases h
  refine ⟨?_, hL, zu_okS_cons (zu_okS_tl (zu_okS_tl hS)) (zu_ok_int _) (zu_n02)⟩
  have e : zc_D.2.2.1 o a b = some (f a b) := hf a b
  simp only [xv_i2, List.map_cons, zu_x, e]
theorem zs_l2 {K : xv_K} {L S L' S' : List zu_v} {f : Int → Int → Int} {o : Nat} (hL : zu_okL kd L) (hS : zu_okS kd S) (hf : ∀ a b, zc_op o a b = some (f a b)) (h : zu_l2 f L S = some (L', S')) : xv_l2 zc_D o (L.map zu_xl) (S.map zu_x) = some (L'.map zu_xl, S'.map zu_x) ∧ zu_okL kd L' ∧ zu_okS kd S' := by
  unfold zu_l2 at h
  rcases S with _ | ⟨⟨_ | _ | _ | k, b⟩, _ | ⟨⟨_ | _ | _ | k2, a⟩, S⟩⟩ <;> simp only [reduceCtorEq] at h
  cases h
  refine ⟨?_, hL, zu_okS_cons (zu_okS_tl (zu_okS_tl hS)) (zu_ok_long _) zu_n12⟩
  have e : zc_D.2.2.1 o a b = some (f a b) := hf a b
  simp only [xv_l2, List.map_cons, zu_x, e]
theorem zs_s2 {K : xv_K} {L S L' S' : List zu_v} {f : Int → Int → Int} {o : Nat} (hL : zu_okL kd L) (hS : zu_okS kd S) (hf : ∀ a b, zc_op o a b = some (f a b)) (h : zu_s2 f L S = some (L', S')) : xv_s2 zc_D o (L.map zu_xl) (S.map zu_x) = some (L'.map zu_xl, S'.map zu_x) ∧ zu_okL kd L' ∧ zu_okS kd S' := by
  unfold zu_s2 at h
  rcases S with _ | ⟨⟨_ | _ | _ | k, b⟩, _ | ⟨⟨_ | _ | _ | k2, a⟩, S⟩⟩ <;> simp only [reduceCtorEq] at h
  cases h
  refine ⟨?_, hL, zu_okS_cons (zu_okS_tl (zu_okS_tl hS)) (zu_ok_long _) zu_n12⟩
  have e : zc_D.2.2.1 o a b = some (f a b) := hf a b
  simp only [xv_s2, List.map_cons, zu_x, e]
theorem zu_small_ok {lo hi n : Int} (h : zu_small lo hi n = true) : lo ≤ n ∧ n ≤ hi := by
  unfold zu_small at h
  rw [Bool.and_eq_true_iff] at h
  exact ⟨of_decide_eq_true h.1, of_decide_eq_true h.2⟩
theorem zs_cst {K : xv_K} {L S L' S' : List zu_v} {lo hi n : Int} {i : Instr} {z : Int} (hL : zu_okL kd L) (hS : zu_okS kd S) (h : (bif zu_small lo hi n then some (L, ((0, n) : zu_v) :: S) else none) = some (L', S')) (hz : lo ≤ n → n ≤ hi → z = n) (hi2 : xv_pure zc_D K (L.map zu_xl) (S.map zu_x) i = some (L.map zu_xl, .inl z :: S.map zu_x)) : zs_P kd K L S i L' S' := by
  cases hs : zu_small lo hi n <;> simp only [hs, cond_true, cond_false, reduceCtorEq] at h
  cases h
  obtain ⟨h1, h2⟩ := zu_small_ok hs
  refine ⟨?_, hL, zu_okS_cons hS (zu_ok_int n) (zu_n02)⟩
  rw [hi2, hz h1 h2]
  rfl
set_option maxHeartbeats 4000000 in
theorem zs_pure {K : xv_K} {L S L' S' : List zu_v} {i : Instr} (hL : zu_okL kd L) (hS : zu_okS kd S) (h : zu_pure K L S i = some (L', S')) : zs_P kd K L S i L' S' := by
  cases i
  all_goals (first | (cases h; done) | skip)
  case iconst n => exact zs_cst hL hS h (fun h1 h2 => Int32.toInt_ofInt_of_le (by omega) (by omega)) rfl
  case bipush n => exact zs_cst hL hS h (fun h1 h2 => by
    show (Int8.ofInt n).toInt32.toInt = n
    rw [Int8.toInt_toInt32]
    exact Int8.toInt_ofInt_of_le (by omega) (by omega)) rfl
  case sipush n => exact zs_cst hL hS h (fun h1 h2 => by
    show (Int16.ofInt n).toInt32.toInt = n
    rw [Int16.toInt_toInt32]
    exact Int16.toInt_ofInt_of_le (by omega) (by omega)) rfl
  case lconst n =>
    cases h
    refine ⟨?_, hL, zu_okS_cons hS (zu_ok_long _) zu_n12⟩
    show some (L.map zu_xl, Sum.inr (Sum.inl ((Int64.ofNat (n : Nat)).toInt)) :: S.map zu_x) = _
    rw [Int64.toInt_ofNat_of_lt (by have := n.isLt; omega)]
    rfl
  case ldc i =>
    simp only [zu_pure] at h
    cases hf : xv_find K.2.2.2.1 i with
    | none => rw [hf] at h; cases h
    | some v =>
      rw [hf] at h
      cases h
      refine ⟨?_, hL, zu_okS_cons hS (zu_ok_int _) (zu_n02)⟩
      simp only [xv_pure, hf]
      rfl
  case ldc2_w i =>
    simp only [zu_pure] at h
    cases hf : xv_find K.2.2.2.2 i with
    | none => rw [hf] at h; cases h
    | some v =>
      rw [hf] at h
      cases h
      refine ⟨?_, hL, zu_okS_cons hS (zu_ok_long _) zu_n12⟩
      simp only [xv_pure, hf]
      rfl
  case iload_n k => exact zs_ld hL hS h
  case iload k => exact zs_ld hL hS h
  case lload_n k => exact zs_ld hL hS h
  case lload k => exact zs_ld hL hS h
  case aload_n k => exact zs_ld hL hS h
  case aload k => exact zs_ld hL hS h
  case istore_n k => exact zs_sto hL hS h
  case istore k => exact zs_sto hL hS h
  case lstore_n k => exact zs_sto hL hS h
  case lstore k => exact zs_sto hL hS h
  case astore_n k => exact zs_sto hL hS h
  case astore k => exact zs_sto hL hS h
  case iinc k n =>
    simp only [zu_pure] at h
    rcases hi : L[k]? with _ | ⟨_ | _ | _ | t, v⟩ <;> rw [hi] at h <;> simp only [reduceCtorEq] at h
    cases hs : zu_small (-128) 127 n <;> simp only [hs, cond_true, cond_false, reduceCtorEq] at h
    cases h
    obtain ⟨h1, h2⟩ := zu_small_ok hs
    refine ⟨?_, zu_okL_put1 hL (zu_ok_int _), hS⟩
    rw [zu_put1_map (zu_n02)]
    show xv_iinc zc_D (L.map zu_xl) (S.map zu_x) k n = _
    unfold xv_iinc
    rw [List.getElem?_map, hi]
    show some (xv_put1 (L.map zu_xl) k (.inl (zu_w32 (v + (Int32.ofInt n).toInt))), S.map zu_x) = _
    rw [Int32.toInt_ofInt_of_le (by omega) (by omega)]
    rfl
  case iadd => exact zs_i2 (K := K) (o := 0) hL hS (fun _ _ => rfl) h
  case isub => exact zs_i2 (K := K) (o := 1) hL hS (fun _ _ => rfl) h
  case imul => exact zs_i2 (K := K) (o := 2) hL hS (fun _ _ => rfl) h
  case iand => exact zs_i2 (K := K) (o := 3) hL hS (fun _ _ => rfl) h
  case ior => exact zs_i2 (K := K) (o := 4) hL hS (fun _ _ => rfl) h
  case ishl => exact zs_i2 (K := K) (o := 5) hL hS (fun _ _ => rfl) h
  case ishr => exact zs_i2 (K := K) (o := 6) hL hS (fun _ _ => rfl) h
  case iushr => exact zs_i2 (K := K) (o := 7) hL hS (fun _ _ => rfl) h
  case ladd => exact zs_l2 (K := K) (o := 20) hL hS (fun _ _ => rfl) h
  case lsub => exact zs_l2 (K := K) (o := 21) hL hS (fun _ _ => rfl) h
  case lmul => exact zs_l2 (K := K) (o := 22) hL hS (fun _ _ => rfl) h
  case land => exact zs_l2 (K := K) (o := 23) hL hS (fun _ _ => rfl) h
  case lor => exact zs_l2 (K := K) (o := 24) hL hS (fun _ _ => rfl) h
  case lshl => exact zs_s2 (K := K) (o := 30) hL hS (fun _ _ => rfl) h
  case lshr => exact zs_s2 (K := K) (o := 31) hL hS (fun _ _ => rfl) h
  case ineg =>
    rcases S with _ | ⟨⟨_ | _ | _ | k, a⟩, S⟩ <;> cases h
    exact ⟨rfl, hL, zu_okS_cons (zu_okS_tl hS) (zu_ok_int _) (zu_n02)⟩
  case lneg =>
    rcases S with _ | ⟨⟨_ | _ | _ | k, a⟩, S⟩ <;> cases h
    exact ⟨rfl, hL, zu_okS_cons (zu_okS_tl hS) (zu_ok_long _) zu_n12⟩
  case i2l =>
    rcases S with _ | ⟨⟨_ | _ | _ | k, a⟩, S⟩ <;> cases h
    exact ⟨rfl, hL, zu_okS_cons (zu_okS_tl hS) (zu_ok_long _) zu_n12⟩
  case l2i =>
    rcases S with _ | ⟨⟨_ | _ | _ | k, a⟩, S⟩ <;> cases h
    exact ⟨rfl, hL, zu_okS_cons (zu_okS_tl hS) (zu_ok_int _) (zu_n02)⟩
  case lcmp =>
    rcases S with _ | ⟨⟨_ | _ | _ | k, b⟩, _ | ⟨⟨_ | _ | _ | k2, a⟩, S⟩⟩ <;> cases h
    exact ⟨rfl, hL, zu_okS_cons (zu_okS_tl (zu_okS_tl hS)) (zu_ok_int _) (zu_n02)⟩
  case dup =>
    rcases S with _ | ⟨⟨_ | _ | _ | k, b⟩, S⟩ <;> cases h
    · exact ⟨rfl, hL, zu_okS_cons hS (zu_okS_hd hS).1 (zu_okS_hd hS).2⟩
    · exact absurd rfl (zu_okS_hd hS).2
    · exact ⟨rfl, hL, zu_okS_cons hS (zu_okS_hd hS).1 (zu_okS_hd hS).2⟩
  case pop =>
    rcases S with _ | ⟨⟨_ | _ | _ | k, b⟩, S⟩ <;> cases h
    · exact ⟨rfl, hL, zu_okS_tl hS⟩
    · exact absurd rfl (zu_okS_hd hS).2
    · exact ⟨rfl, hL, zu_okS_tl hS⟩
  case dup2 =>
    rcases S with _ | ⟨⟨_ | _ | _ | k, b⟩, _ | ⟨⟨_ | _ | _ | k2, a⟩, S⟩⟩ <;> cases h
    all_goals first
      | exact absurd rfl (zu_okS_hd hS).2
      | exact absurd rfl (zu_okS_hd (zu_okS_tl hS)).2
      | exact ⟨rfl, hL, zu_okS_cons (zu_okS_cons hS (zu_okS_hd (zu_okS_tl hS)).1 (zu_okS_hd (zu_okS_tl hS)).2) (zu_okS_hd hS).1 (zu_okS_hd hS).2⟩
end ZUE
