/-! WHAT THE MACHINE OF NUMBERS RUNS, THE METHOD DOES -/
def zu_rv (rc : Nat) (v : Int) : Option (xv_V Int) := match rc with
  | 0 => none
  | 2 => some (.inr (.inl v))
  | _ => some (.inl v)
theorem zu_push_map (rc : Nat) (v : Int) (R : List zu_v) : (zu_push rc v R).map zu_x = (zu_rv rc v).toList ++ R.map zu_x := by
  unfold zu_push zu_rv
  split
  · rfl
  · rfl
  · split
    · contradiction
    · contradiction
    · rfl
theorem zu_push_ok {kd : List Nat} {rc : Nat} {v : Int} {R : List zu_v} (h : zu_okS kd R) : zu_okS kd (zu_push rc v R) := by
  unfold zu_push
  split
  · exact h
  · exact zu_okS_cons h (zu_ok_long _) zu_n12
  · exact zu_okS_cons h (zu_ok_int _) zu_n02
theorem zu_cats_map : ∀ {S : List zu_v}, (∀ w ∈ S, w.1 ≠ 2) → xv_cats (S.map zu_x) = zu_cats S
  | [], _ => rfl
  | (t, v) :: S, h => by
    have ih := zu_cats_map (S := S) (fun w hw => h w (List.mem_cons_of_mem _ hw))
    show xv_cat (zu_x (t, v)) + xv_cats (S.map zu_x) = (bif Nat.beq t 1 then 2 else 1) + zu_cats S
    rw [ih]
    congr 1
    match t with
    | 0 => rfl
    | 1 => rfl
    | t + 2 => rfl
theorem zu_jmp_some {ih : zu_I} {pc : Nat} {off : Int} {L S : List zu_v} {σ : zu_m} {r : zu_R} (h : zu_jmp ih pc off L S σ = some r) : ∃ t, xv_tgt pc off = some t ∧ ih t L S σ = some r := by
  unfold zu_jmp at h
  split at h
  · rename_i t ht
    exact ⟨t, ht, h⟩
  · cases h
theorem zu_tab_some {ih : zu_I} {pc : Nat} {dflt a : Int} {L S : List zu_v} {σ : zu_m} {r : zu_R} : ∀ {l : List Int} {k : Int}, zu_tab ih pc dflt a L S σ k l = some r → (∃ (i : Nat) (off : Int), l[i]? = some off ∧ a = k + (i : Int) ∧ zu_jmp ih pc off L S σ = some r) ∨ ((a < k ∨ k + (l.length : Int) ≤ a) ∧ zu_jmp ih pc dflt L S σ = some r)
  | [], k, h => Or.inr ⟨by
      by_cases q : a < k
      · exact Or.inl q
      · exact Or.inr (by simpa using q), h⟩
  | off :: l, k, h => by
    simp only [zu_tab] at h
    split at h
    · rename_i e
      exact Or.inl ⟨0, off, rfl, by simpa using e, h⟩
    · rename_i e
      rcases zu_tab_some (l := l) h with ⟨i, o2, h1, h2, h3⟩ | ⟨h1, h2⟩
      · exact Or.inl ⟨i + 1, o2, by simpa using h1, by rw [h2]; omega, h3⟩
      · refine Or.inr ⟨?_, h2⟩
        rw [List.length_cons]
        rcases h1 with q | q
        · exact Or.inl (by omega)
        · exact Or.inr (by omega)
theorem zu_look_some {ih : zu_I} {pc : Nat} {dflt a : Int} {L S : List zu_v} {σ : zu_m} {r : zu_R} : ∀ {l : List (Int × Int)}, zu_look ih pc dflt a L S σ l = some r → zu_jmp ih pc (Op.lookupswitch.offset l dflt a) L S σ = some r
  | [], h => h
  | (k, o) :: l, h => by
    simp only [zu_look] at h
    rw [Op.lookupswitch.offset_cons]
    split at h
    · rename_i e
      rw [if_pos e.symm]
      exact h
    · rename_i e
      rw [if_neg (fun q => e q.symm)]
      exact zu_look_some h
theorem zu_kd_some {T : zu_T} {t : Nat} {k : zu_k} (h : zu_kd T t = some k) : ∃ n, t = n + 3 ∧ T.1[n]? = some k := by
  match t, h with
  | n + 3, h => exact ⟨n, rfl, h⟩
theorem zu_b_some {v : Int} {x : Option zu_R} {r : zu_R} (h : zu_b v x = some r) : (v = 0 ∨ v = 1) ∧ x = some r := by
  unfold zu_b at h
  split at h
  · rename_i q; exact ⟨q, h⟩
  · cases h
theorem zu_ite_some {p : Prop} {d : Decidable p} {x : Option zu_R} {r : zu_R} (h : @ite _ p d x none = some r) : p ∧ x = some r := by
  split at h
  · rename_i q; exact ⟨q, h⟩
  · cases h
theorem zu_cnd_some {b : Bool} {x : Option zu_R} {r : zu_R} (h : (bif b then x else none) = some r) : b = true ∧ x = some r := by
  cases b
  · cases h
  · exact ⟨rfl, h⟩
theorem zu_ix {i : Int} {n : Nat} (h : 0 ≤ i ∧ i < (n : Int)) : xv_ix zc_D i n = some i.toNat := by
  obtain ⟨h1, h2⟩ := h
  obtain ⟨k, rfl⟩ := Int.eq_ofNat_of_zero_le h1
  show (match some (Int.ofNat k) with
    | some (.ofNat k) => bif Nat.blt k n then some k else none
    | _ => none) = _
  simp only
  have : Nat.blt k n = true := by
    rw [Nat.blt_eq]
    omega
  rw [this]
  rfl
section ZUS
variable {T : zu_T} {kd : List Nat} {σ : zu_m}
/-- a reference's cell -/
theorem zu_ref {t n : Nat} {a : Int} {k : zu_k} {S : List zu_v} (hS : zu_okS kd ((t, a) :: S)) (hk : zu_kd T t = some k) : ∃ b : Nat, a = (b : Int) ∧ kd[b]? = some (t - 3) ∧ T.1[t - 3]? = some k ∧ zu_x (t, a) = .inr (.inr (some b)) ∧ (zu_emb T kd σ)[b]? = some (zu_cell k a σ) := by
  obtain ⟨m, rfl, hm⟩ := zu_kd_some hk
  obtain ⟨h1, h2⟩ := (zu_okS_hd hS).1 m rfl
  have h1 : 0 ≤ a := h1
  have h2 : kd[a.toNat]? = some m := h2
  have e : a = ((a.toNat : Nat) : Int) := by omega
  refine ⟨a.toNat, e, h2, hm, rfl, ?_⟩
  rw [zu_emb_at h2 hm, ← e]
/-- what a place holds -/
theorem zu_sl_x {q : zu_k} {a k p : Nat} {f : zu_f} (hwf : zu_wf T kd) (h1 : kd[a]? = some k) (h2 : T.1[k]? = some q) (h3 : (zu_pl q)[p]? = some f) : zu_sl f (a : Int) (p : Int) σ = zu_x (f.1, zu_rd f (a : Int) (p : Int) σ) ∧ zu_ok kd (f.1, zu_rd f (a : Int) (p : Int) σ) ∧ f.1 ≠ 2 := by
  have hw := (hwf a k q h1 h2).2 p f h3
  refine ⟨?_, fun t ht => hw.2.2.2 t σ ht, hw.1⟩
  obtain ⟨f1, f2⟩ := f
  match f1 with
  | 0 => rfl
  | 1 => rfl
  | n + 2 => rfl
theorem zs_ald {tt : Nat} {S S' : List zu_v} {i a : Int} {k : zu_k} {f : zu_f} {fr : List zu_f} (hwf : zu_wf T kd) (hS : zu_okS kd ((0, i) :: (tt, a) :: S)) (hk : zu_kd T tt = some k) (hk7 : k.1.1 < 7) (hf : k.2 = f :: fr) (hi : 0 ≤ i ∧ i < (k.1.2 : Int)) {t0 t1 : Nat} (ht0 : t0 ≤ k.1.1) (ht1 : k.1.1 ≤ t1) :
    xv_ald zc_D (zu_emb T kd σ) (((0, i) :: (tt, a) :: S).map zu_x) t0 t1 = some (((f.1, zu_rd f a i σ) :: S).map zu_x, zu_emb T kd σ, 0, 0) ∧ zu_okS kd ((f.1, zu_rd f a i σ) :: S) := by
  obtain ⟨b, rfl, hb1, hb2, hx, hM⟩ := zu_ref (σ := σ) (n := 0) (zu_okS_tl hS) hk
  have hpl : zu_pl k = List.replicate k.1.2 f := by
    unfold zu_pl
    have : Nat.ble 8 k.1.1 = false := by
      cases h : Nat.ble 8 k.1.1
      · rfl
      · have := Nat.le_of_ble_eq_true h; omega
    rw [this, hf]
    rfl
  have hpi : (zu_pl k)[i.toNat]? = some f := by
    rw [hpl, List.getElem?_replicate, if_pos (by omega)]
  have ei : i = ((i.toNat : Nat) : Int) := by omega
  obtain ⟨s1, s2, s3⟩ := zu_sl_x (σ := σ) hwf hb1 hb2 hpi
  rw [← ei] at s1 s2
  refine ⟨?_, zu_okS_cons (zu_okS_tl (zu_okS_tl hS)) s2 s3⟩
  simp only [List.map_cons, hx]
  show xv_ald zc_D (zu_emb T kd σ) (.inl i :: .inr (.inr (some b)) :: S.map zu_x) t0 t1 = _
  unfold xv_ald
  simp only [hM]
  have c1 : (Nat.ble t0 (zu_cell k (b : Int) σ).1 && Nat.ble (zu_cell k (b : Int) σ).1 t1) = true := by
    rw [Bool.and_eq_true_iff]
    exact ⟨Nat.ble_eq_true_of_le ht0, Nat.ble_eq_true_of_le ht1⟩
  rw [c1]
  simp only [cond_true]
  rw [zu_ix (by rw [zu_cell_len, hpl, List.length_replicate]; exact hi)]
  simp only
  rw [zu_cell_at hpi, ← ei, s1]
theorem zs_ast {u tt : Nat} {S : List zu_v} {v i a : Int} {k : zu_k} (hwf : zu_wf T kd) (hS : zu_okS kd ((u, v) :: (0, i) :: (tt, a) :: S)) (hk : zu_kd T tt = some k) (hi : 0 ≤ i ∧ i < (k.1.2 : Int)) {t0 : Nat} {ty : FieldType} (ht0 : k.1.1 = t0)
    (hu : (u = 0 ∧ (t0 = 0 ∨ t0 = 2)) ∨ (u = 1 ∧ t0 = 1)) (hfit : xv_fit zc_D ty (zu_x (u, v)) = true) :
    xv_ast zc_D (zu_emb T kd σ) (((u, v) :: (0, i) :: (tt, a) :: S).map zu_x) t0 ty = some (S.map zu_x, zu_emb T kd (zu_up σ a i v), 0, 0) := by
  obtain ⟨b, rfl, hb1, hb2, hx, hM⟩ := zu_ref (σ := σ) (n := 0) (zu_okS_tl (zu_okS_tl hS)) hk
  have hw := hwf b _ k hb1 hb2
  obtain ⟨f, hf⟩ := hw.1.2.resolve_left (by rcases hu with ⟨_, q | q⟩ | ⟨_, q⟩ <;> omega)
  have hpl : zu_pl k = List.replicate k.1.2 f := by
    unfold zu_pl
    have : Nat.ble 8 k.1.1 = false := by
      cases h : Nat.ble 8 k.1.1
      · rfl
      · have := Nat.le_of_ble_eq_true h
        rcases hu with ⟨_, q | q⟩ | ⟨_, q⟩ <;> omega
    rw [this, hf]
    rfl
  have hpi : (zu_pl k)[i.toNat]? = some f := by
    rw [hpl, List.getElem?_replicate, if_pos (by omega)]
  have ei : i = ((i.toNat : Nat) : Int) := by omega
  have hw2 := hw.2 _ _ hpi
  simp only [List.map_cons, hx]
  show xv_ast zc_D (zu_emb T kd σ) (zu_x (u, v) :: .inl i :: .inr (.inr (some b)) :: S.map zu_x) t0 ty = _
  unfold xv_ast
  simp only [hM]
  have c1 : (Nat.beq (zu_cell k (b : Int) σ).1 t0 && xv_fit zc_D ty (zu_x (u, v))) = true := by
    rw [Bool.and_eq_true_iff]
    refine ⟨?_, hfit⟩
    rw [← ht0]
    exact Nat.beq_refl _
  rw [c1]
  simp only [cond_true]
  rw [zu_ix (by rw [zu_cell_len, hpl, List.length_replicate]; exact hi)]
  simp only
  rw [zu_emb_up (v := v) hb1 hb2 hpi ?_, ← ei]
  rcases hu with ⟨rfl, q⟩ | ⟨rfl, q⟩
  · exact Or.inl ⟨hw2.2.1 (by rw [ht0]; omega), rfl⟩
  · exact Or.inr ⟨hw2.2.2.1 (by rw [ht0]; exact q), rfl⟩
end ZUS
