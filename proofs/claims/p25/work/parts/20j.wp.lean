/-! WHAT A RUN COMES TO: rules -/
def zw (x : Option zu_R) (Q : Int → zu_m → Prop) : Prop := ∃ (v : Int) (σ : zu_m), x = some (v, σ) ∧ Q v σ
def zu_le (x y : Option zu_R) : Prop := ∀ r, x = some r → y = some r
theorem zu_le_rf (x : Option zu_R) : zu_le x x := fun _ h => h
theorem zu_le_tr {x y z : Option zu_R} (h1 : zu_le x y) (h2 : zu_le y z) : zu_le x z := fun r h => h2 r (h1 r h)
theorem zu_le_ite {p : Prop} {d : Decidable p} {x y x' y' : Option zu_R} (h1 : zu_le x x') (h2 : zu_le y y') : zu_le (@ite _ p d x y) (@ite _ p d x' y') := by
  by_cases h : p
  · rw [if_pos h, if_pos h]; exact h1
  · rw [if_neg h, if_neg h]; exact h2
theorem zu_le_bind {x : Option zu_R} {f g : zu_R → Option zu_R} (h : ∀ q, zu_le (f q) (g q)) : zu_le (x.bind f) (x.bind g) := by
  cases x with
  | none => exact zu_le_rf _
  | some q => exact h q
theorem zw_le {x y : Option zu_R} {Q : Int → zu_m → Prop} (h : zu_le x y) (hx : zw x Q) : zw y Q := by
  obtain ⟨v, σ, h1, h2⟩ := hx
  exact ⟨v, σ, h _ h1, h2⟩
theorem zw_mono {x : Option zu_R} {P Q : Int → zu_m → Prop} (hx : zw x P) (h : ∀ v σ, P v σ → Q v σ) : zw x Q := by
  obtain ⟨v, σ, h1, h2⟩ := hx
  exact ⟨v, σ, h1, h _ _ h2⟩
theorem zw_ite {p : Prop} {d : Decidable p} {x y : Option zu_R} {Q : Int → zu_m → Prop} (h1 : p → zw x Q) (h2 : ¬ p → zw y Q) : zw (@ite _ p d x y) Q := by
  by_cases h : p
  · rw [if_pos h]; exact h1 h
  · rw [if_neg h]; exact h2 h
theorem zw_if {p : Prop} {d : Decidable p} {x : Option zu_R} {Q : Int → zu_m → Prop} (h : p) (h1 : zw x Q) : zw (@ite _ p d x none) Q := by
  rw [if_pos h]; exact h1
theorem zw_some {v : Int} {σ : zu_m} {Q : Int → zu_m → Prop} (h : Q v σ) : zw (some (v, σ)) Q := ⟨v, σ, rfl, h⟩
theorem zw_bind {x : Option zu_R} {f : zu_R → Option zu_R} {P Q : Int → zu_m → Prop} (hx : zw x P) (h : ∀ v σ, P v σ → zw (f (v, σ)) Q) : zw (x.bind f) Q := by
  obtain ⟨v, σ, h1, h2⟩ := hx
  rw [h1]
  exact h v σ h2
theorem zw_b {v : Int} {x : Option zu_R} {Q : Int → zu_m → Prop} (h : v = 0 ∨ v = 1) (h1 : zw x Q) : zw (zu_b v x) Q := zw_if h h1
theorem zu_w32_id {z : Int} (h1 : -2147483648 ≤ z) (h2 : z ≤ 2147483647) : zu_w32 z = z := Int.bmod_eq_of_le_mul_two (y := 4294967296) (by omega) (by omega)
theorem zu_w64_id {z : Int} (h1 : -9223372036854775808 ≤ z) (h2 : z ≤ 9223372036854775807) : zu_w64 z = z := Int.bmod_eq_of_le_mul_two (y := 18446744073709551616) (by omega) (by omega)
theorem zu_up_eq {σ : zu_m} {a i v : Int} : zu_up σ a i v a i = v := by unfold zu_up; rw [if_pos ⟨rfl, rfl⟩]
theorem zu_up_ne {σ : zu_m} {a i v b j : Int} (h : b ≠ a ∨ j ≠ i) : zu_up σ a i v b j = σ b j := by unfold zu_up; rw [if_neg (by rintro ⟨rfl, rfl⟩; exact h.elim (fun q => q rfl) (fun q => q rfl))]
theorem zu_up_at {σ : zu_m} {a i v b j : Int} (h : b = a ∧ j = i) : zu_up σ a i v b j = v := by unfold zu_up; rw [if_pos h]
/-! locals that are forgotten -/
def zu_lr (L L' : List zu_v) : Prop := L.length = L'.length ∧ ∀ (i : Nat) (w : zu_v), L[i]? = some w → w.1 ≠ 2 → L'[i]? = some w
theorem zu_lr_set {L L' : List zu_v} (h : zu_lr L L') (i : Nat) (w : zu_v) : zu_lr (L.set i w) (L'.set i w) := by
  refine ⟨by rw [List.length_set, List.length_set]; exact h.1, fun j x hx hn => ?_⟩
  rw [List.getElem?_set] at hx ⊢
  rw [← h.1]
  split at hx
  · rename_i e; rw [if_pos e]; exact hx
  · rename_i e; rw [if_neg e]; exact h.2 j x hx hn
theorem zu_lr_setr {L L' : List zu_v} (h : zu_lr L L') {i : Nat} {w : zu_v} (hw : ∀ x, L[i]? = some x → x.1 = 2) : zu_lr L (L'.set i w) := by
  refine ⟨by rw [List.length_set]; exact h.1, fun j x hx hn => ?_⟩
  rw [List.getElem?_set]
  split
  · rename_i e
    subst e
    exact absurd (hw x hx) hn
  · exact h.2 j x hx hn
theorem zu_lr_setl {L L' : List zu_v} (h : zu_lr L L') {i : Nat} {v : Int} : zu_lr (L.set i (2, v)) L' := by
  refine ⟨by rw [List.length_set]; exact h.1, fun j x hx hn => ?_⟩
  rw [List.getElem?_set] at hx
  split at hx
  · split at hx
    · cases hx; exact absurd rfl hn
    · cases hx
  · exact h.2 j x hx hn
theorem zu_lr_kill {L L' : List zu_v} (h : zu_lr L L') (i : Nat) : zu_lr (zu_kill L i) (zu_kill L' i) := by
  cases i with
  | zero => exact h
  | succ j =>
    simp only [zu_kill]
    rcases hL : L[j]? with _ | ⟨_ | _ | _ | t, v⟩
    · have : L'[j]? = none := by
        rw [List.getElem?_eq_none_iff] at hL ⊢
        rw [← h.1]; exact hL
      rw [this]; exact h
    · rw [h.2 j _ hL zu_n02]; exact h
    · rw [h.2 j _ hL zu_n12]
      exact zu_lr_set h j (2, 0)
    · simp only
      split
      · exact zu_lr_setr h (fun x hx => by rw [hL] at hx; cases hx; rfl)
      · exact h
    · rw [h.2 j _ hL (by show t + 3 ≠ 2; omega)]; exact h
theorem zu_lr_put1 {L L' : List zu_v} (h : zu_lr L L') (i : Nat) (w : zu_v) : zu_lr (zu_put1 L i w) (zu_put1 L' i w) := zu_lr_set (zu_lr_kill h i) i w
theorem zu_lr_put2 {L L' : List zu_v} (h : zu_lr L L') (i : Nat) (w : zu_v) : zu_lr (zu_put2 L i w) (zu_put2 L' i w) := zu_lr_set (zu_lr_set (zu_lr_kill h i) (i + 1) (2, 0)) i w
def zu_lrP (K : xv_K) (L' S : List zu_v) (i : Instr) (L1 S1 : List zu_v) : Prop := ∃ L1', zu_pure K L' S i = some (L1', S1) ∧ zu_lr L1 L1'
theorem zu_lr_ld {L L' S L1 S1 : List zu_v} {t i : Nat} (hr : zu_lr L L') (h : zu_ld L S t i = some (L1, S1)) : ∃ L1', zu_ld L' S t i = some (L1', S1) ∧ zu_lr L1 L1' := by
  unfold zu_ld at h ⊢
  rcases hi : L[i]? with _ | ⟨_ | _ | _ | k, v⟩ <;> rw [hi] at h <;> simp only [reduceCtorEq] at h
  · rw [hr.2 i _ hi zu_n02]
    cases ht : Nat.beq t 0 <;> simp only [ht, cond_true, cond_false, reduceCtorEq] at h ⊢
    cases h
    exact ⟨L', rfl, hr⟩
  · rw [hr.2 i _ hi zu_n12]
    cases ht : Nat.beq t 1 <;> simp only [ht, cond_true, cond_false, reduceCtorEq] at h ⊢
    cases h
    exact ⟨L', rfl, hr⟩
  · rw [hr.2 i _ hi (by show k + 3 ≠ 2; omega)]
    cases ht : Nat.beq t 2 <;> simp only [ht, cond_true, cond_false, reduceCtorEq] at h ⊢
    cases h
    exact ⟨L', rfl, hr⟩
theorem zu_lr_sto {L L' S L1 S1 : List zu_v} {t i : Nat} (hr : zu_lr L L') (h : zu_sto L S t i = some (L1, S1)) : ∃ L1', zu_sto L' S t i = some (L1', S1) ∧ zu_lr L1 L1' := by
  unfold zu_sto at h ⊢
  rw [← hr.1]
  rcases S with _ | ⟨⟨_ | _ | _ | k, v⟩, S⟩ <;> simp only [reduceCtorEq] at h ⊢
  · cases ht : (Nat.beq t 0 && Nat.blt i L.length) <;> simp only [ht, cond_true, cond_false, reduceCtorEq] at h ⊢
    cases h
    exact ⟨_, rfl, zu_lr_put1 hr _ _⟩
  · cases ht : (Nat.beq t 1 && Nat.blt (i + 1) L.length) <;> simp only [ht, cond_true, cond_false, reduceCtorEq] at h ⊢
    cases h
    exact ⟨_, rfl, zu_lr_put2 hr _ _⟩
  · cases ht : (Nat.beq t 2 && Nat.blt i L.length) <;> simp only [ht, cond_true, cond_false, reduceCtorEq] at h ⊢
    cases h
    exact ⟨_, rfl, zu_lr_put1 hr _ _⟩
theorem zu_lr_i2 {f : Int → Int → Int} {L L' S L1 S1 : List zu_v} (hr : zu_lr L L') (h : zu_i2 f L S = some (L1, S1)) : ∃ L1', zu_i2 f L' S = some (L1', S1) ∧ zu_lr L1 L1' := by
  unfold zu_i2 at h ⊢
  rcases S with _ | ⟨⟨_ | _, b⟩, _ | ⟨⟨_ | _, a⟩, S⟩⟩ <;> simp only [reduceCtorEq] at h ⊢
  cases h
  exact ⟨_, rfl, hr⟩
theorem zu_lr_l2 {f : Int → Int → Int} {L L' S L1 S1 : List zu_v} (hr : zu_lr L L') (h : zu_l2 f L S = some (L1, S1)) : ∃ L1', zu_l2 f L' S = some (L1', S1) ∧ zu_lr L1 L1' := by
  unfold zu_l2 at h ⊢
  rcases S with _ | ⟨⟨_ | _ | _, b⟩, _ | ⟨⟨_ | _ | _, a⟩, S⟩⟩ <;> simp only [reduceCtorEq] at h ⊢
  cases h
  exact ⟨_, rfl, hr⟩
theorem zu_lr_s2 {f : Int → Int → Int} {L L' S L1 S1 : List zu_v} (hr : zu_lr L L') (h : zu_s2 f L S = some (L1, S1)) : ∃ L1', zu_s2 f L' S = some (L1', S1) ∧ zu_lr L1 L1' := by
  unfold zu_s2 at h ⊢
  rcases S with _ | ⟨⟨_ | _, b⟩, _ | ⟨⟨_ | _ | _, a⟩, S⟩⟩ <;> simp only [reduceCtorEq] at h ⊢
  cases h
  exact ⟨_, rfl, hr⟩
theorem zu_lr_cst {L L' S L1 S1 : List zu_v} {b : Bool} {w : zu_v} (hr : zu_lr L L') (h : (bif b then some (L, w :: S) else none) = some (L1, S1)) : ∃ L1', (bif b then some (L', w :: S) else none) = some (L1', S1) ∧ zu_lr L1 L1' := by
  cases b
  · cases h
  · cases h
    exact ⟨_, rfl, hr⟩
set_option maxHeartbeats 4000000 in
theorem zu_lr_pure {K : xv_K} {L L' S L1 S1 : List zu_v} {i : Instr} (hr : zu_lr L L') (h : zu_pure K L S i = some (L1, S1)) : zu_lrP K L' S i L1 S1 := by
  unfold zu_lrP
  cases i
  all_goals (first | (cases h; done) | skip)
  case iconst n => exact zu_lr_cst hr h
  case bipush n => exact zu_lr_cst hr h
  case sipush n => exact zu_lr_cst hr h
  case lconst n => cases h; exact ⟨_, rfl, hr⟩
  case ldc i =>
    simp only [zu_pure] at h ⊢
    cases hf : xv_find K.2.2.2.1 i with
    | none => rw [hf] at h; cases h
    | some v => rw [hf] at h; cases h; exact ⟨_, rfl, hr⟩
  case ldc2_w i =>
    simp only [zu_pure] at h ⊢
    cases hf : xv_find K.2.2.2.2 i with
    | none => rw [hf] at h; cases h
    | some v => rw [hf] at h; cases h; exact ⟨_, rfl, hr⟩
  case iload_n k => exact zu_lr_ld hr h
  case iload k => exact zu_lr_ld hr h
  case lload_n k => exact zu_lr_ld hr h
  case lload k => exact zu_lr_ld hr h
  case aload_n k => exact zu_lr_ld hr h
  case aload k => exact zu_lr_ld hr h
  case istore_n k => exact zu_lr_sto hr h
  case istore k => exact zu_lr_sto hr h
  case lstore_n k => exact zu_lr_sto hr h
  case lstore k => exact zu_lr_sto hr h
  case astore_n k => exact zu_lr_sto hr h
  case astore k => exact zu_lr_sto hr h
  case iinc k n =>
    simp only [zu_pure] at h ⊢
    rcases hi : L[k]? with _ | ⟨_ | _, v⟩ <;> rw [hi] at h <;> simp only [reduceCtorEq] at h
    rw [hr.2 k _ hi zu_n02]
    cases hs : zu_small (-128) 127 n <;> simp only [hs, cond_true, cond_false, reduceCtorEq] at h ⊢
    cases h
    exact ⟨_, rfl, zu_lr_put1 hr _ _⟩
  case iadd => exact zu_lr_i2 hr h
  case isub => exact zu_lr_i2 hr h
  case imul => exact zu_lr_i2 hr h
  case iand => exact zu_lr_i2 hr h
  case ior => exact zu_lr_i2 hr h
  case ishl => exact zu_lr_i2 hr h
  case ishr => exact zu_lr_i2 hr h
  case iushr => exact zu_lr_i2 hr h
  case ladd => exact zu_lr_l2 hr h
  case lsub => exact zu_lr_l2 hr h
  case lmul => exact zu_lr_l2 hr h
  case land => exact zu_lr_l2 hr h
  case lor => exact zu_lr_l2 hr h
  case lshl => exact zu_lr_s2 hr h
  case lshr => exact zu_lr_s2 hr h
  case ineg => rcases S with _ | ⟨⟨_ | _, a⟩, S⟩ <;> cases h; exact ⟨_, rfl, hr⟩
  case lneg => rcases S with _ | ⟨⟨_ | _ | _, a⟩, S⟩ <;> cases h; exact ⟨_, rfl, hr⟩
  case i2l => rcases S with _ | ⟨⟨_ | _, a⟩, S⟩ <;> cases h; exact ⟨_, rfl, hr⟩
  case l2i => rcases S with _ | ⟨⟨_ | _ | _, a⟩, S⟩ <;> cases h; exact ⟨_, rfl, hr⟩
  case lcmp => rcases S with _ | ⟨⟨_ | _ | _, b⟩, _ | ⟨⟨_ | _ | _, a⟩, S⟩⟩ <;> cases h; exact ⟨_, rfl, hr⟩
  case dup => rcases S with _ | ⟨⟨_ | _ | _, b⟩, S⟩ <;> cases h <;> exact ⟨_, rfl, hr⟩
  case pop => rcases S with _ | ⟨⟨_ | _ | _, b⟩, S⟩ <;> cases h <;> exact ⟨_, rfl, hr⟩
  case dup2 => rcases S with _ | ⟨⟨_ | _ | _, b⟩, _ | ⟨⟨_ | _ | _, a⟩, S⟩⟩ <;> cases h <;> exact ⟨_, rfl, hr⟩
theorem zu_tab_L {ih : zu_I} {pc : Nat} {dflt a : Int} {L L' S : List zu_v} {σ : zu_m} : ∀ (l : List Int) (k : Int), zu_tab ih pc dflt a L S σ k l = zu_tab (fun pc _ S σ => ih pc L S σ) pc dflt a L' S σ k l
  | [], _ => rfl
  | off :: l, k => by
    simp only [zu_tab]
    rw [zu_tab_L (L' := L') l (k + 1)]
    rfl
theorem zu_look_L {ih : zu_I} {pc : Nat} {dflt a : Int} {L L' S : List zu_v} {σ : zu_m} : ∀ (l : List (Int × Int)), zu_look ih pc dflt a L S σ l = zu_look (fun pc _ S σ => ih pc L S σ) pc dflt a L' S σ l
  | [] => rfl
  | q :: l => by
    simp only [zu_look]
    rw [zu_look_L (L' := L') l]
    rfl
theorem zu_rest_L (T : zu_T) (c : zu_C) (ih : zu_I) (y : xv_N) (dl pc : Nat) (L L' S : List zu_v) (σ : zu_m) (i : Instr) : zu_rest T c ih y dl pc L S σ i = zu_rest T c (fun pc _ S σ => ih pc L S σ) y dl pc L' S σ i := by
  cases i
  case tableswitch dflt lo hi offs =>
    rcases S with _ | ⟨⟨_ | _, a⟩, S⟩ <;> first | rfl | (simp only [zu_rest]; rw [zu_tab_L (L' := L')])
  case lookupswitch dflt ps =>
    rcases S with _ | ⟨⟨_ | _, a⟩, S⟩ <;> first | rfl | (simp only [zu_rest]; rw [zu_look_L (L' := L')])
  all_goals rfl
theorem zu_pure_rest {T : zu_T} {c : zu_C} {ih : zu_I} {y : xv_N} {dl pc : Nat} {L L' S : List zu_v} {σ : zu_m} {i : Instr} {x : List zu_v × List zu_v} (h : zu_pure y.1.2 L' S i = some x) : zu_rest T c ih y dl pc L S σ i = none := by
  cases i <;> first | rfl | (cases h; done)
theorem zu_fg1 (T : zu_T) : ∀ (n j pc : Nat) (L L' S : List zu_v) (σ : zu_m) (r : zu_R), zu_lr L L' → zu_lp T n j pc L S σ = some r → zu_lp T n j pc L' S σ = some r := by
  intro n
  induction n with
  | zero => intro j pc L L' S σ r _ h; cases h
  | succ n ihn =>
    intro j pc L L' S σ r hr h
    rw [zu_lp_s] at h ⊢
    cases h1 : T.2.2.1[j]? with
    | none => rw [h1] at h; cases h
    | some y =>
      cases h2 : T.2.2.2[j]? with
      | none => rw [h1, h2] at h; cases h
      | some d =>
        rw [h1, h2] at h
        simp only [] at h ⊢
        unfold zu_step at h ⊢
        cases hi : xv_find y.2.2.2 pc with
        | none => rw [hi] at h; cases h
        | some i =>
          rw [hi] at h
          simp only [] at h ⊢
          cases hp : zu_pure y.1.2 L S i with
          | some LS =>
            rw [hp] at h
            obtain ⟨L1', e, hr'⟩ := zu_lr_pure hr hp
            rw [e]
            exact ihn _ _ _ _ _ _ _ hr' h
          | none =>
            rw [hp] at h
            simp only [] at h
            cases hp2 : zu_pure y.1.2 L' S i with
            | some x => rw [zu_pure_rest hp2] at h; cases h
            | none =>
              simp only []
              rw [zu_rest_L T (zu_go T n) (zu_lp T n j) y d pc L L'] at h
              rw [zu_rest_L T (zu_go T n) (zu_lp T n j) y d pc L' L']
              have hz : (∀ c ih, zu_rest T c ih y d pc L' S σ i = none) ∨ (∃ (pc' : Nat) (L'' S' : List zu_v) (σ' : zu_m), ∀ c ih, zu_rest T c ih y d pc L' S σ i = ih pc' L'' S' σ') ∨ (∃ (j : Nat) (as : List zu_v) (σ' : zu_m) (pc' : Nat) (L'' : List zu_v) (f : Int → List zu_v), ∀ c ih, zu_rest T c ih y d pc L' S σ i = (c j as σ').bind (fun q => ih pc' L'' (f q.1) q.2)) ∨ (∃ r : zu_R, ∀ c ih, zu_rest T c ih y d pc L' S σ i = some r) := zf_rest T y d pc L' S σ i
              rcases hz with hf | ⟨pc', L'', S', σ', hf⟩ | ⟨j', as, σ', pc', L'', f, hf⟩ | ⟨r', hf⟩
              · rw [hf] at h; cases h
              · rw [hf] at h ⊢
                exact ihn _ _ _ _ _ _ _ hr h
              · rw [hf] at h ⊢
                cases hc : zu_go T n j' as σ' with
                | none => rw [hc] at h; cases h
                | some q =>
                  rw [hc] at h
                  exact ihn _ _ _ _ _ _ _ hr h
              · rw [hf] at h ⊢; exact h
/-- what is known with fewer locals is known with more -/
theorem zu_forget {T : zu_T} {j pc : Nat} {L L' S : List zu_v} {σ : zu_m} (hr : zu_lr L L') : zu_le (zu_ex T j pc L S σ) (zu_ex T j pc L' S σ) := fun r h => by
  obtain ⟨n, hn⟩ := zu_of_ex T h
  exact zu_ex_of T (zu_fg1 T n j pc L L' S σ r hr hn)
theorem zu_lr_nil : zu_lr [] [] := ⟨rfl, fun i w h => by simp at h⟩
theorem zu_lr_same {L L' : List zu_v} {w : zu_v} (h : zu_lr L L') : zu_lr (w :: L) (w :: L') := ⟨by rw [List.length_cons, List.length_cons, h.1], fun i x hx hn => by
  cases i with
  | zero => exact hx
  | succ i => exact h.2 i x (by simpa using hx) hn⟩
theorem zu_lr_drop {L L' : List zu_v} {w : zu_v} {v : Int} (h : zu_lr L L') : zu_lr ((2, v) :: L) (w :: L') := ⟨by rw [List.length_cons, List.length_cons, h.1], fun i x hx hn => by
  cases i with
  | zero => cases hx; exact absurd rfl hn
  | succ i => exact h.2 i x (by simpa using hx) hn⟩
