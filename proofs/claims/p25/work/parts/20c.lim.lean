/-! WHAT A STEP MAY BE: nothing, one step on, a call and one step on, an end -/
abbrev zu_C : Type := Nat → List zu_v → zu_m → Option zu_R
def zu_form (F : zu_C → zu_I → Option zu_R) : Prop := (∀ c ih, F c ih = none) ∨ (∃ (pc : Nat) (L S : List zu_v) (σ : zu_m), ∀ c ih, F c ih = ih pc L S σ) ∨ (∃ (j : Nat) (as : List zu_v) (σ : zu_m) (pc : Nat) (L : List zu_v) (f : Int → List zu_v), ∀ c ih, F c ih = (c j as σ).bind (fun q => ih pc L (f q.1) q.2)) ∨ (∃ r : zu_R, ∀ c ih, F c ih = some r)
theorem zf_none : zu_form (fun _ _ => none) := Or.inl (fun _ _ => rfl)
theorem zf_ih (pc : Nat) (L S : List zu_v) (σ : zu_m) : zu_form (fun _ ih => ih pc L S σ) := Or.inr (Or.inl ⟨pc, L, S, σ, fun _ _ => rfl⟩)
theorem zf_some (r : zu_R) : zu_form (fun _ _ => some r) := Or.inr (Or.inr (Or.inr ⟨r, fun _ _ => rfl⟩))
theorem zf_ite {p : Prop} {d : Decidable p} {F G : zu_C → zu_I → Option zu_R} (hF : zu_form F) (hG : zu_form G) : zu_form (fun c ih => @ite _ p d (F c ih) (G c ih)) := by
  by_cases h : p
  · have e : (fun c ih => @ite _ p d (F c ih) (G c ih)) = F := by funext c ih; rw [if_pos h]
    rw [e]; exact hF
  · have e : (fun c ih => @ite _ p d (F c ih) (G c ih)) = G := by funext c ih; rw [if_neg h]
    rw [e]; exact hG
theorem zf_cnd {b : Bool} {F G : zu_C → zu_I → Option zu_R} (hF : zu_form F) (hG : zu_form G) : zu_form (fun c ih => bif b then F c ih else G c ih) := by
  cases b
  · exact hG
  · exact hF
theorem zf_jmp (pc : Nat) (off : Int) (L S : List zu_v) (σ : zu_m) : zu_form (fun _ ih => zu_jmp ih pc off L S σ) := by
  unfold zu_jmp
  cases h : xv_tgt pc off with
  | none => exact zf_none
  | some t => exact zf_ih t L S σ
theorem zf_cond (pc : Nat) (off : Int) (L S : List zu_v) (σ : zu_m) (p : Prop) (d : Decidable p) : zu_form (fun _ ih => zu_cond ih pc off L S σ p d) := by
  unfold zu_cond
  cases h : xv_tgt pc off with
  | none => exact zf_none
  | some t => exact zf_ite (zf_ih _ _ _ _) (zf_ih _ _ _ _)
theorem zf_tab (pc : Nat) (dflt a : Int) (L S : List zu_v) (σ : zu_m) : ∀ (r : List Int) (k : Int), zu_form (fun _ ih => zu_tab ih pc dflt a L S σ k r)
  | [], _ => zf_jmp pc dflt L S σ
  | off :: r, k => zf_ite (zf_jmp pc off L S σ) (zf_tab pc dflt a L S σ r (k + 1))
theorem zf_look (pc : Nat) (dflt a : Int) (L S : List zu_v) (σ : zu_m) : ∀ (r : List (Int × Int)), zu_form (fun _ ih => zu_look ih pc dflt a L S σ r)
  | [] => zf_jmp pc dflt L S σ
  | q :: r => zf_ite (zf_jmp pc q.2 L S σ) (zf_look pc dflt a L S σ r)
theorem zf_ald (T : zu_T) (pc : Nat) (L S : List zu_v) (σ : zu_m) (t0 t1 : Nat) : zu_form (fun _ ih => zu_ald T ih pc L S σ t0 t1) := by
  rcases S with _ | ⟨⟨_ | _, i⟩, _ | ⟨⟨t, a⟩, S⟩⟩
  · exact zf_none
  · exact zf_none
  · simp only [zu_ald]
    cases hk : zu_kd T t with
    | none => exact zf_none
    | some k =>
      refine zf_cnd ?_ zf_none
      cases hk2 : k.2 with
      | nil => exact zf_none
      | cons f r => exact zf_ite (zf_ih _ _ _ _) zf_none
  · exact zf_none
  · exact zf_none
theorem zf_ast (T : zu_T) (pc : Nat) (L S : List zu_v) (σ : zu_m) (t0 t : Nat) : zu_form (fun _ ih => zu_ast T ih pc L S σ t0 t) := by
  rcases S with _ | ⟨⟨u, v⟩, _ | ⟨⟨_ | _, i⟩, _ | ⟨⟨r, a⟩, S⟩⟩⟩
  · exact zf_none
  · exact zf_none
  · exact zf_none
  · simp only [zu_ast]
    cases hk : zu_kd T r with
    | none => exact zf_none
    | some k => exact zf_cnd (zf_ite (zf_ih _ _ _ _) zf_none) zf_none
  · exact zf_none
  · exact zf_none
theorem zf_b {v : Int} {F : zu_C → zu_I → Option zu_R} (hF : zu_form F) : zu_form (fun c ih => zu_b v (F c ih)) := zf_ite hF zf_none
theorem zf_inv (T : zu_T) (dl pc j : Nat) (L as R : List zu_v) (σ : zu_m) : zu_form (fun c ih => zu_inv T c ih dl pc j L as R σ) := by
  simp only [zu_inv]
  cases h1 : T.2.2.1[j]? with
  | none => exact zf_none
  | some y =>
    cases h2 : T.2.2.2[j]? with
    | none => exact zf_none
    | some d => exact zf_cnd (Or.inr (Or.inr (Or.inl ⟨j, as, σ, pc + 3, L, fun v => zu_push y.2.1.2.2.1 v R, fun _ _ => rfl⟩))) zf_none
theorem zf_math (pc j : Nat) (L S : List zu_v) (σ : zu_m) : zu_form (fun _ ih => zu_math ih pc j L S σ) := by
  rcases S with _ | ⟨⟨_ | _ | _, b⟩, _ | ⟨⟨_ | _ | _, a⟩, S⟩⟩
  all_goals first
    | exact zf_none
    | exact zf_cnd (zf_ih _ _ _ _) zf_none
    | exact zf_cnd (zf_cnd (zf_ih _ _ _ _) (zf_cnd (zf_ih _ _ _ _) zf_none)) zf_none
    | exact zf_cnd (zf_cnd (zf_ih _ _ _ _) zf_none) (zf_cnd (zf_cnd (zf_ih _ _ _ _) (zf_cnd (zf_ih _ _ _ _) zf_none)) zf_none)
set_option maxHeartbeats 4000000 in
theorem zf_rest (T : zu_T) (y : xv_N) (dl pc : Nat) (L S : List zu_v) (σ : zu_m) (i : Instr) : zu_form (fun c ih => zu_rest T c ih y dl pc L S σ i) := by
  cases i
  case goto off => exact zf_jmp pc off L S σ
  case if_icmp c off => rcases S with _ | ⟨⟨_ | _, b⟩, _ | ⟨⟨_ | _, a⟩, S⟩⟩ <;> first | exact zf_none | (cases c <;> exact zf_cond _ _ _ _ _ _ _)
  case ifCond c off => rcases S with _ | ⟨⟨_ | _, b⟩, S⟩ <;> first | exact zf_none | (cases c <;> exact zf_cond _ _ _ _ _ _ _)
  case tableswitch dflt lo hi offs => rcases S with _ | ⟨⟨_ | _, b⟩, S⟩ <;> first | exact zf_none | exact zf_cnd (zf_tab _ _ _ _ _ _ _ _) zf_none
  case lookupswitch dflt ps => rcases S with _ | ⟨⟨_ | _, b⟩, S⟩ <;> first | exact zf_none | exact zf_cnd (zf_look _ _ _ _ _ _ _) zf_none
  case idiv => rcases S with _ | ⟨⟨_ | _, b⟩, _ | ⟨⟨_ | _, a⟩, S⟩⟩ <;> first | exact zf_none | exact zf_ite zf_none (zf_ih _ _ _ _)
  case irem => rcases S with _ | ⟨⟨_ | _, b⟩, _ | ⟨⟨_ | _, a⟩, S⟩⟩ <;> first | exact zf_none | exact zf_ite zf_none (zf_ih _ _ _ _)
  case ldiv => rcases S with _ | ⟨⟨_ | _ | _, b⟩, _ | ⟨⟨_ | _ | _, a⟩, S⟩⟩ <;> first | exact zf_none | exact zf_ite zf_none (zf_ih _ _ _ _)
  case lrem => rcases S with _ | ⟨⟨_ | _ | _, b⟩, _ | ⟨⟨_ | _ | _, a⟩, S⟩⟩ <;> first | exact zf_none | exact zf_ite zf_none (zf_ih _ _ _ _)
  case getfield i =>
    simp only [zu_rest]
    cases h1 : xv_find y.1.2.1 i with
    | none => exact zf_none
    | some ck =>
      rcases S with _ | ⟨⟨t, a⟩, S⟩
      · exact zf_none
      · simp only []
        cases h2 : zu_kd T t with
        | none => exact zf_none
        | some k =>
          refine zf_cnd ?_ zf_none
          cases h3 : k.2[ck.2]? with
          | none => exact zf_none
          | some f => exact zf_ih _ _ _ _
  case putfield i =>
    simp only [zu_rest]
    cases h1 : xv_find y.1.2.1 i with
    | none => exact zf_none
    | some ck =>
      rcases S with _ | ⟨⟨u, v⟩, _ | ⟨⟨t, a⟩, S⟩⟩
      · exact zf_none
      · exact zf_none
      · simp only []
        cases h2 : zu_kd T t with
        | none => exact zf_none
        | some k =>
          cases h4 : T.2.1[ck.1]? with
          | none => exact zf_none
          | some fs =>
            refine zf_cnd ?_ zf_none
            cases h5 : k.2[ck.2]? with
            | none => exact zf_none
            | some g =>
              cases h3 : fs[ck.2]? with
              | none => exact zf_none
              | some f =>
                obtain ⟨f1, f2⟩ := f
                cases f1 <;> cases f2 <;> first | exact zf_none | exact zf_cnd (zf_ih _ _ _ _) zf_none | exact zf_cnd (zf_b (zf_ih _ _ _ _)) zf_none
  case getstatic i => exact zf_cnd (zf_ih _ _ _ _) zf_none
  case arraylength =>
    rcases S with _ | ⟨⟨t, a⟩, S⟩
    · exact zf_none
    · simp only [zu_rest]
      cases h2 : zu_kd T t with
      | none => exact zf_none
      | some k => exact zf_cnd (zf_ih _ _ _ _) zf_none
  case iaload => exact zf_ald T pc L S σ 0 3
  case laload => exact zf_ald T pc L S σ 1 1
  case baload => exact zf_ald T pc L S σ 2 2
  case aaload => exact zf_ald T pc L S σ 4 5
  case iastore => exact zf_ast T pc L S σ 0 0
  case lastore => exact zf_ast T pc L S σ 1 1
  case bastore =>
    rcases S with _ | ⟨⟨t, a⟩, S⟩
    · exact zf_none
    · exact zf_b (zf_ast T pc L ((t, a) :: S) σ 2 0)
  case invokevirtual i =>
    simp only [zu_rest]
    cases h1 : xv_find y.1.2.2.1 i with
    | none => exact zf_none
    | some q =>
      obtain ⟨_ | _, j⟩ := q
      · simp only []
        cases h2 : T.2.2.1[j]? with
        | none => exact zf_none
        | some z =>
          simp only []
          cases h3 : S.drop z.2.1.1 with
          | nil => exact zf_none
          | cons w R =>
            obtain ⟨t, a⟩ := w
            simp only []
            cases h4 : zu_kd T t with
            | none => exact zf_none
            | some k => exact zf_cnd (zf_inv _ _ _ _ _ _ _ _) zf_none
      · exact zf_none
  case invokestatic i =>
    simp only [zu_rest]
    cases h1 : xv_find y.1.2.2.1 i with
    | none => exact zf_none
    | some q =>
      obtain ⟨q1, j⟩ := q
      by_cases e3 : q1 = 3
      · subst e3
        simp only []
        cases h2 : T.2.2.1[j]? with
        | none => exact zf_math _ _ _ _ _
        | some z => exact zf_cnd (zf_inv _ _ _ _ _ _ _ _) zf_none
      · by_cases e6 : q1 = 6
        · subst e6
          rcases S with _ | ⟨⟨_ | _, n⟩, _ | ⟨⟨_ | _, dp⟩, _ | ⟨⟨tb, b⟩, _ | ⟨⟨_ | _, sp⟩, _ | ⟨⟨ta, a⟩, S⟩⟩⟩⟩⟩
          all_goals (first | exact zf_none | skip)
          simp only []
          cases h2 : zu_kd T ta with
          | none => exact zf_none
          | some ka =>
            cases h3 : zu_kd T tb with
            | none => exact zf_none
            | some kb => exact zf_cnd (zf_ite (zf_ih _ _ _ _) zf_none) zf_none
        · have e : (fun (c : zu_C) (ih : zu_I) => (match some (q1, j) with
            | some (3, j) => match T.2.2.1[j]? with
              | some z => bif Nat.ble z.2.1.1 S.length then zu_inv T c ih dl pc j L (S.take z.2.1.1).reverse (S.drop z.2.1.1) σ else none
              | none => zu_math ih pc j L S σ
            | some (6, _) => match S with
              | (0, n) :: (0, dp) :: (tb, b) :: (0, sp) :: (ta, a) :: S => match zu_kd T ta, zu_kd T tb with
                | some ka, some kb => bif Nat.beq ka.1.1 0 && Nat.beq kb.1.1 0 && Nat.ble (zu_cats S) 8 && Nat.ble ka.1.2 4095 && Nat.ble kb.1.2 4095 then (if 0 ≤ n ∧ 0 ≤ dp ∧ 0 ≤ sp ∧ sp + n ≤ (ka.1.2 : Int) ∧ dp + n ≤ (kb.1.2 : Int) then ih (pc + 3) L S (zu_cp σ a sp b dp n) else none) else none
                | _, _ => none
              | _ => none
            | _ => none : Option zu_R)) = fun _ _ => none := by
            funext c ih
            split
            · rename_i e; exact absurd (Prod.mk.inj (Option.some.inj e)).1 e3
            · rename_i e; exact absurd (Prod.mk.inj (Option.some.inj e)).1 e6
            · rfl
          exact e ▸ zf_none
  case return_ => rcases S with _ | ⟨w, S⟩ <;> first | exact zf_none | exact zf_cnd (zf_some _) zf_none
  case ireturn => rcases S with _ | ⟨⟨_ | _, b⟩, _ | ⟨w, S⟩⟩ <;> first | exact zf_none | exact zf_cnd (zf_some _) (zf_cnd (zf_b (zf_some _)) zf_none)
  case lreturn => rcases S with _ | ⟨⟨_ | _ | _, b⟩, _ | ⟨w, S⟩⟩ <;> first | exact zf_none | exact zf_cnd (zf_some _) zf_none
  all_goals exact zf_none
theorem zf_step (T : zu_T) (y : xv_N) (dl pc : Nat) (L S : List zu_v) (σ : zu_m) : zu_form (fun c ih => zu_step T c ih y dl pc L S σ) := by
  simp only [zu_step]
  cases h1 : xv_find y.2.2.2 pc with
  | none => exact zf_none
  | some i =>
    simp only []
    cases h2 : zu_pure y.1.2 L S i with
    | none => exact zf_rest T y dl pc L S σ i
    | some LS => exact zf_ih _ _ _ _
theorem zf_st (T : zu_T) (y : xv_N) (dl pc : Nat) (L S : List zu_v) (σ : zu_m) : (∀ c ih, zu_step T c ih y dl pc L S σ = none) ∨ (∃ (pc' : Nat) (L' S' : List zu_v) (σ' : zu_m), ∀ c ih, zu_step T c ih y dl pc L S σ = ih pc' L' S' σ') ∨ (∃ (j : Nat) (as : List zu_v) (σ' : zu_m) (pc' : Nat) (L' : List zu_v) (f : Int → List zu_v), ∀ c ih, zu_step T c ih y dl pc L S σ = (c j as σ').bind (fun q => ih pc' L' (f q.1) q.2)) ∨ (∃ r : zu_R, ∀ c ih, zu_step T c ih y dl pc L S σ = some r) := zf_step T y dl pc L S σ
def zu_go (T : zu_T) (n k : Nat) (as : List zu_v) (σ : zu_m) : Option zu_R := match T.2.2.1[k]? with
  | some z => zu_lp T n k 0 (zu_in as z.2.1.2.1) [] σ
  | none => none
theorem zu_lp_s (T : zu_T) (n j pc : Nat) (L S : List zu_v) (σ : zu_m) : zu_lp T (n + 1) j pc L S σ = match T.2.2.1[j]?, T.2.2.2[j]? with
    | some y, some d => zu_step T (zu_go T n) (zu_lp T n j) y d pc L S σ
    | _, _ => none := rfl
theorem zu_mono1 (T : zu_T) : ∀ (n j pc : Nat) (L S : List zu_v) (σ : zu_m) (r : zu_R), zu_lp T n j pc L S σ = some r → zu_lp T (n + 1) j pc L S σ = some r := by
  intro n
  induction n with
  | zero => intro j pc L S σ r h; cases h
  | succ n ihn =>
    intro j pc L S σ r h
    rw [zu_lp_s] at h ⊢
    cases h1 : T.2.2.1[j]? with
    | none => rw [h1] at h; cases h
    | some y =>
      cases h2 : T.2.2.2[j]? with
      | none => rw [h1, h2] at h; cases h
      | some d =>
        rw [h1, h2] at h
        simp only [] at h ⊢
        rcases zf_st T y d pc L S σ with hf | ⟨pc', L', S', σ', hf⟩ | ⟨j', as, σ', pc', L', f, hf⟩ | ⟨r', hf⟩
        · rw [hf] at h; cases h
        · rw [hf] at h ⊢
          exact ihn _ _ _ _ _ _ h
        · rw [hf] at h ⊢
          cases hc : zu_go T n j' as σ' with
          | none => rw [hc] at h; cases h
          | some q =>
            rw [hc] at h
            have hc2 : zu_go T (n + 1) j' as σ' = some q := by
              unfold zu_go at hc ⊢
              split at hc
              · exact ihn _ _ _ _ _ _ hc
              · cases hc
            rw [hc2]
            exact ihn _ _ _ _ _ _ h
        · rw [hf] at h ⊢; exact h
theorem zu_mono (T : zu_T) {n m j pc : Nat} {L S : List zu_v} {σ : zu_m} {r : zu_R} (hnm : n ≤ m) (h : zu_lp T n j pc L S σ = some r) : zu_lp T m j pc L S σ = some r := by
  induction hnm with
  | refl => exact h
  | step _ ih => exact zu_mono1 T _ _ _ _ _ _ _ ih
theorem zu_gmono (T : zu_T) {n m k : Nat} {as : List zu_v} {σ : zu_m} {r : zu_R} (hnm : n ≤ m) (h : zu_go T n k as σ = some r) : zu_go T m k as σ = some r := by
  unfold zu_go at h ⊢
  split at h
  · exact zu_mono T hnm h
  · cases h
/-- THE LIMIT: what the machine comes to -/
noncomputable def zu_ex (T : zu_T) (j pc : Nat) (L S : List zu_v) (σ : zu_m) : Option zu_R := @dite _ (∃ (n : Nat) (r : zu_R), zu_lp T n j pc L S σ = some r) (Classical.propDecidable _) (fun h => some h.choose_spec.choose) (fun _ => none)
noncomputable def zu_call (T : zu_T) (k : Nat) (as : List zu_v) (σ : zu_m) : Option zu_R := match T.2.2.1[k]? with
  | some z => zu_ex T k 0 (zu_in as z.2.1.2.1) [] σ
  | none => none
theorem zu_ex_of (T : zu_T) {n j pc : Nat} {L S : List zu_v} {σ : zu_m} {r : zu_R} (h : zu_lp T n j pc L S σ = some r) : zu_ex T j pc L S σ = some r := by
  unfold zu_ex
  have hex : ∃ (n : Nat) (r : zu_R), zu_lp T n j pc L S σ = some r := ⟨n, r, h⟩
  rw [dif_pos hex]
  have h2 := hex.choose_spec.choose_spec
  have h3 := zu_mono T (Nat.le_max_left n hex.choose) h
  have h4 := zu_mono T (Nat.le_max_right n hex.choose) h2
  exact h4.symm.trans h3
theorem zu_of_ex (T : zu_T) {j pc : Nat} {L S : List zu_v} {σ : zu_m} {r : zu_R} (h : zu_ex T j pc L S σ = some r) : ∃ n, zu_lp T n j pc L S σ = some r := by
  unfold zu_ex at h
  split at h
  · rename_i hex
    have h2 := hex.choose_spec.choose_spec
    rw [Option.some.inj h] at h2
    exact ⟨_, h2⟩
  · cases h
theorem zu_of_call (T : zu_T) {k : Nat} {as : List zu_v} {σ : zu_m} {r : zu_R} (h : zu_call T k as σ = some r) : ∃ n, zu_go T n k as σ = some r := by
  unfold zu_call at h
  unfold zu_go
  split at h
  · exact zu_of_ex T h
  · cases h
theorem zu_call_of (T : zu_T) {n k : Nat} {as : List zu_v} {σ : zu_m} {r : zu_R} (h : zu_go T n k as σ = some r) : zu_call T k as σ = some r := by
  unfold zu_go at h
  unfold zu_call
  split at h
  · exact zu_ex_of T h
  · cases h
theorem zu_opt {x y : Option zu_R} (h1 : ∀ r, x = some r → y = some r) (h2 : ∀ r, y = some r → x = some r) : x = y := by
  cases x with
  | some r => exact (h1 r rfl).symm
  | none => cases y with
    | none => rfl
    | some r => exact h2 r rfl
/-- THE EQUATION -/
theorem zu_fix (T : zu_T) {j d : Nat} {y : xv_N} (h1 : T.2.2.1[j]? = some y) (h2 : T.2.2.2[j]? = some d) (pc : Nat) (L S : List zu_v) (σ : zu_m) : zu_ex T j pc L S σ = zu_step T (zu_call T) (zu_ex T j) y d pc L S σ := by
  refine zu_opt (fun r h => ?_) (fun r h => ?_)
  · obtain ⟨n, hn⟩ := zu_of_ex T h
    cases n with
    | zero => cases hn
    | succ n =>
      rw [zu_lp_s, h1, h2] at hn
      simp only [] at hn
      rcases zf_st T y d pc L S σ with hf | ⟨pc', L', S', σ', hf⟩ | ⟨j', as, σ', pc', L', f, hf⟩ | ⟨r', hf⟩
      · rw [hf] at hn; cases hn
      · rw [hf] at hn ⊢; exact zu_ex_of T hn
      · rw [hf] at hn ⊢
        cases hc : zu_go T n j' as σ' with
        | none => rw [hc] at hn; cases hn
        | some q =>
          rw [hc] at hn
          rw [zu_call_of T hc]
          exact zu_ex_of T hn
      · rw [hf] at hn ⊢; exact hn
  · have key : ∀ n, zu_step T (zu_go T n) (zu_lp T n j) y d pc L S σ = some r → zu_ex T j pc L S σ = some r := fun n hn => zu_ex_of T (n := n + 1) (by rw [zu_lp_s, h1, h2]; exact hn)
    rcases zf_st T y d pc L S σ with hf | ⟨pc', L', S', σ', hf⟩ | ⟨j', as, σ', pc', L', f, hf⟩ | ⟨r', hf⟩
    · rw [hf] at h; cases h
    · rw [hf] at h
      obtain ⟨n, hn⟩ := zu_of_ex T h
      exact key n (by rw [hf]; exact hn)
    · rw [hf] at h
      cases hc : zu_call T j' as σ' with
      | none => rw [hc] at h; cases h
      | some q =>
        rw [hc] at h
        obtain ⟨n, hn⟩ := zu_of_ex T h
        obtain ⟨m, hm⟩ := zu_of_call T hc
        refine key (max n m) ?_
        rw [hf, zu_gmono T (Nat.le_max_right n m) hm]
        exact zu_mono T (Nat.le_max_left n m) hn
    · rw [hf] at h
      exact key 0 (by rw [hf]; exact h)
/-- A REGION of a method's body: up to the instructions at which it stops -/
noncomputable def zu_reg (T : zu_T) (j d : Nat) (y : xv_N) (stops : List Nat) : Nat → Nat → List zu_v → List zu_v → zu_m → Option zu_R
  | 0 => zu_ex T j
  | n + 1 => zu_step T (zu_call T) (fun pc L S σ => bif stops.any (Nat.beq pc) then zu_ex T j pc L S σ else zu_reg T j d y stops n pc L S σ) y d
theorem zu_reg_eq (T : zu_T) {j d : Nat} {y : xv_N} (h1 : T.2.2.1[j]? = some y) (h2 : T.2.2.2[j]? = some d) (stops : List Nat) : ∀ n, zu_reg T j d y stops n = zu_ex T j := by
  intro n
  induction n with
  | zero => rfl
  | succ n ih =>
    funext pc L S σ
    rw [zu_fix T h1 h2]
    have e : (fun (pc : Nat) (L S : List zu_v) (σ : zu_m) => bif stops.any (Nat.beq pc) then zu_ex T j pc L S σ else zu_reg T j d y stops n pc L S σ) = zu_ex T j := by
      funext pc L S σ
      rw [ih]
      cases stops.any (Nat.beq pc) <;> rfl
    show zu_step T (zu_call T) (fun (pc : Nat) (L S : List zu_v) (σ : zu_m) => bif stops.any (Nat.beq pc) then zu_ex T j pc L S σ else zu_reg T j d y stops n pc L S σ) y d pc L S σ = _
    rw [e]
