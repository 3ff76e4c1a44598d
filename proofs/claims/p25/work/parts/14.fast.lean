/-! THE FAST MACHINE: the same steps, each instruction a function of its own, lists laid out at once (by continuations), the memory in rows of 16 cells -/
noncomputable def xf_get {α : Type} (l : List α) : Nat → Option α :=
  List.rec (motive := fun _ => Nat → Option α) (fun _ => none) (fun h _ ih n => Nat.rec (motive := fun _ => Option α) (some h) (fun m _ => ih m) n) l
theorem xf_get_eq {α : Type} : ∀ (l : List α) (n : Nat), xf_get l n = l[n]?
  | [], _ => by simp [xf_get]
  | _ :: _, 0 => rfl
  | _ :: t, n + 1 => by rw [List.getElem?_cons_succ, ← xf_get_eq t n]; rfl
noncomputable def xf_set {α β : Type} (a : α) (l : List α) : Nat → (List α → β) → β :=
  List.rec (motive := fun _ => Nat → (List α → β) → β) (fun _ k => k []) (fun h t ih n k => Nat.rec (motive := fun _ => β) (k (a :: t)) (fun m _ => ih m (fun r => k (h :: r))) n) l
theorem xf_set_eq {α β : Type} {a : α} : ∀ (l : List α) (n : Nat) (k : List α → β), xf_set a l n k = k (l.set n a)
  | [], _, _ => rfl
  | _ :: _, 0, _ => rfl
  | h :: t, n + 1, k => by
    show xf_set a t n (fun r => k (h :: r)) = _
    rw [xf_set_eq t n]
    rfl
noncomputable def xf_rep {α β : Type} (v : α) (n : Nat) : (List α → β) → β :=
  Nat.rec (motive := fun _ => (List α → β) → β) (fun k => k []) (fun _ ih k => ih (fun r => k (v :: r))) n
theorem xf_rep_eq {α β : Type} {v : α} : ∀ (n : Nat) (k : List α → β), xf_rep v n k = k (List.replicate n v)
  | 0, _ => rfl
  | n + 1, k => by
    show xf_rep v n (fun r => k (v :: r)) = _
    rw [xf_rep_eq n]
    rfl
noncomputable def xf_lay {α β : Type} (l : List α) : (List α → β) → β :=
  List.rec (motive := fun _ => (List α → β) → β) (fun k => k []) (fun h _ ih k => ih (fun r => k (h :: r))) l
theorem xf_lay_eq {α β : Type} : ∀ (l : List α) (k : List α → β), xf_lay l k = k l
  | [], _ => rfl
  | h :: t, k => by
    show xf_lay t (fun r => k (h :: r)) = _
    rw [xf_lay_eq t]
noncomputable def xf_nat {β : Type} (n : Nat) (k : Nat → β) : β := Nat.rec (motive := fun _ => β) (k 0) (fun m _ => k (m + 1)) n
theorem xf_nat_eq {β : Type} (n : Nat) (k : Nat → β) : xf_nat n k = k n := by cases n <;> rfl
/-- the upper n of the stack, the lowest first, and the rest -/
noncomputable def xf_pop {α β : Type} (n : Nat) : List α → List α → (List α → List α → Option β) → Option β :=
  Nat.rec (motive := fun _ => List α → List α → (List α → List α → Option β) → Option β) (fun S a k => k a S) (fun _ ih S a k => List.rec (motive := fun _ => Option β) none (fun v S _ => ih S (v :: a) k) S) n
theorem xf_pop_eq {α β : Type} : ∀ (n : Nat) (S a : List α) (k : List α → List α → Option β) (r : β), xf_pop n S a k = some r → n ≤ S.length ∧ k ((S.take n).reverse ++ a) (S.drop n) = some r
  | 0, S, a, k, r, h => ⟨Nat.zero_le _, h⟩
  | n + 1, [], a, k, r, h => by cases h
  | n + 1, v :: S, a, k, r, h => by
    have h2 := xf_pop_eq n S (v :: a) k r h
    refine ⟨Nat.succ_le_succ h2.1, ?_⟩
    rw [List.take_succ_cons, List.reverse_cons, List.append_assoc, List.drop_succ_cons]
    exact h2.2
section XF0
variable {V : Type}
noncomputable def xf_in {β : Type} (as : List (xv_V V)) : Nat → (xv_L V → β) → β :=
  List.rec (motive := fun _ => Nat → (xv_L V → β) → β) (fun n k => xf_rep none n k) (fun v _ ih n k => match v with
    | .inr (.inl a) => ih (n - 2) (fun r => k (some (.inr (.inl a)) :: none :: r))
    | v => ih (n - 1) (fun r => k (some v :: r))) as
theorem xf_in_eq {β : Type} : ∀ (as : List (xv_V V)) (n : Nat) (k : xv_L V → β), xf_in as n k = k (xv_in as n)
  | [], n, k => by show xf_rep none n k = _; rw [xf_rep_eq]; rfl
  | .inr (.inl a) :: r, n, k => by
    show xf_in r (n - 2) (fun r => k (some (.inr (.inl a)) :: none :: r)) = _
    rw [xf_in_eq r]; rfl
  | .inl a :: r, n, k => by
    show xf_in r (n - 1) (fun r => k (some (.inl a) :: r)) = _
    rw [xf_in_eq r]; rfl
  | .inr (.inr a) :: r, n, k => by
    show xf_in r (n - 1) (fun r => k (some (.inr (.inr a)) :: r)) = _
    rw [xf_in_eq r]; rfl
/-- the memory: rows of 16 places -/
abbrev xf_T (V : Type) : Type := List (List (Option (xv_O V)))
def xf_at (T : xf_T V) (a : Nat) : Option (xv_O V) := match T[a / 16]? with
  | some ch => match ch[a % 16]? with
    | some o => o
    | none => none
  | none => none
def xf_R (n : Nat) (T : xf_T V) (M : xv_M V) : Prop := M.length = n ∧ ∀ a, xf_at T a = M[a]?
noncomputable def xf_cell {β : Type} (T : xf_T V) (a : Nat) (k : xv_O V → Option β) : Option β := match xf_get T (Nat.div a 16) with
  | some ch => match xf_get ch (Nat.mod a 16) with
    | some (some o) => k o
    | _ => none
  | none => none
theorem xf_cell_ok {β : Type} {T : xf_T V} {a : Nat} {k : xv_O V → Option β} {r : β} (h : xf_cell T a k = some r) : ∃ o, xf_at T a = some o ∧ k o = some r := by
  unfold xf_cell at h
  rw [xf_get_eq] at h
  split at h
  · rename_i ch hch
    rw [xf_get_eq] at h
    split at h
    · rename_i o ho
      refine ⟨o, ?_, h⟩
      unfold xf_at
      rw [show T[a / 16]? = some ch from hch]
      dsimp only
      rw [show ch[a % 16]? = some (some o) from ho]
    · cases h
  · cases h
noncomputable def xf_upd {β : Type} (T : xf_T V) (a : Nat) (o : xv_O V) (k : xf_T V → Option β) : Option β := match xf_get T (Nat.div a 16) with
  | some ch => match xf_get ch (Nat.mod a 16) with
    | some _ => xf_set (some o) ch (Nat.mod a 16) (fun ch => xf_set ch T (Nat.div a 16) k)
    | none => none
  | none => none
theorem xf_upd_ok {β : Type} {T : xf_T V} {a : Nat} {o : xv_O V} {k : xf_T V → Option β} {r : β} (h : xf_upd T a o k = some r) : ∃ T', k T' = some r ∧ ∀ b, xf_at T' b = if b = a then some o else xf_at T b := by
  unfold xf_upd at h
  rw [xf_get_eq] at h
  split at h
  · rename_i ch hch
    rw [xf_get_eq] at h
    split at h
    · rename_i o0 ho
      rw [xf_set_eq, xf_set_eq] at h
      refine ⟨_, h, fun b => ?_⟩
      have hch : T[a / 16]? = some ch := hch
      have ho : ch[a % 16]? = some o0 := ho
      have l1 := (List.getElem?_eq_some_iff.mp hch).1
      have l2 := (List.getElem?_eq_some_iff.mp ho).1
      unfold xf_at
      rw [show Nat.div a 16 = a / 16 from rfl, show Nat.mod a 16 = a % 16 from rfl, List.getElem?_set]
      by_cases e1 : a / 16 = b / 16
      · rw [if_pos e1, if_pos l1]
        dsimp only
        rw [List.getElem?_set]
        by_cases e2 : a % 16 = b % 16
        · have e : b = a := by omega
          rw [if_pos e2, if_pos l2, if_pos e]
        · have e : ¬ b = a := fun q => e2 (by rw [q])
          rw [if_neg e2, if_neg e, ← e1, hch]
      · have e : ¬ b = a := fun q => e1 (by rw [q])
        rw [if_neg e1, if_neg e]
    · cases h
  · cases h
noncomputable def xf_push {β : Type} (T : xf_T V) (n : Nat) (o : xv_O V) (k : xf_T V → Option β) : Option β := xf_upd T n o k
theorem xf_R.set {n a : Nat} {T T' : xf_T V} {M : xv_M V} {o o0 : xv_O V} (h : xf_R n T M) (h0 : M[a]? = some o0) (hT : ∀ b, xf_at T' b = if b = a then some o else xf_at T b) : xf_R n T' (M.set a o) := by
  refine ⟨by rw [List.length_set]; exact h.1, fun b => ?_⟩
  rw [hT b, List.getElem?_set, h.2 b]
  by_cases e : b = a
  · rw [if_pos e, if_pos e.symm, if_pos (List.getElem?_eq_some_iff.mp h0).1]
  · rw [if_neg e, if_neg (fun q => e q.symm)]
theorem xf_R.push {n : Nat} {T T' : xf_T V} {M : xv_M V} {o : xv_O V} (h : xf_R n T M) (hT : ∀ b, xf_at T' b = if b = n then some o else xf_at T b) : xf_R (n + 1) T' (M ++ [o]) := by
  refine ⟨by rw [List.length_append, h.1]; rfl, fun b => ?_⟩
  rw [hT b, h.2 b]
  by_cases e : b = n
  · subst e
    rw [if_pos rfl, List.getElem?_append_right (by rw [h.1]; exact Nat.le_refl _), h.1, Nat.sub_self]
    rfl
  · rw [if_neg e]
    by_cases l : b < M.length
    · rw [List.getElem?_append_left l]
    · rw [List.getElem?_eq_none (by omega), List.getElem?_append_right (by omega), List.getElem?_eq_none (by show 1 ≤ _; rw [h.1] at *; omega)]
end XF0
