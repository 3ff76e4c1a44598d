/-! the fast memory as a list, and back -/
section XL1
variable {V : Type}
noncomputable def xf_ls (n : Nat) (T : xf_T V) : xv_M V := (List.range n).map (fun a => match xf_at T a with
  | some o => o
  | none => (0, []))
theorem xf_ls_eq {n : Nat} {T : xf_T V} {M : xv_M V} (h : xf_R n T M) : xf_ls n T = M := by
  apply List.ext_getElem?
  intro i
  unfold xf_ls
  rw [List.getElem?_map]
  by_cases hi : i < n
  · rw [List.getElem?_range hi, Option.map_some, h.2 i]
    have hl : i < M.length := by rw [h.1]; exact hi
    rw [List.getElem?_eq_getElem hl]
  · rw [List.getElem?_eq_none (by rw [List.length_range]; omega), Option.map_none, List.getElem?_eq_none (by rw [h.1]; omega)]
/-- laid out -/
noncomputable def xf_lk {β : Type} (T : xf_T V) (n : Nat) : (xv_M V → Option β) → Option β :=
  Nat.rec (motive := fun _ => (xv_M V → Option β) → Option β) (fun k => k []) (fun m ih k => xf_cell T m (fun o => ih (fun M => k (M ++ [o])))) n
noncomputable def xf_tt {β : Type} (M : xv_M V) : Nat → xf_T V → (xf_T V → Option β) → Option β :=
  List.rec (motive := fun _ => Nat → xf_T V → (xf_T V → Option β) → Option β) (fun _ T k => k T) (fun o _ ih n T k => xf_upd T n o (fun T => ih (n + 1) T k)) M
theorem xf_tt_ok {β : Type} : ∀ (M M0 : xv_M V) (n : Nat) (T : xf_T V) (k : xf_T V → Option β) (r : β), xf_tt M n T k = some r → xf_R n T M0 → ∃ T', k T' = some r ∧ xf_R (n + M.length) T' (M0 ++ M)
  | [], M0, n, T, k, r, h, hR => ⟨T, h, by rw [List.append_nil]; exact hR⟩
  | o :: M, M0, n, T, k, r, h, hR => by
    obtain ⟨T1, h1, hT⟩ := xf_upd_ok (show xf_upd T n o (fun T => xf_tt M (n + 1) T k) = some r from h)
    obtain ⟨T', h2, h3⟩ := xf_tt_ok M (M0 ++ [o]) (n + 1) T1 k r h1 (hR.push hT)
    refine ⟨T', h2, ?_⟩
    rw [List.length_cons, show n + (M.length + 1) = n + 1 + M.length by omega, show M0 ++ o :: M = M0 ++ [o] ++ M by rw [List.append_assoc]; rfl]
    exact h3
theorem xf_upd_k {β γ : Type} {T : xf_T V} {a : Nat} {o : xv_O V} {k : xf_T V → Option β} {r : β} (h : xf_upd T a o k = some r) : ∃ T', k T' = some r ∧ ∀ k' : xf_T V → Option γ, xf_upd T a o k' = k' T' := by
  unfold xf_upd at h
  split at h
  · rename_i ch hch
    split at h
    · rename_i o0 ho
      rw [xf_set_eq, xf_set_eq] at h
      refine ⟨_, h, fun k' => ?_⟩
      unfold xf_upd
      rw [hch]
      dsimp only
      rw [ho]
      dsimp only
      rw [xf_set_eq, xf_set_eq]
    · cases h
  · cases h
theorem xf_tt_k {β γ : Type} : ∀ (M : xv_M V) (n : Nat) (T : xf_T V) (k : xf_T V → Option β) (r : β), xf_tt M n T k = some r → ∃ T', k T' = some r ∧ ∀ k' : xf_T V → Option γ, xf_tt M n T k' = k' T'
  | [], n, T, k, r, h => ⟨T, h, fun _ => rfl⟩
  | o :: M, n, T, k, r, h => by
    obtain ⟨T1, h1, h2⟩ := xf_upd_k (γ := γ) (show xf_upd T n o (fun T => xf_tt M (n + 1) T k) = some r from h)
    obtain ⟨T', h3, h4⟩ := xf_tt_k (γ := γ) M (n + 1) T1 k r h1
    refine ⟨T', h3, fun k' => ?_⟩
    show xf_upd T n o (fun T => xf_tt M (n + 1) T k') = _
    rw [h2, h4]
def xf_T0 : xf_T V := List.replicate 16 (List.replicate 16 none)
theorem xf_T0_R : xf_R 0 (xf_T0 : xf_T V) [] := by
  refine ⟨rfl, fun a => ?_⟩
  unfold xf_at xf_T0
  rw [List.getElem?_replicate]
  split
  · rename_i ch h
    split at h
    · cases Option.some.inj h
      rw [List.getElem?_replicate]
      split
      · rename_i o h
        split at h
        · cases Option.some.inj h; rfl
        · cases h
      · rfl
    · cases h
  · rfl
end XL1
section XL2
variable {D : xv_D xd_V} {fv : xf_fv xd_V} {ct : List (List (FieldType × Bool))} {at_ : List Nat} {sct : List (List Int32)} {ms : List xv_N}
/-- from the instruction at h on, up to where it is met again -/
noncomputable def xl_seg (F FS : List (Nat × xf_F xd_V)) (call : xf_K xd_V) (fuel h : Nat) : xf_C xd_V := match xf_to F h with
  | q :: _ => match xf_to FS h with
    | _ :: cs => q.2 (xf_lp FS call fuel cs) (fun t => xf_lp FS call fuel (xf_to FS t)) call
    | [] => fun _ _ _ _ _ _ => none
  | [] => fun _ _ _ _ _ _ => none
theorem xl_seg_ok (hfv : ∀ (r : xd_V) (k : xd_V → Option (xf_P xd_V)), fv r k = k r) {call : xf_K xd_V} {call' : Nat → List (xv_V xd_V) → xv_M xd_V → Option (xv_R xd_V)} (hcall : ∀ (j : Nat) (as : List (xv_V xd_V)) (n : Nat) (T : xf_T xd_V) (v : Option (xv_V xd_V)) (n' : Nat) (T' : xf_T xd_V), call j as n T = some (v, n', T') → ∀ M, xf_R n T M → ∃ M', call' j as M = some (v, M') ∧ xf_R n' T' M') {y : xv_N} {h : Nat} (h0 : ¬ h = 100000) (hw : xf_wf y.2.2.2 = true) {q : xv_I} {pre cs : List xv_I} (hq : y.2.2.2 = pre ++ q :: cs) (hh : q.1 = h) (fuel : Nat) :
    xf_S y (xl_seg (y.2.2.2.map (xf_mk D fv ct at_ sct ms y 100000)) (y.2.2.2.map (xf_mk D fv ct at_ sct ms y h)) call fuel h) (fun L S M c s => xv_lp D ct at_ sct ms call' y h (fuel + 1) h (q :: cs) L S M c s) := by
  obtain ⟨q1, i1⟩ := q
  have hh2 : h = q1 := hh.symm
  subst hh2
  have et : xv_to y.2.2.2 h = (h, i1) :: cs := by rw [hq]; exact xf_to_suf (q := (h, i1)) (by rw [← hq]; exact hw)
  intro L S n T c s p hB hp M hR
  unfold xl_seg at hp
  rw [xf_to_map, xf_to_map, et] at hp
  have hp : (bif Nat.beq h 100000 then xf_stop else xf_of D fv ct at_ sct ms y h i1) (xf_lp (y.2.2.2.map (xf_mk D fv ct at_ sct ms y h)) call fuel (cs.map (xf_mk D fv ct at_ sct ms y h))) (fun t => xf_lp (y.2.2.2.map (xf_mk D fv ct at_ sct ms y h)) call fuel (xf_to (y.2.2.2.map (xf_mk D fv ct at_ sct ms y h)) t)) call L S n T c s = some p := hp
  rw [xf_nbeq h0, cond_false] at hp
  have go : ∀ (pre cs : List xv_I) (q : xv_I), y.2.2.2 = pre ++ q :: cs → xf_S y (xf_lp (y.2.2.2.map (xf_mk D fv ct at_ sct ms y h)) call fuel ((q :: cs).map (xf_mk D fv ct at_ sct ms y h))) (fun L S M c s => bif Nat.beq q.1 h then some (.inr (L, S, M, c, s)) else xv_lp D ct at_ sct ms call' y h fuel q.1 (q :: cs) L S M c s) := by
    intro pre cs q hq
    by_cases e : q.1 = h
    · intro L S n T c s p _ h9 M hR
      have hb : Nat.beq q.1 h = true := by rw [e]; exact Nat.beq_refl _
      refine ⟨.inr (L, S, M, c, s), by simp only [hb, cond_true], ?_⟩
      cases fuel with
      | zero => cases h9
      | succ f =>
        have h9 : (bif Nat.beq q.1 h then xf_stop else xf_of D fv ct at_ sct ms y q.1 q.2) (xf_lp (y.2.2.2.map (xf_mk D fv ct at_ sct ms y h)) call f (cs.map (xf_mk D fv ct at_ sct ms y h))) (fun t => xf_lp (y.2.2.2.map (xf_mk D fv ct at_ sct ms y h)) call f (xf_to (y.2.2.2.map (xf_mk D fv ct at_ sct ms y h)) t)) call L S n T c s = some p := h9
        rw [hb, cond_true] at h9
        exact Or.inr ⟨L, S, n, T, c, s, M, (Option.some.inj h9).symm, rfl, hR⟩
    · rw [xf_nbeq e]
      exact xf_lp_ok hfv hcall hw fuel pre cs q hq e
  have hnone : ∀ {L : xv_L xd_V} {S : List (xv_V xd_V)} {n : Nat} {T : xf_T xd_V} {c s : Nat} {p : xf_P xd_V} {P : Prop}, xf_lp (y.2.2.2.map (xf_mk D fv ct at_ sct ms y h)) call fuel [] L S n T c s = some p → P := by
    intro L S n T c s p P h9
    cases fuel with
    | zero => cases h9
    | succ f => cases h9
  have hw2 : xf_wf ((h, i1) :: cs) = true := xf_wf_suf (pre := pre) (by rw [← hq]; exact hw)
  have hn : xv_sw i1 = false → xf_S y (xf_lp (y.2.2.2.map (xf_mk D fv ct at_ sct ms y h)) call fuel (cs.map (xf_mk D fv ct at_ sct ms y h))) (fun L S M c s => (fun pc cs L S M c s => bif Nat.beq pc h then some (Sum.inr (L, S, M, c, s)) else xv_lp D ct at_ sct ms call' y h fuel pc cs L S M c s) (h + xv_len i1) cs L S M c s) := by
    intro hs
    cases cs with
    | nil => intro L S n T c s p _ h9; exact hnone h9
    | cons q2 cs =>
      have e2 : q2.1 = h + xv_len i1 := (xf_wf_hd hw2).2 hs
      rw [← e2]
      exact go (pre ++ [(h, i1)]) cs q2 (by rw [hq, List.append_assoc]; rfl)
  exact xf_one (D := D) (ct := ct) (at_ := at_) (sct := sct) (ms := ms) (y := y) (call' := call') (cs := cs) (i := i1) (pc := h) (ih := fun pc cs L S M c s => bif Nat.beq pc h then some (Sum.inr (L, S, M, c, s)) else xv_lp D ct at_ sct ms call' y h fuel pc cs L S M c s) hfv hcall hn (fun h3 => by
    have hs : xv_sw i1 = false := by
      cases i1 <;> first | rfl | (cases h3)
    have hn2 := hn hs
    rw [h3] at hn2
    cases cs with
    | nil => intro L S n T c s p _ h9; exact hnone h9
    | cons q2 cs =>
      have e2 : q2.1 = h + xv_len i1 := (xf_wf_hd hw2).2 hs
      rw [h3] at e2
      have e3 : y.2.2.2 = (pre ++ [(h, i1)]) ++ q2 :: cs := by rw [hq, List.append_assoc]; rfl
      have e4 : xv_to y.2.2.2 (h + 3) = q2 :: cs := by
        rw [← e2, e3]
        exact xf_to_suf (by rw [← e3]; exact hw)
      rw [e4]
      exact hn2) (fun t => by
    rw [xf_to_map]
    cases ht : xv_to y.2.2.2 t with
    | nil => intro L S n T c s p _ h9; exact hnone h9
    | cons q2 r =>
      obtain ⟨e1, pre2, e2⟩ := xf_to_at ht
      rw [← e1]
      exact go pre2 r q2 e2) hB hp hR
end XL2
