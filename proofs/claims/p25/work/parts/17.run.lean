/-- the code's places: increasing, each behind the one ahead -/
def xf_wf : List xv_I → Bool
  | q :: r => (match r with
    | q2 :: _ => Nat.blt q.1 q2.1 && (xv_sw q.2 || Nat.beq q2.1 (q.1 + xv_len q.2))
    | [] => true) && xf_wf r
  | [] => true
theorem xf_wf_tl {q : xv_I} {r : List xv_I} (h : xf_wf (q :: r) = true) : xf_wf r = true := by
  unfold xf_wf at h
  exact (Bool.and_eq_true_iff.mp h).2
theorem xf_wf_hd {q q2 : xv_I} {r : List xv_I} (h : xf_wf (q :: q2 :: r) = true) : q.1 < q2.1 ∧ (xv_sw q.2 = false → q2.1 = q.1 + xv_len q.2) := by
  unfold xf_wf at h
  have h := (Bool.and_eq_true_iff.mp h).1
  dsimp only at h
  obtain ⟨h1, h2⟩ := Bool.and_eq_true_iff.mp h
  refine ⟨Nat.le_of_ble_eq_true h1, fun hs => ?_⟩
  rw [hs, Bool.false_or] at h2
  exact Nat.eq_of_beq_eq_true h2
theorem xf_wf_lt : ∀ {r : List xv_I} {q x : xv_I}, xf_wf (q :: r) = true → x ∈ r → q.1 < x.1
  | [], _, _, _, hx => absurd hx List.not_mem_nil
  | q2 :: r, q, x, h, hx => by
    have h1 := (xf_wf_hd h).1
    rcases List.mem_cons.mp hx with e | e
    · rw [e]; exact h1
    · exact Nat.lt_trans h1 (xf_wf_lt (xf_wf_tl h) e)
theorem xf_wf_suf : ∀ {pre cs : List xv_I}, xf_wf (pre ++ cs) = true → xf_wf cs = true
  | [], _, h => h
  | _ :: _, _, h => xf_wf_suf (xf_wf_tl h)
theorem xf_to_suf : ∀ {pre r : List xv_I} {q : xv_I}, xf_wf (pre ++ q :: r) = true → xv_to (pre ++ q :: r) q.1 = q :: r
  | [], r, q, _ => by
    show xv_to (q :: r) q.1 = _
    simp only [xv_to, Nat.beq_refl, cond_true]
  | h :: pre, r, q, hw => by
    have h1 : h.1 < q.1 := xf_wf_lt (r := pre ++ q :: r) hw (List.mem_append.mpr (Or.inr List.mem_cons_self))
    show xv_to (h :: (pre ++ q :: r)) q.1 = _
    simp only [xv_to]
    rw [xf_nbeq (Nat.ne_of_lt h1), cond_false]
    exact xf_to_suf (xf_wf_tl hw)
theorem xf_to_at : ∀ {cs : List xv_I} {t : Nat} {q : xv_I} {r : List xv_I}, xv_to cs t = q :: r → q.1 = t ∧ ∃ pre, cs = pre ++ q :: r
  | [], _, _, _, h => by cases h
  | x :: cs, t, q, r, h => by
    simp only [xv_to] at h
    cases hc : Nat.beq x.1 t <;> simp only [hc, cond_true, cond_false] at h
    · obtain ⟨h1, pre, h2⟩ := xf_to_at h
      exact ⟨h1, x :: pre, by rw [h2]; rfl⟩
    · cases h
      exact ⟨Nat.eq_of_beq_eq_true hc, [], rfl⟩
section XF4
variable {V : Type} {D : xv_D V} {fv : xf_fv V} {ct : List (List (FieldType × Bool))} {at_ : List Nat} {sct : List (List Int32)} {ms : List xv_N}
noncomputable def xf_mk (D : xv_D V) (fv : xf_fv V) (ct : List (List (FieldType × Bool))) (at_ : List Nat) (sct : List (List Int32)) (ms : List xv_N) (y : xv_N) (stop : Nat) (q : xv_I) : Nat × xf_F V := (q.1, bif Nat.beq q.1 stop then xf_stop else xf_of D fv ct at_ sct ms y q.1 q.2)
theorem xf_to_map {y : xv_N} {stop : Nat} : ∀ (cs : List xv_I) (t : Nat), xf_to (cs.map (xf_mk D fv ct at_ sct ms y stop)) t = (xv_to cs t).map (xf_mk D fv ct at_ sct ms y stop)
  | [], _ => rfl
  | q :: cs, t => by
    show (bif Nat.beq q.1 t then xf_mk D fv ct at_ sct ms y stop q :: cs.map (xf_mk D fv ct at_ sct ms y stop) else xf_to (cs.map (xf_mk D fv ct at_ sct ms y stop)) t) = _
    simp only [xv_to]
    cases hc : Nat.beq q.1 t
    · simp only [cond_false]
      exact xf_to_map cs t
    · rfl
/-- THE FAST LOOP is the loop -/
theorem xf_lp_ok (hfv : ∀ (r : V) (k : V → Option (xf_P V)), fv r k = k r) {call : xf_K V} {call' : Nat → List (xv_V V) → xv_M V → Option (xv_R V)} (hcall : ∀ (j : Nat) (as : List (xv_V V)) (n : Nat) (T : xf_T V) (v : Option (xv_V V)) (n' : Nat) (T' : xf_T V), call j as n T = some (v, n', T') → ∀ M, xf_R n T M → ∃ M', call' j as M = some (v, M') ∧ xf_R n' T' M') {y : xv_N} {stop : Nat} (hw : xf_wf y.2.2.2 = true) :
    ∀ (fuel : Nat) (pre cs : List xv_I) (q : xv_I), y.2.2.2 = pre ++ q :: cs → ¬ q.1 = stop → xf_S y (xf_lp (y.2.2.2.map (xf_mk D fv ct at_ sct ms y stop)) call fuel ((q :: cs).map (xf_mk D fv ct at_ sct ms y stop))) (fun L S M c s => xv_lp D ct at_ sct ms call' y stop fuel q.1 (q :: cs) L S M c s) := by
  intro fuel
  induction fuel with
  | zero => intro pre cs q _ _ L S n T c s p _ h; cases h
  | succ fuel ih =>
    have go : ∀ (pre cs : List xv_I) (q : xv_I), y.2.2.2 = pre ++ q :: cs → xf_S y (xf_lp (y.2.2.2.map (xf_mk D fv ct at_ sct ms y stop)) call fuel ((q :: cs).map (xf_mk D fv ct at_ sct ms y stop))) (fun L S M c s => bif Nat.beq q.1 stop then some (.inr (L, S, M, c, s)) else xv_lp D ct at_ sct ms call' y stop fuel q.1 (q :: cs) L S M c s) := by
      intro pre cs q hq
      by_cases e : q.1 = stop
      · intro L S n T c s p _ h M hR
        have hb : Nat.beq q.1 stop = true := by rw [e]; exact Nat.beq_refl _
        refine ⟨.inr (L, S, M, c, s), by simp only [hb, cond_true], ?_⟩
        cases fuel with
        | zero => cases h
        | succ f =>
          have h : (bif Nat.beq q.1 stop then xf_stop else xf_of D fv ct at_ sct ms y q.1 q.2) (xf_lp (y.2.2.2.map (xf_mk D fv ct at_ sct ms y stop)) call f (cs.map (xf_mk D fv ct at_ sct ms y stop))) (fun t => xf_lp (y.2.2.2.map (xf_mk D fv ct at_ sct ms y stop)) call f (xf_to (y.2.2.2.map (xf_mk D fv ct at_ sct ms y stop)) t)) call L S n T c s = some p := h
          rw [hb, cond_true] at h
          exact Or.inr ⟨L, S, n, T, c, s, M, (Option.some.inj h).symm, rfl, hR⟩
      · rw [xf_nbeq e]
        exact ih pre cs q hq e
    intro pre cs q hq hne L S n T c s p hB h M hR
    have h : (bif Nat.beq q.1 stop then xf_stop else xf_of D fv ct at_ sct ms y q.1 q.2) (xf_lp (y.2.2.2.map (xf_mk D fv ct at_ sct ms y stop)) call fuel (cs.map (xf_mk D fv ct at_ sct ms y stop))) (fun t => xf_lp (y.2.2.2.map (xf_mk D fv ct at_ sct ms y stop)) call fuel (xf_to (y.2.2.2.map (xf_mk D fv ct at_ sct ms y stop)) t)) call L S n T c s = some p := h
    rw [xf_nbeq hne, cond_false] at h
    have hnone : ∀ {L : xv_L V} {S : List (xv_V V)} {n : Nat} {T : xf_T V} {c s : Nat} {p : xf_P V} {P : Prop}, xf_lp (y.2.2.2.map (xf_mk D fv ct at_ sct ms y stop)) call fuel [] L S n T c s = some p → P := by
      intro L S n T c s p P h
      cases fuel with
      | zero => cases h
      | succ f => cases h
    have hw2 : xf_wf (q :: cs) = true := xf_wf_suf (pre := pre) (by rw [← hq]; exact hw)
    have hn : xv_sw q.2 = false → xf_S y (xf_lp (y.2.2.2.map (xf_mk D fv ct at_ sct ms y stop)) call fuel (cs.map (xf_mk D fv ct at_ sct ms y stop))) (fun L S M c s => (fun pc cs L S M c s => bif Nat.beq pc stop then some (Sum.inr (L, S, M, c, s)) else xv_lp D ct at_ sct ms call' y stop fuel pc cs L S M c s) (q.1 + xv_len q.2) cs L S M c s) := by
      intro hs
      cases cs with
      | nil => intro L S n T c s p _ h; exact hnone h
      | cons q2 cs =>
        have e2 := (xf_wf_hd hw2).2 hs
        rw [← e2]
        exact go (pre ++ [q]) cs q2 (by rw [hq, List.append_assoc]; rfl)
    have r := xf_one (D := D) (ct := ct) (at_ := at_) (sct := sct) (ms := ms) (y := y) (call' := call') (cs := cs) (i := q.2) (pc := q.1) (ih := fun pc cs L S M c s => bif Nat.beq pc stop then some (Sum.inr (L, S, M, c, s)) else xv_lp D ct at_ sct ms call' y stop fuel pc cs L S M c s) hfv hcall hn (fun h3 => by
      have hs : xv_sw q.2 = false := by
        cases hi : q.2 <;> first | rfl | (rw [hi] at h3; cases h3)
      have hn2 := hn hs
      rw [h3] at hn2
      cases cs with
      | nil => intro L S n T c s p _ h; exact hnone h
      | cons q2 cs =>
        have e2 := (xf_wf_hd hw2).2 hs
        rw [h3] at e2
        have e3 : y.2.2.2 = (pre ++ [q]) ++ q2 :: cs := by rw [hq, List.append_assoc]; rfl
        have e4 : xv_to y.2.2.2 (q.1 + 3) = q2 :: cs := by
          rw [← e2, e3]
          exact xf_to_suf (by rw [← e3]; exact hw)
        rw [e4]
        exact hn2) (fun t => by
      rw [xf_to_map]
      cases ht : xv_to y.2.2.2 t with
      | nil => intro L S n T c s p _ h; exact hnone h
      | cons q2 r =>
        obtain ⟨e1, pre2, e2⟩ := xf_to_at ht
        rw [← e1]
        exact go pre2 r q2 e2) hB h hR
    exact r
/-- .. and what the fast machine runs, the machine runs -/
theorem xf_rn_ok (hfv : ∀ (r : V) (k : V → Option (xf_P V)), fv r k = k r) {fs : List (Nat × List (Nat × xf_F V))} (hfs : ∀ (j : Nat) (q : Nat × List (Nat × xf_F V)), fs[j]? = some q → ∃ (y : xv_N) (i0 : Instr) (cs : List xv_I), ms[j]? = some y ∧ q = (y.2.1.2.1, y.2.2.2.map (xf_mk D fv ct at_ sct ms y 100000)) ∧ xf_wf y.2.2.2 = true ∧ y.2.2.2 = (0, i0) :: cs)
    {fext : Nat → xf_K V} {ext : Nat → Nat → List (xv_V V) → xv_M V → Option (xv_R V)} (he1 : ∀ (d j : Nat) (as : List (xv_V V)) (n : Nat) (T : xf_T V) (v : Option (xv_V V)) (n' : Nat) (T' : xf_T V), fext d j as n T = some (v, n', T') → ∀ M, xf_R n T M → ∃ M', ext d j as M = some (v, M') ∧ xf_R n' T' M') (he2 : ∀ (d j : Nat) (as : List (xv_V V)) (n : Nat) (T : xf_T V), fext d j as n T = none → ∀ M, xf_R n T M → ext d j as M = none) (fuel : Nat) :
    ∀ (d j : Nat) (as : List (xv_V V)) (n : Nat) (T : xf_T V) (v : Option (xv_V V)) (n' : Nat) (T' : xf_T V), xf_rn fs fext fuel d j as n T = some (v, n', T') → ∀ M, xf_R n T M → ∃ M', xv_rn D ct at_ sct ms ext fuel d j as M = some (v, M') ∧ xf_R n' T' M' := by
  intro d
  induction d with
  | zero => intro j as n T v n' T' h; cases h
  | succ d ih =>
    intro j as n T v n' T' h M hR
    have h : (match fext (d + 1) j as n T with
      | some r => some r
      | none => match xf_get fs j with
        | some y => bif Nat.ble (xv_cats as) y.1 then xf_in as y.1 (fun L => xf_un (xf_lp y.2 (xf_rn fs fext fuel d) fuel y.2 L [] n T 0 0)) else none
        | none => none) = some (v, n', T') := h
    have hg : xv_rn D ct at_ sct ms ext fuel (d + 1) j as M = (match ext (d + 1) j as M with
      | some r => some r
      | none => match ms[j]? with
        | some y => bif Nat.ble (xv_cats as) y.2.1.2.1 then xv_un (xv_lp D ct at_ sct ms (xv_rn D ct at_ sct ms ext fuel d) y 100000 fuel 0 y.2.2.2 (xv_in as y.2.1.2.1) [] M 0 0) else none
        | none => none) := rfl
    rw [hg]
    cases hx : fext (d + 1) j as n T with
    | some r =>
      rw [hx] at h
      obtain ⟨v1, n1, T1⟩ := r
      cases Option.some.inj h
      obtain ⟨M', h1, h2⟩ := he1 _ _ _ _ _ _ _ _ hx M hR
      exact ⟨M', by rw [h1], h2⟩
    | none =>
      rw [hx] at h
      rw [he2 _ _ _ _ _ hx M hR]
      dsimp only at h ⊢
      rw [xf_get_eq] at h
      cases hq : fs[j]? with
      | none => rw [hq] at h; cases h
      | some q =>
        rw [hq] at h
        dsimp only at h
        obtain ⟨y, i0, cs, hy, rfl, hw, hcs⟩ := hfs j q hq
        rw [hy]
        dsimp only at h ⊢
        cases hc : Nat.ble (xv_cats as) y.2.1.2.1 <;> simp only [hc, cond_true, cond_false] at h ⊢
        · cases h
        rw [xf_in_eq] at h
        have hlp := xf_lp_ok (D := D) (fv := fv) (ct := ct) (at_ := at_) (sct := sct) (ms := ms) hfv ih (stop := 100000) hw fuel [] cs (0, i0) hcs (by show ¬ 0 = 100000; omega)
        rw [← hcs] at hlp
        cases hp : xf_lp (y.2.2.2.map (xf_mk D fv ct at_ sct ms y 100000)) (xf_rn fs fext fuel d) fuel (y.2.2.2.map (xf_mk D fv ct at_ sct ms y 100000)) (xv_in as y.2.1.2.1) [] n T 0 0 with
        | none => rw [hp] at h; cases h
        | some p =>
          rw [hp] at h
          obtain ⟨b, hb1, hb2⟩ := hlp _ _ _ _ _ _ _ ⟨Nat.zero_le _, Nat.zero_le _⟩ hp M hR
          rcases hb2 with ⟨v1, n1, T1, M1, rfl, rfl, hR1⟩ | ⟨_, _, _, _, _, _, _, rfl, _⟩
          · cases Option.some.inj h
            refine ⟨M1, ?_, hR1⟩
            have hb1 : xv_lp D ct at_ sct ms (xv_rn D ct at_ sct ms ext fuel d) y 100000 fuel 0 y.2.2.2 (xv_in as y.2.1.2.1) [] M 0 0 = some (.inl (v, M1)) := hb1
            rw [hb1]
            rfl
          · cases h
end XF4
