theorem xf_nn {α : Type} {a : α} {P : Prop} (h : (none : Option α) = some a) : P := by cases h
section XF2
variable {V : Type} {D : xv_D V} {fv : xf_fv V} {ct : List (List (FieldType × Bool))} {at_ : List Nat} {sct : List (List Int32)} {ms : List xv_N} {y : xv_N}
def xf_Q (p : xf_P V) (b : xv_B V) : Prop := (∃ v n T M, p = .inl (v, n, T) ∧ b = .inl (v, M) ∧ xf_R n T M) ∨ ∃ L S n T c s M, p = .inr (L, S, (n, T), c, s) ∧ b = .inr (L, S, M, c, s) ∧ xf_R n T M
def xf_S (y : xv_N) (K : xf_C V) (K' : xv_L V → List (xv_V V) → xv_M V → Nat → Nat → Option (xv_B V)) : Prop := ∀ (L : xv_L V) (S : List (xv_V V)) (n : Nat) (T : xf_T V) (c s : Nat) (p : xf_P V), c ≤ y.2.2.1.1 ∧ s ≤ y.2.2.1.2 → K L S n T c s = some p → ∀ M, xf_R n T M → ∃ b, K' L S M c s = some b ∧ xf_Q p b
section XF3
variable {call : Nat → List (xv_V V) → xv_M V → Option (xv_R V)} {fin : Option (xv_V V) → xv_M V → Option (xv_B V)} {ih : Nat → List xv_I → xv_L V → List (xv_V V) → xv_M V → Nat → Nat → Option (xv_B V)} {pc : Nat} {cs : List xv_I} {L : xv_L V} {S : List (xv_V V)} {M : xv_M V} {c s : Nat} {i : Instr}
theorem xt_pure {L' : xv_L V} {S' : List (xv_V V)} (h : xv_pure D y.1.2 L S i = some (L', S')) : xv_step D ct at_ sct ms call y fin ih pc ((pc, i) :: cs) L S M c s = ih (pc + xv_len i) cs L' S' M c s := by
  simp only [xv_step, Nat.beq_refl, cond_true, h]
theorem xt_br {t : Nat} {S' : List (xv_V V)} (h0 : xv_pure D y.1.2 L S i = none) (h : xv_br D pc S i = some (t, S')) : xv_step D ct at_ sct ms call y fin ih pc ((pc, i) :: cs) L S M c s = ih t (xv_to y.2.2.2 t) L S' M c s := by
  simp only [xv_step, Nat.beq_refl, cond_true, h0, h]
theorem xt_mem {S' : List (xv_V V)} {M' : xv_M V} {dc ds : Nat} (h0 : xv_pure D y.1.2 L S i = none) (h1 : xv_br D pc S i = none) (h : xv_mem D ct at_ y.1.2 y.1.1 y.2.1.2.2.2 M S i = some (S', M', dc, ds)) (b1 : Nat.ble (c + dc) y.2.2.1.1 = true) (b2 : Nat.ble (s + ds) y.2.2.1.2 = true) : xv_step D ct at_ sct ms call y fin ih pc ((pc, i) :: cs) L S M c s = ih (pc + xv_len i) cs L S' M' (c + dc) (s + ds) := by
  simp only [xv_step, Nat.beq_refl, cond_true, h0, h1, h, b1, b2, Bool.and_self]
theorem xt_call {j : Nat} {as R : List (xv_V V)} {z : xv_N} {v : Option (xv_V V)} {M' : xv_M V} (h0 : xv_pure D y.1.2 L S i = none) (h1 : xv_br D pc S i = none) (h2 : xv_mem D ct at_ y.1.2 y.1.1 y.2.1.2.2.2 M S i = none) (h : xv_arg ms y.1.2 M S i = some (j, as, R)) (hz : ms[j]? = some z) (b1 : Nat.ble (c + z.2.2.1.1) y.2.2.1.1 = true) (b2 : Nat.ble (s + z.2.2.1.2) y.2.2.1.2 = true) (hc : call j as M = some (v, M')) : xv_step D ct at_ sct ms call y fin ih pc ((pc, i) :: cs) L S M c s = ih (pc + 3) cs L (v.toList ++ R) M' (c + z.2.2.1.1) (s + z.2.2.1.2) := by
  simp only [xv_step, Nat.beq_refl, cond_true, h0, h1, h2, h, hz, b1, b2, Bool.and_self, hc]
theorem xt_nat {S' : List (xv_V V)} {M' : xv_M V} (h0 : xv_pure D y.1.2 L S i = none) (h1 : xv_br D pc S i = none) (h2 : xv_mem D ct at_ y.1.2 y.1.1 y.2.1.2.2.2 M S i = none) (h3 : xv_arg ms y.1.2 M S i = none) (h : xv_nat D sct y.1.2 M S i = some (S', M')) : xv_step D ct at_ sct ms call y fin ih pc ((pc, i) :: cs) L S M c s = ih (pc + 3) cs L S' M' c s := by
  simp only [xv_step, Nat.beq_refl, cond_true, h0, h1, h2, h3, h]
theorem xt_end {v : Option (xv_V V)} (h0 : xv_pure D y.1.2 L S i = none) (h1 : xv_br D pc S i = none) (h2 : xv_mem D ct at_ y.1.2 y.1.1 y.2.1.2.2.2 M S i = none) (h3 : xv_arg ms y.1.2 M S i = none) (h4 : xv_nat D sct y.1.2 M S i = none) (h : xv_end D y.2.1.2.2.1 S i = some v) : xv_step D ct at_ sct ms call y fin ih pc ((pc, i) :: cs) L S M c s = fin v M := by
  simp only [xv_step, Nat.beq_refl, cond_true, h0, h1, h2, h3, h4, h]
end XF3
theorem xf_ixv {a : V} {k n : Nat} {α : Type} {xs : List α} {v : α} (h : D.2.2.2.2.1 a = some (.ofNat k)) (hv : xs[k]? = some v) (hn : n = xs.length) : xv_ix D a n = some k := by
  have hk : k < xs.length := (List.getElem?_eq_some_iff.mp hv).1
  simp only [xv_ix, h]
  rw [hn, show Nat.blt k xs.length = true from Nat.ble_eq_true_of_le hk]
  rfl
theorem xf_lt {α : Type} {xs : List α} {k : Nat} {v : α} (hv : xs[k]? = some v) : Nat.blt k xs.length = true := Nat.ble_eq_true_of_le (List.getElem?_eq_some_iff.mp hv).1
theorem xf_nbeq {a b : Nat} (h : ¬ a = b) : Nat.beq a b = false := by
  cases e : Nat.beq a b
  · rfl
  · exact absurd (Nat.eq_of_beq_eq_true e) h
theorem xf_mem0 {call : Nat → List (xv_V V) → xv_M V → Option (xv_R V)} {fin : Option (xv_V V) → xv_M V → Option (xv_B V)} {ih : Nat → List xv_I → xv_L V → List (xv_V V) → xv_M V → Nat → Nat → Option (xv_B V)} {pc : Nat} {cs : List xv_I} {L : xv_L V} {S : List (xv_V V)} {M : xv_M V} {c s : Nat} {i : Instr} {S' : List (xv_V V)} {M' : xv_M V} {b : xv_B V} (h0 : xv_pure D y.1.2 L S i = none) (h1 : xv_br D pc S i = none) (h : xv_mem D ct at_ y.1.2 y.1.1 y.2.1.2.2.2 M S i = some (S', M', 0, 0)) (hB : c ≤ y.2.2.1.1 ∧ s ≤ y.2.2.1.2) (hb : ih (pc + xv_len i) cs L S' M' c s = some b) : xv_step D ct at_ sct ms call y fin ih pc ((pc, i) :: cs) L S M c s = some b := by
  rw [xt_mem h0 h1 h (Nat.ble_eq_true_of_le hB.1) (Nat.ble_eq_true_of_le hB.2)]
  exact hb
theorem xf_aft_ok {call : xf_K V} {call' : Nat → List (xv_V V) → xv_M V → Option (xv_R V)} (hcall : ∀ (j : Nat) (as : List (xv_V V)) (n : Nat) (T : xf_T V) (v : Option (xv_V V)) (n' : Nat) (T' : xf_T V), call j as n T = some (v, n', T') → ∀ M, xf_R n T M → ∃ M', call' j as M = some (v, M') ∧ xf_R n' T' M') {n : Nat} {T : xf_T V} {M : xv_M V} (hR : xf_R n T M) {next : xf_C V} {L : xv_L V} {R : List (xv_V V)} {c s j : Nat} {as : List (xv_V V)} {p : xf_P V} (h : xf_aft next L R c s (call j as n T) = some p) :
    ∃ v n' T' M', call' j as M = some (v, M') ∧ xf_R n' T' M' ∧ next L (v.toList ++ R) n' T' c s = some p := by
  cases hc : call j as n T with
  | none => rw [hc] at h; cases h
  | some q =>
    obtain ⟨v, n', T'⟩ := q
    rw [hc] at h
    obtain ⟨M', h1, h2⟩ := hcall _ _ _ _ _ _ _ hc M hR
    refine ⟨v, n', T', M', h1, h2, ?_⟩
    cases v with
    | none => exact h
    | some v => exact h
set_option maxHeartbeats 8000000 in
/-- ONE INSTRUCTION: what its function does, the step does -/
theorem xf_one (hfv : ∀ (r : V) (k : V → Option (xf_P V)), fv r k = k r) {call : xf_K V} {call' : Nat → List (xv_V V) → xv_M V → Option (xv_R V)} (hcall : ∀ (j : Nat) (as : List (xv_V V)) (n : Nat) (T : xf_T V) (v : Option (xv_V V)) (n' : Nat) (T' : xf_T V), call j as n T = some (v, n', T') → ∀ M, xf_R n T M → ∃ M', call' j as M = some (v, M') ∧ xf_R n' T' M')
    {ih : Nat → List xv_I → xv_L V → List (xv_V V) → xv_M V → Nat → Nat → Option (xv_B V)} {pc : Nat} {cs : List xv_I} {next : xf_C V} {jmp : Nat → xf_C V} {i : Instr} (hn : xv_sw i = false → xf_S y next (fun L S M c s => ih (pc + xv_len i) cs L S M c s)) (hb : xv_len i = 3 → xf_S y next (fun L S M c s => ih (pc + 3) (xv_to y.2.2.2 (pc + 3)) L S M c s)) (hj : ∀ t, xf_S y (jmp t) (fun L S M c s => ih t (xv_to y.2.2.2 t) L S M c s))
    {L : xv_L V} {S : List (xv_V V)} {n : Nat} {T : xf_T V} {c s : Nat} {p : xf_P V} {M : xv_M V} (hB : c ≤ y.2.2.1.1 ∧ s ≤ y.2.2.1.2) (h : xf_of D fv ct at_ sct ms y pc i next jmp call L S n T c s = some p) (hR : xf_R n T M) :
    ∃ b, xv_step D ct at_ sct ms call' y (fun r M => some (.inl (r, M))) ih pc ((pc, i) :: cs) L S M c s = some b ∧ xf_Q p b := by
  cases i
  all_goals (first | (exact xf_nn (show (none : Option (xf_P V)) = some p from h)) | skip)

  case iconst n =>
    simp only [xf_of, xf_cst] at h
    rw [xt_pure (L' := L) (S' := .inl (D.1 (Int32.ofInt n)) :: S) (by rfl)]
    exact hn rfl _ _ _ _ _ _ _ hB h M hR
  case bipush n =>
    simp only [xf_of, xf_cst] at h
    rw [xt_pure (L' := L) (S' := .inl (D.1 (Int8.ofInt n).toInt32) :: S) (by rfl)]
    exact hn rfl _ _ _ _ _ _ _ hB h M hR
  case sipush n =>
    simp only [xf_of, xf_cst] at h
    rw [xt_pure (L' := L) (S' := .inl (D.1 (Int16.ofInt n).toInt32) :: S) (by rfl)]
    exact hn rfl _ _ _ _ _ _ _ hB h M hR
  case lconst n =>
    simp only [xf_of, xf_cst] at h
    rw [xt_pure (L' := L) (S' := .inr (.inl (D.2.1 (Int64.ofNat (n : Nat)))) :: S) (by rfl)]
    exact hn rfl _ _ _ _ _ _ _ hB h M hR
  case ldc k =>
    rcases hv : xv_find y.1.2.2.2.2.1 k with _ | v
    · rcases hm : xv_find y.1.2.2.2.1 k with _ | m
      · simp only [xf_of, hv, hm] at h
        exact xf_nn (show (none : Option (xf_P V)) = some p from h)
      · simp only [xf_of, hv, hm] at h
        cases h2 : Nat.ble 2000 m <;> simp only [h2, cond_true, cond_false, xf_no, xf_cst, reduceCtorEq] at h
        rw [xt_pure (L' := L) (S' := .inr (.inr (some (m - 2000))) :: S) (by simp only [xv_pure, hv, hm, h2, cond_true])]
        exact hn rfl _ _ _ _ _ _ _ hB h M hR
    · simp only [xf_of, hv, xf_cst] at h
      rw [xt_pure (L' := L) (S' := .inl (D.1 v) :: S) (by simp only [xv_pure, hv])]
      exact hn rfl _ _ _ _ _ _ _ hB h M hR
  case ldc2_w k =>
    rcases hv : xv_find y.1.2.2.2.2.2 k with _ | v
    · simp only [xf_of, hv] at h
      exact xf_nn (show (none : Option (xf_P V)) = some p from h)
    · simp only [xf_of, hv, xf_cst] at h
      rw [xt_pure (L' := L) (S' := .inr (.inl (D.2.1 v)) :: S) (by simp only [xv_pure, hv])]
      exact hn rfl _ _ _ _ _ _ _ hB h M hR
  case iload_n k =>
    simp only [xf_of, xf_ldi, xf_get_eq] at h
    split at h
    · rename_i a ha
      rw [xt_pure (L' := L) (S' := .inl a :: S) (by simp only [xv_pure, xv_ld, ha]; rfl)]
      exact hn rfl _ _ _ _ _ _ _ hB h M hR
    · cases h
  case iload k =>
    simp only [xf_of, xf_ldi, xf_get_eq] at h
    split at h
    · rename_i a ha
      rw [xt_pure (L' := L) (S' := .inl a :: S) (by simp only [xv_pure, xv_ld, ha]; rfl)]
      exact hn rfl _ _ _ _ _ _ _ hB h M hR
    · cases h
  case lload_n k =>
    simp only [xf_of, xf_ldl, xf_get_eq] at h
    split at h
    · rename_i a ha
      rw [xt_pure (L' := L) (S' := .inr (.inl a) :: S) (by simp only [xv_pure, xv_ld, ha]; rfl)]
      exact hn rfl _ _ _ _ _ _ _ hB h M hR
    · cases h
  case lload k =>
    simp only [xf_of, xf_ldl, xf_get_eq] at h
    split at h
    · rename_i a ha
      rw [xt_pure (L' := L) (S' := .inr (.inl a) :: S) (by simp only [xv_pure, xv_ld, ha]; rfl)]
      exact hn rfl _ _ _ _ _ _ _ hB h M hR
    · cases h
  case aload_n k =>
    simp only [xf_of, xf_lda, xf_get_eq] at h
    split at h
    · rename_i a ha
      rw [xt_pure (L' := L) (S' := .inr (.inr (some a)) :: S) (by simp only [xv_pure, xv_ld, ha]; rfl)]
      exact hn rfl _ _ _ _ _ _ _ hB h M hR
    · cases h
  case aload k =>
    simp only [xf_of, xf_lda, xf_get_eq] at h
    split at h
    · rename_i a ha
      rw [xt_pure (L' := L) (S' := .inr (.inr (some a)) :: S) (by simp only [xv_pure, xv_ld, ha]; rfl)]
      exact hn rfl _ _ _ _ _ _ _ hB h M hR
    · cases h
  case istore_n k =>
    simp only [xf_of, xf_sti, xf_get_eq, xf_put1_eq] at h
    split at h
    · rename_i a S1
      split at h
      · rename_i v hv
        rw [xt_pure (L' := xv_put1 L k (.inl a)) (S' := S1) (by simp only [xv_pure, xv_sto, xf_lt hv]; rfl)]
        exact hn rfl _ _ _ _ _ _ _ hB h M hR
      · cases h
    · cases h
  case istore k =>
    simp only [xf_of, xf_sti, xf_get_eq, xf_put1_eq] at h
    split at h
    · rename_i a S1
      split at h
      · rename_i v hv
        rw [xt_pure (L' := xv_put1 L k (.inl a)) (S' := S1) (by simp only [xv_pure, xv_sto, xf_lt hv]; rfl)]
        exact hn rfl _ _ _ _ _ _ _ hB h M hR
      · cases h
    · cases h
  case lstore_n k =>
    simp only [xf_of, xf_stl, xf_get_eq, xf_put2_eq] at h
    split at h
    · rename_i a S1
      split at h
      · rename_i v hv
        rw [xt_pure (L' := xv_put2 L k (.inr (.inl a))) (S' := S1) (by simp only [xv_pure, xv_sto, xf_lt hv]; rfl)]
        exact hn rfl _ _ _ _ _ _ _ hB h M hR
      · cases h
    · cases h
  case lstore k =>
    simp only [xf_of, xf_stl, xf_get_eq, xf_put2_eq] at h
    split at h
    · rename_i a S1
      split at h
      · rename_i v hv
        rw [xt_pure (L' := xv_put2 L k (.inr (.inl a))) (S' := S1) (by simp only [xv_pure, xv_sto, xf_lt hv]; rfl)]
        exact hn rfl _ _ _ _ _ _ _ hB h M hR
      · cases h
    · cases h
  case astore_n k =>
    simp only [xf_of, xf_sta, xf_get_eq, xf_put1_eq] at h
    split at h
    · rename_i a S1
      split at h
      · rename_i v hv
        rw [xt_pure (L' := xv_put1 L k (.inr (.inr (some a)))) (S' := S1) (by simp only [xv_pure, xv_sto, xf_lt hv]; rfl)]
        exact hn rfl _ _ _ _ _ _ _ hB h M hR
      · cases h
    · cases h
  case astore k =>
    simp only [xf_of, xf_sta, xf_get_eq, xf_put1_eq] at h
    split at h
    · rename_i a S1
      split at h
      · rename_i v hv
        rw [xt_pure (L' := xv_put1 L k (.inr (.inr (some a)))) (S' := S1) (by simp only [xv_pure, xv_sto, xf_lt hv]; rfl)]
        exact hn rfl _ _ _ _ _ _ _ hB h M hR
      · cases h
    · cases h
  case iinc k m =>
    simp only [xf_of, xf_iinc, xf_get_eq] at h
    split at h
    · rename_i a ha
      split at h
      · rename_i r hr
        rw [hfv, xf_put1_eq] at h
        rw [xt_pure (L' := xv_put1 L k (.inl r)) (S' := S) (by simp only [xv_pure, xv_iinc, ha, hr])]
        exact hn rfl _ _ _ _ _ _ _ hB h M hR
      · cases h
    · cases h
  case iadd =>
    simp only [xf_of, xf_i2] at h
    split at h
    · rename_i b a S1
      split at h
      · rename_i r hr
        rw [hfv] at h
        rw [xt_pure (L' := L) (S' := .inl r :: S1) (by simp only [xv_pure, xv_i2, hr])]
        exact hn rfl _ _ _ _ _ _ _ hB h M hR
      · cases h
    · cases h
  case isub =>
    simp only [xf_of, xf_i2] at h
    split at h
    · rename_i b a S1
      split at h
      · rename_i r hr
        rw [hfv] at h
        rw [xt_pure (L' := L) (S' := .inl r :: S1) (by simp only [xv_pure, xv_i2, hr])]
        exact hn rfl _ _ _ _ _ _ _ hB h M hR
      · cases h
    · cases h
  case imul =>
    simp only [xf_of, xf_i2] at h
    split at h
    · rename_i b a S1
      split at h
      · rename_i r hr
        rw [hfv] at h
        rw [xt_pure (L' := L) (S' := .inl r :: S1) (by simp only [xv_pure, xv_i2, hr])]
        exact hn rfl _ _ _ _ _ _ _ hB h M hR
      · cases h
    · cases h
  case iand =>
    simp only [xf_of, xf_i2] at h
    split at h
    · rename_i b a S1
      split at h
      · rename_i r hr
        rw [hfv] at h
        rw [xt_pure (L' := L) (S' := .inl r :: S1) (by simp only [xv_pure, xv_i2, hr])]
        exact hn rfl _ _ _ _ _ _ _ hB h M hR
      · cases h
    · cases h
  case ior =>
    simp only [xf_of, xf_i2] at h
    split at h
    · rename_i b a S1
      split at h
      · rename_i r hr
        rw [hfv] at h
        rw [xt_pure (L' := L) (S' := .inl r :: S1) (by simp only [xv_pure, xv_i2, hr])]
        exact hn rfl _ _ _ _ _ _ _ hB h M hR
      · cases h
    · cases h
  case ishl =>
    simp only [xf_of, xf_i2] at h
    split at h
    · rename_i b a S1
      split at h
      · rename_i r hr
        rw [hfv] at h
        rw [xt_pure (L' := L) (S' := .inl r :: S1) (by simp only [xv_pure, xv_i2, hr])]
        exact hn rfl _ _ _ _ _ _ _ hB h M hR
      · cases h
    · cases h
  case ishr =>
    simp only [xf_of, xf_i2] at h
    split at h
    · rename_i b a S1
      split at h
      · rename_i r hr
        rw [hfv] at h
        rw [xt_pure (L' := L) (S' := .inl r :: S1) (by simp only [xv_pure, xv_i2, hr])]
        exact hn rfl _ _ _ _ _ _ _ hB h M hR
      · cases h
    · cases h
  case iushr =>
    simp only [xf_of, xf_i2] at h
    split at h
    · rename_i b a S1
      split at h
      · rename_i r hr
        rw [hfv] at h
        rw [xt_pure (L' := L) (S' := .inl r :: S1) (by simp only [xv_pure, xv_i2, hr])]
        exact hn rfl _ _ _ _ _ _ _ hB h M hR
      · cases h
    · cases h
  case idiv =>
    simp only [xf_of, xf_i2] at h
    split at h
    · rename_i b a S1
      split at h
      · rename_i r hr
        rw [hfv] at h
        rw [xt_pure (L' := L) (S' := .inl r :: S1) (by simp only [xv_pure, xv_i2, hr])]
        exact hn rfl _ _ _ _ _ _ _ hB h M hR
      · cases h
    · cases h
  case irem =>
    simp only [xf_of, xf_i2] at h
    split at h
    · rename_i b a S1
      split at h
      · rename_i r hr
        rw [hfv] at h
        rw [xt_pure (L' := L) (S' := .inl r :: S1) (by simp only [xv_pure, xv_i2, hr])]
        exact hn rfl _ _ _ _ _ _ _ hB h M hR
      · cases h
    · cases h
  case ladd =>
    simp only [xf_of, xf_l2] at h
    split at h
    · rename_i b a S1
      split at h
      · rename_i r hr
        rw [hfv] at h
        rw [xt_pure (L' := L) (S' := .inr (.inl r) :: S1) (by simp only [xv_pure, xv_l2, hr])]
        exact hn rfl _ _ _ _ _ _ _ hB h M hR
      · cases h
    · cases h
  case lsub =>
    simp only [xf_of, xf_l2] at h
    split at h
    · rename_i b a S1
      split at h
      · rename_i r hr
        rw [hfv] at h
        rw [xt_pure (L' := L) (S' := .inr (.inl r) :: S1) (by simp only [xv_pure, xv_l2, hr])]
        exact hn rfl _ _ _ _ _ _ _ hB h M hR
      · cases h
    · cases h
  case lmul =>
    simp only [xf_of, xf_l2] at h
    split at h
    · rename_i b a S1
      split at h
      · rename_i r hr
        rw [hfv] at h
        rw [xt_pure (L' := L) (S' := .inr (.inl r) :: S1) (by simp only [xv_pure, xv_l2, hr])]
        exact hn rfl _ _ _ _ _ _ _ hB h M hR
      · cases h
    · cases h
  case land =>
    simp only [xf_of, xf_l2] at h
    split at h
    · rename_i b a S1
      split at h
      · rename_i r hr
        rw [hfv] at h
        rw [xt_pure (L' := L) (S' := .inr (.inl r) :: S1) (by simp only [xv_pure, xv_l2, hr])]
        exact hn rfl _ _ _ _ _ _ _ hB h M hR
      · cases h
    · cases h
  case lor =>
    simp only [xf_of, xf_l2] at h
    split at h
    · rename_i b a S1
      split at h
      · rename_i r hr
        rw [hfv] at h
        rw [xt_pure (L' := L) (S' := .inr (.inl r) :: S1) (by simp only [xv_pure, xv_l2, hr])]
        exact hn rfl _ _ _ _ _ _ _ hB h M hR
      · cases h
    · cases h
  case ldiv =>
    simp only [xf_of, xf_l2] at h
    split at h
    · rename_i b a S1
      split at h
      · rename_i r hr
        rw [hfv] at h
        rw [xt_pure (L' := L) (S' := .inr (.inl r) :: S1) (by simp only [xv_pure, xv_l2, hr])]
        exact hn rfl _ _ _ _ _ _ _ hB h M hR
      · cases h
    · cases h
  case lrem =>
    simp only [xf_of, xf_l2] at h
    split at h
    · rename_i b a S1
      split at h
      · rename_i r hr
        rw [hfv] at h
        rw [xt_pure (L' := L) (S' := .inr (.inl r) :: S1) (by simp only [xv_pure, xv_l2, hr])]
        exact hn rfl _ _ _ _ _ _ _ hB h M hR
      · cases h
    · cases h
  case lshl =>
    simp only [xf_of, xf_s2] at h
    split at h
    · rename_i b a S1
      split at h
      · rename_i r hr
        rw [hfv] at h
        rw [xt_pure (L' := L) (S' := .inr (.inl r) :: S1) (by simp only [xv_pure, xv_s2, hr])]
        exact hn rfl _ _ _ _ _ _ _ hB h M hR
      · cases h
    · cases h
  case lshr =>
    simp only [xf_of, xf_s2] at h
    split at h
    · rename_i b a S1
      split at h
      · rename_i r hr
        rw [hfv] at h
        rw [xt_pure (L' := L) (S' := .inr (.inl r) :: S1) (by simp only [xv_pure, xv_s2, hr])]
        exact hn rfl _ _ _ _ _ _ _ hB h M hR
      · cases h
    · cases h
  case ineg =>
    simp only [xf_of, xf_u00] at h
    split at h
    · rename_i a S1
      split at h
      · rename_i r hr
        rw [hfv] at h
        rw [xt_pure (L' := L) (S' := .inl r :: S1) (by simp only [xv_pure, hr])]
        exact hn rfl _ _ _ _ _ _ _ hB h M hR
      · cases h
    · cases h
  case lneg =>
    simp only [xf_of, xf_u11] at h
    split at h
    · rename_i a S1
      split at h
      · rename_i r hr
        rw [hfv] at h
        rw [xt_pure (L' := L) (S' := .inr (.inl r) :: S1) (by simp only [xv_pure, hr])]
        exact hn rfl _ _ _ _ _ _ _ hB h M hR
      · cases h
    · cases h
  case i2l =>
    simp only [xf_of, xf_u01] at h
    split at h
    · rename_i a S1
      split at h
      · rename_i r hr
        rw [hfv] at h
        rw [xt_pure (L' := L) (S' := .inr (.inl r) :: S1) (by simp only [xv_pure, hr])]
        exact hn rfl _ _ _ _ _ _ _ hB h M hR
      · cases h
    · cases h
  case l2i =>
    simp only [xf_of, xf_u10] at h
    split at h
    · rename_i a S1
      split at h
      · rename_i r hr
        rw [hfv] at h
        rw [xt_pure (L' := L) (S' := .inl r :: S1) (by simp only [xv_pure, hr])]
        exact hn rfl _ _ _ _ _ _ _ hB h M hR
      · cases h
    · cases h
  case lcmp =>
    simp only [xf_of, xf_lc] at h
    split at h
    · rename_i b a S1
      split at h
      · rename_i r hr
        rw [hfv] at h
        rw [xt_pure (L' := L) (S' := .inl r :: S1) (by simp only [xv_pure, hr])]
        exact hn rfl _ _ _ _ _ _ _ hB h M hR
      · cases h
    · cases h
  case dup =>
    simp only [xf_of, xf_dup] at h
    split at h
    · rename_i v S1
      cases hc : Nat.beq (xv_cat v) 1 <;> simp only [hc, cond_true, cond_false, reduceCtorEq] at h
      rw [xt_pure (L' := L) (S' := v :: v :: S1) (by simp only [xv_pure, hc, cond_true])]
      exact hn rfl _ _ _ _ _ _ _ hB h M hR
    · cases h
  case pop =>
    simp only [xf_of, xf_pop1] at h
    split at h
    · rename_i v S1
      cases hc : Nat.beq (xv_cat v) 1 <;> simp only [hc, cond_true, cond_false, reduceCtorEq] at h
      rw [xt_pure (L' := L) (S' := S1) (by simp only [xv_pure, hc, cond_true])]
      exact hn rfl _ _ _ _ _ _ _ hB h M hR
    · cases h
  case dup2 =>
    simp only [xf_of, xf_dup2] at h
    split at h
    · rename_i v v2 S1
      cases hc : (Nat.beq (xv_cat v) 1 && Nat.beq (xv_cat v2) 1) <;> simp only [hc, cond_true, cond_false, reduceCtorEq] at h
      rw [xt_pure (L' := L) (S' := v :: v2 :: v :: v2 :: S1) (by simp only [xv_pure, hc, cond_true])]
      exact hn rfl _ _ _ _ _ _ _ hB h M hR
    · cases h
  case goto off =>
    rcases ht : xv_tgt pc off with _ | t
    · simp only [xf_of, ht] at h
      exact xf_nn (show (none : Option (xf_P V)) = some p from h)
    · simp only [xf_of, ht, xf_goto] at h
      rw [xt_br (t := t) (S' := S) rfl (by simp only [xv_br, ht])]
      exact hj t _ _ _ _ _ _ _ hB h M hR
  case if_icmp cd off =>
    cases cd
    case eq =>
      rcases ht : xv_tgt pc off with _ | t
      · simp only [xf_of, ht] at h
        exact xf_nn (show (none : Option (xf_P V)) = some p from h)
      · simp only [xf_of, ht, xf_c2] at h
        split at h
        · rename_i b a S1
          split at h
          · rename_i hc
            rw [xt_br (t := t) (S' := S1) rfl (by simp only [xv_br, xv_cmp2, hc, ht, cond_true])]
            exact hj t _ _ _ _ _ _ _ hB h M hR
          · rename_i hc
            rw [xt_br (t := pc + 3) (S' := S1) rfl (by simp only [xv_br, xv_cmp2, hc, ht, cond_false])]
            exact hb rfl _ _ _ _ _ _ _ hB h M hR
          · cases h
        · cases h
    case ne =>
      rcases ht : xv_tgt pc off with _ | t
      · simp only [xf_of, ht] at h
        exact xf_nn (show (none : Option (xf_P V)) = some p from h)
      · simp only [xf_of, ht, xf_c2] at h
        split at h
        · rename_i b a S1
          split at h
          · rename_i hc
            rw [xt_br (t := t) (S' := S1) rfl (by simp only [xv_br, xv_cmp2, hc, ht, cond_true])]
            exact hj t _ _ _ _ _ _ _ hB h M hR
          · rename_i hc
            rw [xt_br (t := pc + 3) (S' := S1) rfl (by simp only [xv_br, xv_cmp2, hc, ht, cond_false])]
            exact hb rfl _ _ _ _ _ _ _ hB h M hR
          · cases h
        · cases h
    case lt =>
      rcases ht : xv_tgt pc off with _ | t
      · simp only [xf_of, ht] at h
        exact xf_nn (show (none : Option (xf_P V)) = some p from h)
      · simp only [xf_of, ht, xf_c2] at h
        split at h
        · rename_i b a S1
          split at h
          · rename_i hc
            rw [xt_br (t := t) (S' := S1) rfl (by simp only [xv_br, xv_cmp2, hc, ht, cond_true])]
            exact hj t _ _ _ _ _ _ _ hB h M hR
          · rename_i hc
            rw [xt_br (t := pc + 3) (S' := S1) rfl (by simp only [xv_br, xv_cmp2, hc, ht, cond_false])]
            exact hb rfl _ _ _ _ _ _ _ hB h M hR
          · cases h
        · cases h
    case ge =>
      rcases ht : xv_tgt pc off with _ | t
      · simp only [xf_of, ht] at h
        exact xf_nn (show (none : Option (xf_P V)) = some p from h)
      · simp only [xf_of, ht, xf_c2] at h
        split at h
        · rename_i b a S1
          split at h
          · rename_i hc
            rw [xt_br (t := t) (S' := S1) rfl (by simp only [xv_br, xv_cmp2, hc, ht, cond_true])]
            exact hj t _ _ _ _ _ _ _ hB h M hR
          · rename_i hc
            rw [xt_br (t := pc + 3) (S' := S1) rfl (by simp only [xv_br, xv_cmp2, hc, ht, cond_false])]
            exact hb rfl _ _ _ _ _ _ _ hB h M hR
          · cases h
        · cases h
    case gt =>
      rcases ht : xv_tgt pc off with _ | t
      · simp only [xf_of, ht] at h
        exact xf_nn (show (none : Option (xf_P V)) = some p from h)
      · simp only [xf_of, ht, xf_c2] at h
        split at h
        · rename_i b a S1
          split at h
          · rename_i hc
            rw [xt_br (t := t) (S' := S1) rfl (by simp only [xv_br, xv_cmp2, hc, ht, cond_true])]
            exact hj t _ _ _ _ _ _ _ hB h M hR
          · rename_i hc
            rw [xt_br (t := pc + 3) (S' := S1) rfl (by simp only [xv_br, xv_cmp2, hc, ht, cond_false])]
            exact hb rfl _ _ _ _ _ _ _ hB h M hR
          · cases h
        · cases h
    case le =>
      rcases ht : xv_tgt pc off with _ | t
      · simp only [xf_of, ht] at h
        exact xf_nn (show (none : Option (xf_P V)) = some p from h)
      · simp only [xf_of, ht, xf_c2] at h
        split at h
        · rename_i b a S1
          split at h
          · rename_i hc
            rw [xt_br (t := t) (S' := S1) rfl (by simp only [xv_br, xv_cmp2, hc, ht, cond_true])]
            exact hj t _ _ _ _ _ _ _ hB h M hR
          · rename_i hc
            rw [xt_br (t := pc + 3) (S' := S1) rfl (by simp only [xv_br, xv_cmp2, hc, ht, cond_false])]
            exact hb rfl _ _ _ _ _ _ _ hB h M hR
          · cases h
        · cases h
  case ifCond cd off =>
    cases cd
    case eq =>
      rcases ht : xv_tgt pc off with _ | t
      · simp only [xf_of, ht] at h
        exact xf_nn (show (none : Option (xf_P V)) = some p from h)
      · simp only [xf_of, ht, xf_c1] at h
        split at h
        · rename_i a S1
          split at h
          · rename_i hc
            rw [xt_br (t := t) (S' := S1) rfl (by simp only [xv_br, xv_cmp1, hc, ht, cond_true])]
            exact hj t _ _ _ _ _ _ _ hB h M hR
          · rename_i hc
            rw [xt_br (t := pc + 3) (S' := S1) rfl (by simp only [xv_br, xv_cmp1, hc, ht, cond_false])]
            exact hb rfl _ _ _ _ _ _ _ hB h M hR
          · cases h
        · cases h
    case ne =>
      rcases ht : xv_tgt pc off with _ | t
      · simp only [xf_of, ht] at h
        exact xf_nn (show (none : Option (xf_P V)) = some p from h)
      · simp only [xf_of, ht, xf_c1] at h
        split at h
        · rename_i a S1
          split at h
          · rename_i hc
            rw [xt_br (t := t) (S' := S1) rfl (by simp only [xv_br, xv_cmp1, hc, ht, cond_true])]
            exact hj t _ _ _ _ _ _ _ hB h M hR
          · rename_i hc
            rw [xt_br (t := pc + 3) (S' := S1) rfl (by simp only [xv_br, xv_cmp1, hc, ht, cond_false])]
            exact hb rfl _ _ _ _ _ _ _ hB h M hR
          · cases h
        · cases h
    case lt =>
      rcases ht : xv_tgt pc off with _ | t
      · simp only [xf_of, ht] at h
        exact xf_nn (show (none : Option (xf_P V)) = some p from h)
      · simp only [xf_of, ht, xf_c1] at h
        split at h
        · rename_i a S1
          split at h
          · rename_i hc
            rw [xt_br (t := t) (S' := S1) rfl (by simp only [xv_br, xv_cmp1, hc, ht, cond_true])]
            exact hj t _ _ _ _ _ _ _ hB h M hR
          · rename_i hc
            rw [xt_br (t := pc + 3) (S' := S1) rfl (by simp only [xv_br, xv_cmp1, hc, ht, cond_false])]
            exact hb rfl _ _ _ _ _ _ _ hB h M hR
          · cases h
        · cases h
    case ge =>
      rcases ht : xv_tgt pc off with _ | t
      · simp only [xf_of, ht] at h
        exact xf_nn (show (none : Option (xf_P V)) = some p from h)
      · simp only [xf_of, ht, xf_c1] at h
        split at h
        · rename_i a S1
          split at h
          · rename_i hc
            rw [xt_br (t := t) (S' := S1) rfl (by simp only [xv_br, xv_cmp1, hc, ht, cond_true])]
            exact hj t _ _ _ _ _ _ _ hB h M hR
          · rename_i hc
            rw [xt_br (t := pc + 3) (S' := S1) rfl (by simp only [xv_br, xv_cmp1, hc, ht, cond_false])]
            exact hb rfl _ _ _ _ _ _ _ hB h M hR
          · cases h
        · cases h
    case gt =>
      rcases ht : xv_tgt pc off with _ | t
      · simp only [xf_of, ht] at h
        exact xf_nn (show (none : Option (xf_P V)) = some p from h)
      · simp only [xf_of, ht, xf_c1] at h
        split at h
        · rename_i a S1
          split at h
          · rename_i hc
            rw [xt_br (t := t) (S' := S1) rfl (by simp only [xv_br, xv_cmp1, hc, ht, cond_true])]
            exact hj t _ _ _ _ _ _ _ hB h M hR
          · rename_i hc
            rw [xt_br (t := pc + 3) (S' := S1) rfl (by simp only [xv_br, xv_cmp1, hc, ht, cond_false])]
            exact hb rfl _ _ _ _ _ _ _ hB h M hR
          · cases h
        · cases h
    case le =>
      rcases ht : xv_tgt pc off with _ | t
      · simp only [xf_of, ht] at h
        exact xf_nn (show (none : Option (xf_P V)) = some p from h)
      · simp only [xf_of, ht, xf_c1] at h
        split at h
        · rename_i a S1
          split at h
          · rename_i hc
            rw [xt_br (t := t) (S' := S1) rfl (by simp only [xv_br, xv_cmp1, hc, ht, cond_true])]
            exact hj t _ _ _ _ _ _ _ hB h M hR
          · rename_i hc
            rw [xt_br (t := pc + 3) (S' := S1) rfl (by simp only [xv_br, xv_cmp1, hc, ht, cond_false])]
            exact hb rfl _ _ _ _ _ _ _ hB h M hR
          · cases h
        · cases h
  case tableswitch a1 a2 a3 a4 =>
    simp only [xf_of, xf_sw] at h
    split at h
    · rename_i tS hS
      rw [xt_br (t := tS.1) (S' := tS.2) rfl hS]
      exact hj _ _ _ _ _ _ _ _ hB h M hR
    · cases h
  case lookupswitch a1 a2 =>
    simp only [xf_of, xf_sw] at h
    split at h
    · rename_i tS hS
      rw [xt_br (t := tS.1) (S' := tS.2) rfl hS]
      exact hj _ _ _ _ _ _ _ _ hB h M hR
    · cases h
  case getfield k =>
    rcases hck : xv_find y.1.2.1 k with _ | ck
    · simp only [xf_of, hck] at h
      exact xf_nn (show (none : Option (xf_P V)) = some p from h)
    · simp only [xf_of, hck, xf_gf, xf_get_eq] at h
      split at h
      · rename_i a S1
        obtain ⟨o, ho, h⟩ := xf_cell_ok h
        rw [hR.2] at ho
        cases hc : Nat.beq o.1 (8 + ck.1) <;> simp only [hc, cond_true, cond_false, reduceCtorEq] at h
        split at h
        · rename_i v hv
          obtain ⟨b, hb1, hb2⟩ := hn rfl _ _ _ _ _ _ _ hB h M hR
          refine ⟨b, ?_, hb2⟩
          exact xf_mem0 rfl rfl (by simp only [xv_mem, hck, ho, hc, hv, cond_true]) hB hb1
        · cases h
      · cases h
  case putfield k =>
    rcases hck : xv_find y.1.2.1 k with _ | ck
    · simp only [xf_of, hck] at h
      exact xf_nn (show (none : Option (xf_P V)) = some p from h)
    · rcases hfs : ct[ck.1]? with _ | fs
      · simp only [xf_of, hck, hfs] at h
        exact xf_nn (show (none : Option (xf_P V)) = some p from h)
      · rcases hf : fs[ck.2]? with _ | f
        · simp only [xf_of, hck, hfs, hf] at h
          exact xf_nn (show (none : Option (xf_P V)) = some p from h)
        · simp only [xf_of, hck, hfs, hf] at h
          cases hfin : (!f.2 || (Nat.beq y.2.1.2.2.2 1 && Nat.beq y.1.1 ck.1)) <;> simp only [hfin, cond_true, cond_false, xf_no, reduceCtorEq] at h
          simp only [xf_pf, xf_get_eq, xf_set_eq] at h
          split at h
          · rename_i v a S1
            obtain ⟨o, ho, h⟩ := xf_cell_ok h
            rw [hR.2] at ho
            cases hc : Nat.beq o.1 (8 + ck.1) <;> simp only [hc, Bool.true_and, Bool.false_and, cond_true, cond_false, reduceCtorEq] at h
            cases hfit : xv_fit D f.1 v <;> simp only [hfit, cond_true, cond_false, reduceCtorEq] at h
            split at h
            · rename_i v0 hv0
              obtain ⟨T', h, hT⟩ := xf_upd_ok h
              rw [← Nat.eq_of_beq_eq_true hc] at hT
              obtain ⟨b, hb1, hb2⟩ := hn rfl _ _ _ _ _ _ _ hB h _ (hR.set ho hT)
              refine ⟨b, ?_, hb2⟩
              exact xf_mem0 rfl rfl (by simp only [xv_mem, hck, ho, hc, xf_lt hv0, hfs, hf, hfit, hfin, Bool.and_self, cond_true]) hB hb1
            · cases h
          · cases h
  case new k =>
    rcases hci : xv_find y.1.2.2.2.1 k with _ | ci
    · simp only [xf_of, hci] at h
      exact xf_nn (show (none : Option (xf_P V)) = some p from h)
    · rcases hfs : ct[ci]? with _ | fs
      · simp only [xf_of, hci, hfs] at h
        exact xf_nn (show (none : Option (xf_P V)) = some p from h)
      · simp only [xf_of, hci, hfs] at h
        cases hlt : Nat.blt ci 1000 <;> simp only [hlt, cond_true, cond_false, xf_no, reduceCtorEq] at h
        simp only [xf_new, xf_nat_eq, xf_push] at h
        cases b1 : Nat.ble (c + 1) y.2.2.1.1 <;> simp only [b1, Bool.true_and, Bool.false_and, cond_true, cond_false, reduceCtorEq] at h
        cases b2 : Nat.ble (s + fs.length) y.2.2.1.2 <;> simp only [b2, cond_true, cond_false, reduceCtorEq] at h
        obtain ⟨T', h, hT⟩ := xf_upd_ok h
        obtain ⟨b, hb1, hb2⟩ := hn rfl _ _ _ _ _ _ _ ⟨Nat.le_of_ble_eq_true b1, Nat.le_of_ble_eq_true b2⟩ h _ (hR.push hT)
        refine ⟨b, ?_, hb2⟩
        obtain rfl := hR.1
        rw [xt_mem (S' := .inr (.inr (some M.length)) :: S) (M' := M ++ [(8 + ci, fs.map (fun f => xv_dflt D f.1))]) (dc := 1) (ds := fs.length) rfl rfl (by simp only [xv_mem, hci, hfs, hlt, cond_true]) b1 b2]
        exact hb1
  case newarray ty =>
    cases ty
    all_goals (first | (exact xf_nn (show (none : Option (xf_P V)) = some p from h)) | skip)
    case boolean =>
      simp only [xf_of] at h
      simp only [xf_na, xf_nat_eq, xf_push, xf_rep_eq] at h
      split at h
      · rename_i m S1
        split at h
        · rename_i k1 hk
          cases b1 : Nat.ble (c + 1) y.2.2.1.1 <;> simp only [b1, Bool.true_and, Bool.false_and, cond_true, cond_false, reduceCtorEq] at h
          cases b2 : Nat.ble (s + k1) y.2.2.1.2 <;> simp only [b2, cond_true, cond_false, reduceCtorEq] at h
          obtain ⟨T', h, hT⟩ := xf_upd_ok h
          obtain ⟨b, hb1, hb2⟩ := hn rfl _ _ _ _ _ _ _ ⟨Nat.le_of_ble_eq_true b1, Nat.le_of_ble_eq_true b2⟩ h _ (hR.push hT)
          refine ⟨b, ?_, hb2⟩
          obtain rfl := hR.1
          rw [xt_mem (S' := .inr (.inr (some M.length)) :: S1) (M' := M ++ [(2, List.replicate k1 (.inl (D.1 0)))]) (dc := 1) (ds := k1) rfl rfl (by simp only [xv_mem, xv_newa, hk]) b1 b2]
          exact hb1
        · cases h
      · cases h
    case int =>
      simp only [xf_of] at h
      simp only [xf_na, xf_nat_eq, xf_push, xf_rep_eq] at h
      split at h
      · rename_i m S1
        split at h
        · rename_i k1 hk
          cases b1 : Nat.ble (c + 1) y.2.2.1.1 <;> simp only [b1, Bool.true_and, Bool.false_and, cond_true, cond_false, reduceCtorEq] at h
          cases b2 : Nat.ble (s + k1) y.2.2.1.2 <;> simp only [b2, cond_true, cond_false, reduceCtorEq] at h
          obtain ⟨T', h, hT⟩ := xf_upd_ok h
          obtain ⟨b, hb1, hb2⟩ := hn rfl _ _ _ _ _ _ _ ⟨Nat.le_of_ble_eq_true b1, Nat.le_of_ble_eq_true b2⟩ h _ (hR.push hT)
          refine ⟨b, ?_, hb2⟩
          obtain rfl := hR.1
          rw [xt_mem (S' := .inr (.inr (some M.length)) :: S1) (M' := M ++ [(0, List.replicate k1 (.inl (D.1 0)))]) (dc := 1) (ds := k1) rfl rfl (by simp only [xv_mem, xv_newa, hk]) b1 b2]
          exact hb1
        · cases h
      · cases h
    case long =>
      simp only [xf_of] at h
      simp only [xf_na, xf_nat_eq, xf_push, xf_rep_eq] at h
      split at h
      · rename_i m S1
        split at h
        · rename_i k1 hk
          cases b1 : Nat.ble (c + 1) y.2.2.1.1 <;> simp only [b1, Bool.true_and, Bool.false_and, cond_true, cond_false, reduceCtorEq] at h
          cases b2 : Nat.ble (s + k1) y.2.2.1.2 <;> simp only [b2, cond_true, cond_false, reduceCtorEq] at h
          obtain ⟨T', h, hT⟩ := xf_upd_ok h
          obtain ⟨b, hb1, hb2⟩ := hn rfl _ _ _ _ _ _ _ ⟨Nat.le_of_ble_eq_true b1, Nat.le_of_ble_eq_true b2⟩ h _ (hR.push hT)
          refine ⟨b, ?_, hb2⟩
          obtain rfl := hR.1
          rw [xt_mem (S' := .inr (.inr (some M.length)) :: S1) (M' := M ++ [(1, List.replicate k1 (.inr (.inl (D.2.1 0))))]) (dc := 1) (ds := k1) rfl rfl (by simp only [xv_mem, xv_newa, hk]) b1 b2]
          exact hb1
        · cases h
      · cases h
  case anewarray k =>
    rcases hci : xv_find y.1.2.2.2.1 (70000 + k) with _ | ci
    · simp only [xf_of, hci] at h
      exact xf_nn (show (none : Option (xf_P V)) = some p from h)
    · simp only [xf_of, hci] at h
      cases hlt : (Nat.ble 1000 ci && Nat.blt ci 1003) <;> simp only [hlt, cond_true, cond_false, xf_no, reduceCtorEq] at h
      simp only [xf_na, xf_nat_eq, xf_push, xf_rep_eq] at h
      split at h
      · rename_i m S1
        split at h
        · rename_i k1 hk
          cases b1 : Nat.ble (c + 1) y.2.2.1.1 <;> simp only [b1, Bool.true_and, Bool.false_and, cond_true, cond_false, reduceCtorEq] at h
          cases b2 : Nat.ble (s + k1) y.2.2.1.2 <;> simp only [b2, cond_true, cond_false, reduceCtorEq] at h
          obtain ⟨T', h, hT⟩ := xf_upd_ok h
          obtain ⟨b, hb1, hb2⟩ := hn rfl _ _ _ _ _ _ _ ⟨Nat.le_of_ble_eq_true b1, Nat.le_of_ble_eq_true b2⟩ h _ (hR.push hT)
          refine ⟨b, ?_, hb2⟩
          obtain rfl := hR.1
          rw [xt_mem (S' := .inr (.inr (some M.length)) :: S1) (M' := M ++ [(ci - 996, List.replicate k1 (.inr (.inr none)))]) (dc := 1) (ds := k1) rfl rfl (by simp only [xv_mem, xv_newa, hk, hci, hlt, cond_true]) b1 b2]
          exact hb1
        · cases h
      · cases h
  case arraylength =>
    simp only [xf_of, xf_al] at h
    split at h
    · rename_i a S1
      obtain ⟨o, ho, h⟩ := xf_cell_ok h
      rw [hR.2] at ho
      cases hc : (Nat.blt o.1 7 && Nat.ble o.2.length 4096) <;> simp only [hc, cond_true, cond_false, reduceCtorEq] at h
      rw [hfv] at h
      obtain ⟨b, hb1, hb2⟩ := hn rfl _ _ _ _ _ _ _ hB h M hR
      refine ⟨b, ?_, hb2⟩
      exact xf_mem0 rfl rfl (by simp only [xv_mem, ho, hc, cond_true]) hB hb1
    · cases h
  case laload =>
    simp only [xf_of, xf_ald, xf_get_eq] at h
    split at h
    · rename_i iv a S1
      split at h
      · rename_i k hk
        obtain ⟨o, ho, h⟩ := xf_cell_ok h
        rw [hR.2] at ho
        cases hc : (Nat.ble 1 o.1 && Nat.ble o.1 1) <;> simp only [hc, cond_true, cond_false, reduceCtorEq] at h
        split at h
        · rename_i v hv
          obtain ⟨b, hb1, hb2⟩ := hn rfl _ _ _ _ _ _ _ hB h M hR
          refine ⟨b, ?_, hb2⟩
          exact xf_mem0 rfl rfl (by simp only [xv_mem, xv_ald, ho, hc, xf_ixv hk hv rfl, hv, cond_true]) hB hb1
        · cases h
      · cases h
    · cases h
  case baload =>
    simp only [xf_of, xf_ald, xf_get_eq] at h
    split at h
    · rename_i iv a S1
      split at h
      · rename_i k hk
        obtain ⟨o, ho, h⟩ := xf_cell_ok h
        rw [hR.2] at ho
        cases hc : (Nat.ble 2 o.1 && Nat.ble o.1 2) <;> simp only [hc, cond_true, cond_false, reduceCtorEq] at h
        split at h
        · rename_i v hv
          obtain ⟨b, hb1, hb2⟩ := hn rfl _ _ _ _ _ _ _ hB h M hR
          refine ⟨b, ?_, hb2⟩
          exact xf_mem0 rfl rfl (by simp only [xv_mem, xv_ald, ho, hc, xf_ixv hk hv rfl, hv, cond_true]) hB hb1
        · cases h
      · cases h
    · cases h
  case aaload =>
    simp only [xf_of, xf_ald, xf_get_eq] at h
    split at h
    · rename_i iv a S1
      split at h
      · rename_i k hk
        obtain ⟨o, ho, h⟩ := xf_cell_ok h
        rw [hR.2] at ho
        cases hc : (Nat.ble 4 o.1 && Nat.ble o.1 6) <;> simp only [hc, cond_true, cond_false, reduceCtorEq] at h
        split at h
        · rename_i v hv
          obtain ⟨b, hb1, hb2⟩ := hn rfl _ _ _ _ _ _ _ hB h M hR
          refine ⟨b, ?_, hb2⟩
          exact xf_mem0 rfl rfl (by simp only [xv_mem, xv_ald, ho, hc, xf_ixv hk hv rfl, hv, cond_true]) hB hb1
        · cases h
      · cases h
    · cases h
  case iaload =>
    simp only [xf_of, xf_iald, xf_get_eq] at h
    split at h
    · rename_i iv a S1
      split at h
      · rename_i k hk
        obtain ⟨o, ho, h⟩ := xf_cell_ok h
        rw [hR.2] at ho
        cases hc : (Nat.beq o.1 0 || Nat.beq o.1 3) <;> simp only [hc, cond_true, cond_false, reduceCtorEq] at h
        split at h
        · rename_i v hv
          obtain ⟨b, hb1, hb2⟩ := hn rfl _ _ _ _ _ _ _ hB h M hR
          refine ⟨b, ?_, hb2⟩
          refine xf_mem0 rfl rfl ?_ hB hb1
          rcases Bool.or_eq_true_iff.mp hc with e | e
          · have e := Nat.eq_of_beq_eq_true e
            simp only [xv_mem, xv_ald, ho, e, show (Nat.ble 0 0 && Nat.ble 0 0) = true from rfl, xf_ixv hk hv rfl, hv, cond_true]
          · have e := Nat.eq_of_beq_eq_true e
            simp only [xv_mem, xv_ald, ho, e, show (Nat.ble 0 3 && Nat.ble 3 0) = false from rfl, show (Nat.ble 3 3 && Nat.ble 3 3) = true from rfl, xf_ixv hk hv rfl, hv, cond_true, cond_false]
        · cases h
      · cases h
    · cases h
  case iastore =>
    simp only [xf_of, xf_ast, xf_get_eq, xf_set_eq] at h
    split at h
    · rename_i v iv a S1
      split at h
      · rename_i k hk
        obtain ⟨o, ho, h⟩ := xf_cell_ok h
        rw [hR.2] at ho
        cases hc : Nat.beq o.1 0 <;> simp only [hc, Bool.true_and, Bool.false_and, cond_true, cond_false, reduceCtorEq] at h
        cases hfit : xv_fit D .int v <;> simp only [hfit, cond_true, cond_false, reduceCtorEq] at h
        split at h
        · rename_i v0 hv0
          obtain ⟨T', h, hT⟩ := xf_upd_ok h
          rw [← Nat.eq_of_beq_eq_true hc] at hT
          obtain ⟨b, hb1, hb2⟩ := hn rfl _ _ _ _ _ _ _ hB h _ (hR.set ho hT)
          refine ⟨b, ?_, hb2⟩
          exact xf_mem0 rfl rfl (by simp only [xv_mem, xv_ast, ho, hc, hfit, xf_ixv hk hv0 rfl, Bool.and_self, cond_true]) hB hb1
        · cases h
      · cases h
    · cases h
  case lastore =>
    simp only [xf_of, xf_ast, xf_get_eq, xf_set_eq] at h
    split at h
    · rename_i v iv a S1
      split at h
      · rename_i k hk
        obtain ⟨o, ho, h⟩ := xf_cell_ok h
        rw [hR.2] at ho
        cases hc : Nat.beq o.1 1 <;> simp only [hc, Bool.true_and, Bool.false_and, cond_true, cond_false, reduceCtorEq] at h
        cases hfit : xv_fit D .long v <;> simp only [hfit, cond_true, cond_false, reduceCtorEq] at h
        split at h
        · rename_i v0 hv0
          obtain ⟨T', h, hT⟩ := xf_upd_ok h
          rw [← Nat.eq_of_beq_eq_true hc] at hT
          obtain ⟨b, hb1, hb2⟩ := hn rfl _ _ _ _ _ _ _ hB h _ (hR.set ho hT)
          refine ⟨b, ?_, hb2⟩
          exact xf_mem0 rfl rfl (by simp only [xv_mem, xv_ast, ho, hc, hfit, xf_ixv hk hv0 rfl, Bool.and_self, cond_true]) hB hb1
        · cases h
      · cases h
    · cases h
  case bastore =>
    simp only [xf_of, xf_ast, xf_get_eq, xf_set_eq] at h
    split at h
    · rename_i v iv a S1
      split at h
      · rename_i k hk
        obtain ⟨o, ho, h⟩ := xf_cell_ok h
        rw [hR.2] at ho
        cases hc : Nat.beq o.1 2 <;> simp only [hc, Bool.true_and, Bool.false_and, cond_true, cond_false, reduceCtorEq] at h
        cases hfit : xv_fit D .boolean v <;> simp only [hfit, cond_true, cond_false, reduceCtorEq] at h
        split at h
        · rename_i v0 hv0
          obtain ⟨T', h, hT⟩ := xf_upd_ok h
          rw [← Nat.eq_of_beq_eq_true hc] at hT
          obtain ⟨b, hb1, hb2⟩ := hn rfl _ _ _ _ _ _ _ hB h _ (hR.set ho hT)
          refine ⟨b, ?_, hb2⟩
          exact xf_mem0 rfl rfl (by simp only [xv_mem, xv_ast, ho, hc, hfit, xf_ixv hk hv0 rfl, Bool.and_self, cond_true]) hB hb1
        · cases h
      · cases h
    · cases h
  case aastore =>
    simp only [xf_of, xf_aast, xf_get_eq, xf_set_eq] at h
    split at h
    · rename_i v iv a S1
      split at h
      · rename_i k hk
        obtain ⟨o, ho, h⟩ := xf_cell_ok h
        rw [hR.2] at ho
        obtain ⟨ov, hov, h⟩ := xf_cell_ok h
        rw [hR.2] at hov
        split at h
        · rename_i ci hci
          cases hc : (Nat.ble 4 o.1 && Nat.blt o.1 7 && Nat.beq ov.1 (8 + ci)) <;> simp only [hc, cond_true, cond_false, reduceCtorEq] at h
          split at h
          · rename_i v0 hv0
            obtain ⟨T', h, hT⟩ := xf_upd_ok h
            obtain ⟨b, hb1, hb2⟩ := hn rfl _ _ _ _ _ _ _ hB h _ (hR.set ho hT)
            refine ⟨b, ?_, hb2⟩
            exact xf_mem0 rfl rfl (by simp only [xv_mem, ho, hov, hci, hc, xf_ixv hk hv0 rfl, cond_true]) hB hb1
          · cases h
        · cases h
      · cases h
    · cases h
  case invokevirtual k =>
    rcases hf : xv_find y.1.2.2.1 k with _ | ⟨kd, j⟩
    · simp only [xf_of, hf] at h
      exact xf_nn (show (none : Option (xf_P V)) = some p from h)
    by_cases e0 : kd = 0
    · subst e0
      rcases hz : ms[j]? with _ | z
      · simp only [xf_of, hf, hz, show Nat.beq 0 0 = true from rfl, cond_true] at h
        exact xf_nn (show (none : Option (xf_P V)) = some p from h)
      · simp only [xf_of, hf, hz, show Nat.beq 0 0 = true from rfl, cond_true, xf_cv] at h
        obtain ⟨hle, h⟩ := xf_pop_eq _ _ _ _ _ h
        rw [List.append_nil] at h
        split at h
        · rename_i a R1 hdrop
          obtain ⟨o, ho, h⟩ := xf_cell_ok h
          rw [hR.2] at ho
          cases g1 : Nat.beq o.1 (8 + z.1.1) <;> simp only [g1, Bool.true_and, Bool.false_and, cond_true, cond_false, reduceCtorEq] at h
          cases g2 : Nat.ble (xv_cats R1) 8 <;> simp only [g2, Bool.true_and, Bool.false_and, cond_true, cond_false, reduceCtorEq] at h
          cases b1 : Nat.ble (c + z.2.2.1.1) y.2.2.1.1 <;> simp only [b1, Bool.true_and, Bool.false_and, cond_true, cond_false, reduceCtorEq] at h
          cases b2 : Nat.ble (s + z.2.2.1.2) y.2.2.1.2 <;> simp only [b2, cond_true, cond_false, reduceCtorEq] at h
          obtain ⟨v, n1, T1, M1, hc1, hR1, h⟩ := xf_aft_ok hcall hR h
          obtain ⟨b, hb1, hb2⟩ := hn rfl _ _ _ _ _ _ _ ⟨Nat.le_of_ble_eq_true b1, Nat.le_of_ble_eq_true b2⟩ h _ hR1
          refine ⟨b, ?_, hb2⟩
          rw [xt_call (R := R1) rfl rfl rfl (by simp only [xv_arg, hf, hz, hdrop, ho, g1, g2, Bool.and_self, cond_true]) hz b1 b2 hc1]
          exact hb1
        · cases h
    by_cases e4 : kd = 4
    · subst e4
      simp only [xf_of, hf, show Nat.beq 4 0 = false from rfl, show Nat.beq 4 4 = true from rfl, cond_true, cond_false, xf_ch, xf_get_eq] at h
      split at h
      · rename_i a m S1
        split at h
        · rename_i cs1 k1 hcs hk
          split at h
          · rename_i b0 hb0
            cases g2 : Nat.ble (xv_cats S1) 8 <;> simp only [g2, cond_true, cond_false, reduceCtorEq] at h
            rw [hfv] at h
            obtain ⟨b, hb1, hb2⟩ := hn rfl _ _ _ _ _ _ _ hB h M hR
            refine ⟨b, ?_, hb2⟩
            rw [xt_nat (S' := .inl (D.1 (b0 &&& 255)) :: S1) (M' := M) rfl rfl rfl (by simp only [xv_arg, hf]) (by simp only [xv_nat, hf, hcs, xf_ixv hk hb0 rfl, hb0, g2, cond_true])]
            exact hb1
          · cases h
        · cases h
      · cases h
    simp only [xf_of, hf, xf_nbeq e0, xf_nbeq e4, cond_false] at h
    exact xf_nn (show (none : Option (xf_P V)) = some p from h)
  case invokespecial k =>
    rcases hf : xv_find y.1.2.2.1 k with _ | ⟨kd, j⟩
    · simp only [xf_of, hf] at h
      exact xf_nn (show (none : Option (xf_P V)) = some p from h)
    by_cases e1 : kd = 1
    · subst e1
      rcases hz : ms[j]? with _ | z
      · simp only [xf_of, hf, hz, show (Nat.beq 1 1 || Nat.beq 1 2) = true from rfl, cond_true] at h
        exact xf_nn (show (none : Option (xf_P V)) = some p from h)
      · simp only [xf_of, hf, hz, show (Nat.beq 1 1 || Nat.beq 1 2) = true from rfl, cond_true, xf_ci] at h
        obtain ⟨hle, h⟩ := xf_pop_eq _ _ _ _ _ h
        rw [List.append_nil] at h
        split at h
        · rename_i a R1 hdrop
          cases g2 : Nat.ble (xv_cats R1) 8 <;> simp only [g2, Bool.true_and, Bool.false_and, cond_true, cond_false, reduceCtorEq] at h
          cases b1 : Nat.ble (c + z.2.2.1.1) y.2.2.1.1 <;> simp only [b1, Bool.true_and, Bool.false_and, cond_true, cond_false, reduceCtorEq] at h
          cases b2 : Nat.ble (s + z.2.2.1.2) y.2.2.1.2 <;> simp only [b2, cond_true, cond_false, reduceCtorEq] at h
          obtain ⟨v, n1, T1, M1, hc1, hR1, h⟩ := xf_aft_ok hcall hR h
          obtain ⟨b, hb1, hb2⟩ := hn rfl _ _ _ _ _ _ _ ⟨Nat.le_of_ble_eq_true b1, Nat.le_of_ble_eq_true b2⟩ h _ hR1
          refine ⟨b, ?_, hb2⟩
          rw [xt_call (R := R1) rfl rfl rfl (by simp only [xv_arg, hf, show (Nat.beq 1 1 || Nat.beq 1 2) = true from rfl, hz, hdrop, g2, cond_true]) hz b1 b2 hc1]
          exact hb1
        · cases h
    by_cases e2 : kd = 2
    · subst e2
      rcases hz : ms[j]? with _ | z
      · simp only [xf_of, hf, hz, show (Nat.beq 2 1 || Nat.beq 2 2) = true from rfl, cond_true] at h
        exact xf_nn (show (none : Option (xf_P V)) = some p from h)
      · simp only [xf_of, hf, hz, show (Nat.beq 2 1 || Nat.beq 2 2) = true from rfl, cond_true, xf_ci] at h
        obtain ⟨hle, h⟩ := xf_pop_eq _ _ _ _ _ h
        rw [List.append_nil] at h
        split at h
        · rename_i a R1 hdrop
          cases g2 : Nat.ble (xv_cats R1) 8 <;> simp only [g2, Bool.true_and, Bool.false_and, cond_true, cond_false, reduceCtorEq] at h
          cases b1 : Nat.ble (c + z.2.2.1.1) y.2.2.1.1 <;> simp only [b1, Bool.true_and, Bool.false_and, cond_true, cond_false, reduceCtorEq] at h
          cases b2 : Nat.ble (s + z.2.2.1.2) y.2.2.1.2 <;> simp only [b2, cond_true, cond_false, reduceCtorEq] at h
          obtain ⟨v, n1, T1, M1, hc1, hR1, h⟩ := xf_aft_ok hcall hR h
          obtain ⟨b, hb1, hb2⟩ := hn rfl _ _ _ _ _ _ _ ⟨Nat.le_of_ble_eq_true b1, Nat.le_of_ble_eq_true b2⟩ h _ hR1
          refine ⟨b, ?_, hb2⟩
          rw [xt_call (R := R1) rfl rfl rfl (by simp only [xv_arg, hf, show (Nat.beq 2 1 || Nat.beq 2 2) = true from rfl, hz, hdrop, g2, cond_true]) hz b1 b2 hc1]
          exact hb1
        · cases h
    by_cases e5 : kd = 5
    · subst e5
      simp only [xf_of, hf, show (Nat.beq 5 1 || Nat.beq 5 2) = false from rfl, show Nat.beq 5 5 = true from rfl, cond_true, cond_false, xf_obj] at h
      split at h
      · rename_i a S1
        cases g2 : Nat.ble (xv_cats S1) 8 <;> simp only [g2, cond_true, cond_false, reduceCtorEq] at h
        obtain ⟨b, hb1, hb2⟩ := hn rfl _ _ _ _ _ _ _ hB h M hR
        refine ⟨b, ?_, hb2⟩
        rw [xt_nat (S' := S1) (M' := M) rfl rfl rfl (by simp only [xv_arg, hf, show (Nat.beq 5 1 || Nat.beq 5 2) = false from rfl, cond_false]) (by simp only [xv_nat, hf, g2, cond_true])]
        exact hb1
      · cases h
    simp only [xf_of, hf, xf_nbeq e1, xf_nbeq e2, xf_nbeq e5, Bool.or_self, cond_false] at h
    exact xf_nn (show (none : Option (xf_P V)) = some p from h)
  case invokestatic k =>
    rcases hf : xv_find y.1.2.2.1 k with _ | ⟨kd, j⟩
    · simp only [xf_of, hf] at h
      exact xf_nn (show (none : Option (xf_P V)) = some p from h)
    by_cases e3 : kd = 3
    · subst e3
      rcases hz : ms[j]? with _ | z
      · simp only [xf_of, hf, hz, show Nat.beq 3 3 = true from rfl, cond_true] at h
        exact xf_nn (show (none : Option (xf_P V)) = some p from h)
      · simp only [xf_of, hf, hz, show Nat.beq 3 3 = true from rfl, cond_true, xf_cs] at h
        obtain ⟨hle, h⟩ := xf_pop_eq _ _ _ _ _ h
        rw [List.append_nil] at h
        cases g2 : Nat.ble (xv_cats (S.drop z.2.1.1)) 8 <;> simp only [g2, Bool.true_and, Bool.false_and, cond_true, cond_false, reduceCtorEq] at h
        cases b1 : Nat.ble (c + z.2.2.1.1) y.2.2.1.1 <;> simp only [b1, Bool.true_and, Bool.false_and, cond_true, cond_false, reduceCtorEq] at h
        cases b2 : Nat.ble (s + z.2.2.1.2) y.2.2.1.2 <;> simp only [b2, cond_true, cond_false, reduceCtorEq] at h
        obtain ⟨v, n1, T1, M1, hc1, hR1, h⟩ := xf_aft_ok hcall hR h
        obtain ⟨b, hb1, hb2⟩ := hn rfl _ _ _ _ _ _ _ ⟨Nat.le_of_ble_eq_true b1, Nat.le_of_ble_eq_true b2⟩ h _ hR1
        refine ⟨b, ?_, hb2⟩
        rw [xt_call (R := S.drop z.2.1.1) rfl rfl rfl (by simp only [xv_arg, hf, hz, Nat.ble_eq_true_of_le hle, g2, Bool.and_self, cond_true]) hz b1 b2 hc1]
        exact hb1
    by_cases e6 : kd = 6
    · subst e6
      simp only [xf_of, hf, show Nat.beq 6 3 = false from rfl, show Nat.beq 6 6 = true from rfl, cond_true, cond_false, xf_cp] at h
      split at h
      · rename_i m dp b sp a S1
        obtain ⟨oa, hoa, h⟩ := xf_cell_ok h
        rw [hR.2] at hoa
        obtain ⟨ob, hob, h⟩ := xf_cell_ok h
        rw [hR.2] at hob
        cases g1 : (Nat.beq oa.1 0 && Nat.beq ob.1 0 && Nat.ble (xv_cats S1) 8) <;> simp only [g1, cond_true, cond_false, reduceCtorEq] at h
        split at h
        · rename_i m1 dp1 sp1 q1 q2 q3
          cases g2 : (Nat.ble (sp1 + m1) oa.2.length && Nat.ble (dp1 + m1) ob.2.length) <;> simp only [g2, cond_true, cond_false, reduceCtorEq] at h
          rw [xf_lay_eq] at h
          obtain ⟨T', h, hT⟩ := xf_upd_ok h
          obtain ⟨b2, hb1, hb2⟩ := hn rfl _ _ _ _ _ _ _ hB h _ (hR.set hob hT)
          refine ⟨b2, ?_, hb2⟩
          rw [xt_nat (S' := S1) (M' := M.set b (0, ob.2.take dp1 ++ ((oa.2.drop sp1).take m1 ++ ob.2.drop (dp1 + m1)))) rfl rfl rfl (by simp only [xv_arg, hf]) (by simp only [xv_nat, hf, xv_copy, hoa, hob, g1, g2, q1, q2, q3, cond_true])]
          exact hb1
        · cases h
      · cases h
    simp only [xf_of, hf, xf_nbeq e3, xf_nbeq e6, cond_false] at h
    exact xf_nn (show (none : Option (xf_P V)) = some p from h)
  case return_ =>
    simp only [xf_of] at h
    cases hr : Nat.beq y.2.1.2.2.1 0 <;> simp only [hr, cond_true, cond_false, xf_no, reduceCtorEq] at h
    simp only [xf_rv] at h
    split at h
    · cases Option.some.inj h
      rw [xt_end (v := none) rfl rfl rfl rfl rfl (by simp only [xv_end, hr, cond_true])]
      exact ⟨_, rfl, Or.inl ⟨_, _, _, _, rfl, rfl, hR⟩⟩
    · cases h
  case ireturn =>
    simp only [xf_of] at h
    cases hr : Nat.beq y.2.1.2.2.1 1 <;> simp only [hr, cond_true, cond_false] at h
    · cases hr3 : Nat.beq y.2.1.2.2.1 3 <;> simp only [hr3, cond_true, cond_false, xf_no, reduceCtorEq] at h
      simp only [xf_rz] at h
      split at h
      · rename_i a
        cases hbit : D.2.2.2.2.2 a <;> simp only [hbit, cond_true, cond_false, reduceCtorEq] at h
        cases Option.some.inj h
        rw [xt_end (v := some (.inl a)) rfl rfl rfl rfl rfl (by simp only [xv_end, hr, hr3, hbit, Bool.and_self, Bool.or_true, cond_true])]
        exact ⟨_, rfl, Or.inl ⟨_, _, _, _, rfl, rfl, hR⟩⟩
      · cases h
    · simp only [xf_ri] at h
      split at h
      · rename_i a
        cases Option.some.inj h
        rw [xt_end (v := some (.inl a)) rfl rfl rfl rfl rfl (by simp only [xv_end, hr, Bool.true_or, cond_true])]
        exact ⟨_, rfl, Or.inl ⟨_, _, _, _, rfl, rfl, hR⟩⟩
      · cases h
  case lreturn =>
    simp only [xf_of] at h
    cases hr : Nat.beq y.2.1.2.2.1 2 <;> simp only [hr, cond_true, cond_false, xf_no, reduceCtorEq] at h
    simp only [xf_rl] at h
    split at h
    · rename_i a
      cases Option.some.inj h
      rw [xt_end (v := some (.inr (.inl a))) rfl rfl rfl rfl rfl (by simp only [xv_end, hr, cond_true])]
      exact ⟨_, rfl, Or.inl ⟨_, _, _, _, rfl, rfl, hR⟩⟩
    · cases h
end XF2
