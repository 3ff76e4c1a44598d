/-! THE TABLES ARE RIGHT, by checks that are worked out -/
def xw_T (cl : List vw_C) (c : Nat) : u_T := match cl[c]? with
  | some r => r.2.1
  | none => fun _ => ("", "", "", false)
def xw_C (cl : List vw_C) (c : Nat) : String := match cl[c]? with
  | some r => r.1
  | none => ""
def xw_y (ys : List xm_Z) (j : Nat) : MethodName := match ys[j]? with
  | some z => z.1
  | none => ⟨"", "", ""⟩
/-- the words that a class's links want -/
def xw_F (cl : List vw_C) (own : String) (K : xv_K) : List Jvm.Cond := K.1.map fun q => Jvm.Cond.fieldLink own q.1 (xw_T cl q.2.1 q.2.2).1 (xw_T cl q.2.1 q.2.2).2.1 (xw_T cl q.2.1 q.2.2).2.2.1
def xw_N (cl : List vw_C) (at_ : List Nat) (own : String) (K : xv_K) : List Jvm.Cond := (K.2.2.1.filter fun q => Nat.blt q.2 2000).map fun q => bif Nat.blt q.2 1000 then Jvm.Cond.classLink own q.1 (xw_C cl q.2) else Jvm.Cond.classLink own (q.1 - 70000) (xw_C cl (at_.getD (q.2 - 1000) 999))
def xw_I (own : String) (K : xv_K) : List Jvm.Cond := K.2.2.2.1.map fun q => Jvm.Cond.constant own q.1 q.2
def xw_L (own : String) (K : xv_K) : List Jvm.Cond := K.2.2.2.2.map fun q => Jvm.Cond.constantLong own q.1 q.2
def xw_M (ys : List xm_Z) (own : String) (K : xv_K) : List Jvm.Cond := (K.2.1.filter fun q => !Nat.beq q.2.1 2).map fun q => Jvm.Cond.methodLink own q.1 (bif Nat.beq q.2.1 4 then xk_y else bif Nat.beq q.2.1 5 then Lib.objectInit else bif Nat.beq q.2.1 6 then arraycopyName else xw_y ys q.2.2)
def xw_K (cl : List vw_C) (at_ : List Nat) (ys : List xm_Z) (own : String) (K : xv_K) : List Jvm.Cond := xw_F cl own K ++ (xw_N cl at_ own K ++ (xw_I own K ++ (xw_L own K ++ xw_M ys own K)))
/-- the words that a method wants; kd: 0 virtual, 1 a constructor, 3 static -/
def xw_Y (z : xm_Z) (kd : Nat) : List Jvm.Cond := Jvm.Cond.initialized z.1.cls :: (bif Nat.beq kd 3 then [Jvm.Cond.static z.1] else bif Nat.beq kd 1 then [Jvm.Cond.instanceMethod z.1] else [Jvm.Cond.instanceMethod z.1, Jvm.Cond.selects z.1.cls z.1 z.1])
def xw_fOk (cl : List vw_C) (ct : List (List (FieldType × Bool))) (q : Nat × Nat × Nat) : Bool := match ct[q.2.1]?, cl[q.2.1]? with
  | some fs, some r => Nat.blt q.2.2 fs.length && Nat.beq r.2.2 fs.length
  | _, _ => false
def xw_nOk (cl : List vw_C) (at_ : List Nat) (sct : List (List Int32)) (strs : List (String × Nat × String × Nat)) (own : String) (q : Nat × Nat) : Bool := bif Nat.blt q.2 1000 then cl[q.2]?.isSome else bif Nat.blt q.2 1003 then (match at_[q.2 - 1000]? with
    | some cj => cl[cj]?.isSome
    | none => false) else Nat.ble 2000 q.2 && Nat.blt (q.2 - 2000) sct.length && strs.any (fun r => decide (r.1 = own) && Nat.beq r.2.1 q.1 && Nat.beq r.2.2.2 (q.2 - 2000))
def xw_mOk (nest : List (String × Nat × MethodName × String)) (ys : List xm_Z) (kds : List Nat) (own : String) (q : Nat × Nat × Nat) : Bool := bif Nat.ble 4 q.2.1 then Nat.ble q.2.1 6 else match ys[q.2.2]?, kds[q.2.2]? with
  | some z, some kd => bif Nat.beq q.2.1 0 then Nat.beq kd 0 else bif Nat.beq q.2.1 3 then Nat.beq kd 3 else Nat.beq kd 1 && z.2.2.isNone && decide (z.1.name = "<init>") && (bif Nat.beq q.2.1 1 then true else nest.any (fun r => decide (r.1 = own) && Nat.beq r.2.1 q.1 && decide (r.2.2.1 = z.1)))
  | _, _ => false
/-- a class's links stand -/
def xw_kOk (nest : List (String × Nat × MethodName × String)) (cl : List vw_C) (ct : List (List (FieldType × Bool))) (at_ : List Nat) (sct : List (List Int32)) (strs : List (String × Nat × String × Nat)) (ys : List xm_Z) (kds : List Nat) (own : String) (K : xv_K) : Bool :=
  K.1.all (xw_fOk cl ct) && (K.2.2.1.all (xw_nOk cl at_ sct strs own) && K.2.1.all (xw_mOk nest ys kds own))
def xw_dOk (cc : ByteArray) (q : xv_I) : Bool := match decode cc q.1 with
  | .ok r => decide (r.1 = q.2) && (xv_sw q.2 || Nat.beq r.2 (xv_len q.2))
  | _ => false
theorem xv_find_mem {α : Type} : ∀ {l : List (Nat × α)} {i : Nat} {a : α}, xv_find l i = some a → (i, a) ∈ l
  | [], _, _, h => by cases h
  | q :: l, i, a, h => by
    simp only [xv_find] at h
    cases hc : Nat.beq q.1 i <;> simp only [hc, cond_true, cond_false] at h
    · exact List.mem_cons_of_mem _ (xv_find_mem h)
    · cases Option.some.inj h
      rw [← Nat.eq_of_beq_eq_true hc]
      exact List.mem_cons_self
section XW1
variable {tb : List Jvm.Cond} {nest : List (String × Nat × MethodName × String)} {cl : List vw_C} {ct : List (List (FieldType × Bool))} {at_ : List Nat} {sct : List (List Int32)} {strs : List (String × Nat × String × Nat)} {ys : List xm_Z} {kds : List Nat} {own : String} {K : xv_K}
theorem xw_fld (hk : ∀ w ∈ xw_K cl at_ ys own K, w ∈ tb) (h : xw_kOk nest cl ct at_ sct strs ys kds own K = true) : xc_fld tb cl ct own K := by
  intro i ck hck
  have hm := xv_find_mem hck
  have h1 := List.all_eq_true.mp (Bool.and_eq_true_iff.mp h).1 _ hm
  have hw : Jvm.Cond.fieldLink own i (xw_T cl ck.1 ck.2).1 (xw_T cl ck.1 ck.2).2.1 (xw_T cl ck.1 ck.2).2.2.1 ∈ tb := hk _ (List.mem_append_left _ (List.mem_map.mpr ⟨_, hm, rfl⟩))
  unfold xw_fOk at h1
  dsimp only at h1
  split at h1
  · rename_i fs r hfs hr
    obtain ⟨g1, g2⟩ := Bool.and_eq_true_iff.mp h1
    obtain ⟨C, T, N⟩ := r
    have e2 : N = fs.length := Nat.eq_of_beq_eq_true g2
    subst e2
    have hlt : ck.2 < fs.length := Nat.le_of_ble_eq_true g1
    have hT : xw_T cl ck.1 = T := by simp only [xw_T, hr]
    rw [hT] at hw
    exact ⟨fs, fs[ck.2], C, T, hfs, List.getElem?_eq_getElem hlt, hr, hw⟩
  · cases h1
theorem xw_new (hk : ∀ w ∈ xw_K cl at_ ys own K, w ∈ tb) (h : xw_kOk nest cl ct at_ sct strs ys kds own K = true) : xc_new tb cl at_ own K := by
  intro i ci hci
  have hm := xv_find_mem hci
  have h1 := List.all_eq_true.mp (Bool.and_eq_true_iff.mp (Bool.and_eq_true_iff.mp h).2).1 _ hm
  have hw : ∀ w, w ∈ xw_N cl at_ own K → w ∈ tb := fun w hw => hk _ (List.mem_append_right _ (List.mem_append_left _ hw))
  unfold xw_nOk at h1
  dsimp only at h1
  refine ⟨fun hlt => ?_, fun hge hlt => ?_⟩
  · have e1 : Nat.blt ci 1000 = true := Nat.ble_eq_true_of_le hlt
    have e2 : Nat.blt ci 2000 = true := Nat.ble_eq_true_of_le (by omega)
    rw [e1, cond_true] at h1
    cases hr : cl[ci]? with
    | none => rw [hr] at h1; cases h1
    | some r =>
      obtain ⟨C, T, N⟩ := r
      refine ⟨C, T, N, rfl, hw _ (List.mem_map.mpr ⟨(i, ci), List.mem_filter.mpr ⟨hm, e2⟩, ?_⟩)⟩
      simp only [e1, cond_true, xw_C, hr]
  · have e1 : Nat.blt ci 1000 = false := by
      cases e : Nat.blt ci 1000
      · rfl
      · have : ci < 1000 := Nat.le_of_ble_eq_true e
        omega
    have e2 : Nat.blt ci 2000 = true := Nat.ble_eq_true_of_le (by omega)
    have e3 : Nat.blt ci 1003 = true := Nat.ble_eq_true_of_le hlt
    rw [e1, e3, cond_false, cond_true] at h1
    cases ha : at_[ci - 1000]? with
    | none => rw [ha] at h1; cases h1
    | some cj =>
      rw [ha] at h1
      dsimp only at h1
      cases hr : cl[cj]? with
      | none => rw [hr] at h1; cases h1
      | some r =>
        obtain ⟨C, T, N⟩ := r
        refine ⟨cj, C, T, N, rfl, hr, hw _ (List.mem_map.mpr ⟨(i, ci), List.mem_filter.mpr ⟨hm, e2⟩, ?_⟩)⟩
        simp only [e1, cond_false, xw_C, List.getD_eq_getElem?_getD, ha, Option.getD_some, hr]
theorem xw_cst (hk : ∀ w ∈ xw_K cl at_ ys own K, w ∈ tb) : xc_cst tb own K :=
  ⟨fun i v h => hk _ (List.mem_append_right _ (List.mem_append_right _ (List.mem_append_left _ (List.mem_map.mpr ⟨_, xv_find_mem h, rfl⟩)))),
   fun i v h => hk _ (List.mem_append_right _ (List.mem_append_right _ (List.mem_append_right _ (List.mem_append_left _ (List.mem_map.mpr ⟨_, xv_find_mem h, rfl⟩)))))⟩
theorem xw_str (h : xw_kOk nest cl ct at_ sct strs ys kds own K = true) : xc_str sct strs own K := by
  intro i n hn h2000
  have hm := xv_find_mem hn
  have h1 := List.all_eq_true.mp (Bool.and_eq_true_iff.mp (Bool.and_eq_true_iff.mp h).2).1 _ hm
  unfold xw_nOk at h1
  dsimp only at h1
  have e1 : Nat.blt n 1000 = false := by
    cases e : Nat.blt n 1000
    · rfl
    · have : n < 1000 := Nat.le_of_ble_eq_true e
      omega
  have e3 : Nat.blt n 1003 = false := by
    cases e : Nat.blt n 1003
    · rfl
    · have : n < 1003 := Nat.le_of_ble_eq_true e
      omega
  rw [e1, e3, cond_false, cond_false] at h1
  obtain ⟨g1, g2⟩ := Bool.and_eq_true_iff.mp h1
  obtain ⟨g3, g4⟩ := Bool.and_eq_true_iff.mp g1
  obtain ⟨r, hr, g5⟩ := List.any_eq_true.mp g2
  obtain ⟨g6, g7⟩ := Bool.and_eq_true_iff.mp g5
  obtain ⟨g8, g9⟩ := Bool.and_eq_true_iff.mp g6
  obtain ⟨a, b, tx, m⟩ := r
  refine ⟨Nat.le_of_ble_eq_true g4, tx, ?_⟩
  have e5 : a = own := of_decide_eq_true g8
  have e6 : b = i := Nat.eq_of_beq_eq_true g9
  have e7 : m = n - 2000 := Nat.eq_of_beq_eq_true g7
  rw [← e5, ← e6, ← e7]
  exact hr
theorem xw_mth (hk : ∀ w ∈ xw_K cl at_ ys own K, w ∈ tb) (h : xw_kOk nest cl ct at_ sct strs ys kds own K = true) (hY : ∀ (j : Nat) (z : xm_Z) (kd : Nat), ys[j]? = some z → kds[j]? = some kd → (kd = 0 → Jvm.Cond.instanceMethod z.1 ∈ tb ∧ Jvm.Cond.selects z.1.cls z.1 z.1 ∈ tb) ∧ (kd = 1 → Jvm.Cond.instanceMethod z.1 ∈ tb) ∧ (kd = 3 → Jvm.Cond.static z.1 ∈ tb)) : xc_mth tb nest ys own K := by
  intro i k j hj
  have hm := xv_find_mem hj
  have h1 := List.all_eq_true.mp (Bool.and_eq_true_iff.mp (Bool.and_eq_true_iff.mp h).2).2 _ hm
  have hw : ∀ w, w ∈ xw_M ys own K → w ∈ tb := fun w hw => hk _ (List.mem_append_right _ (List.mem_append_right _ (List.mem_append_right _ (List.mem_append_right _ hw))))
  have hl : ¬ k = 2 → Jvm.Cond.methodLink own i (bif Nat.beq k 4 then xk_y else bif Nat.beq k 5 then Lib.objectInit else bif Nat.beq k 6 then arraycopyName else xw_y ys j) ∈ tb := fun hne => hw _ (List.mem_map.mpr ⟨(i, k, j), List.mem_filter.mpr ⟨hm, by rw [xf_nbeq (b := 2) hne]; rfl⟩, rfl⟩)
  unfold xw_mOk at h1
  dsimp only at h1
  have small : ∀ {k0 : Nat}, k = k0 → k0 < 4 → ∃ z kd, ys[j]? = some z ∧ kds[j]? = some kd ∧ (bif Nat.beq k 0 then Nat.beq kd 0 else bif Nat.beq k 3 then Nat.beq kd 3 else Nat.beq kd 1 && z.2.2.isNone && decide (z.1.name = "<init>") && (bif Nat.beq k 1 then true else nest.any (fun r => decide (r.1 = own) && Nat.beq r.2.1 i && decide (r.2.2.1 = z.1)))) = true := by
    intro k0 e hlt
    have e4 : Nat.ble 4 k = false := by
      cases e5 : Nat.ble 4 k
      · rfl
      · have := Nat.le_of_ble_eq_true e5
        omega
    rw [e4, cond_false] at h1
    split at h1
    · rename_i z kd hz hkd
      exact ⟨z, kd, hz, hkd, h1⟩
    · cases h1
  have yw : ∀ {z : xm_Z}, ys[j]? = some z → xw_y ys j = z.1 := fun hz => by simp only [xw_y, hz]
  refine ⟨fun e => ?_, fun e => ?_, fun e => ?_, fun e => ?_, fun e => ?_, fun e => ?_, fun e => ?_⟩
  · obtain ⟨z, kd, hz, hkd, h2⟩ := small e (by decide)
    subst e
    have hkd0 : kd = 0 := Nat.eq_of_beq_eq_true h2
    have hl2 := hl (by decide)
    rw [show Nat.beq 0 4 = false from rfl, show Nat.beq 0 5 = false from rfl, show Nat.beq 0 6 = false from rfl, cond_false, cond_false, cond_false, yw hz] at hl2
    exact ⟨z, hz, hl2, ((hY j z kd hz hkd).1 hkd0).1, ((hY j z kd hz hkd).1 hkd0).2⟩
  · obtain ⟨z, kd, hz, hkd, h2⟩ := small e (by decide)
    subst e
    have hl2 := hl (by decide)
    rw [show Nat.beq 1 4 = false from rfl, show Nat.beq 1 5 = false from rfl, show Nat.beq 1 6 = false from rfl, cond_false, cond_false, cond_false, yw hz] at hl2
    rw [show Nat.beq 1 0 = false from rfl, show Nat.beq 1 3 = false from rfl, show Nat.beq 1 1 = true from rfl, cond_false, cond_false, cond_true, Bool.and_true] at h2
    obtain ⟨g1, g2⟩ := Bool.and_eq_true_iff.mp h2
    obtain ⟨g3, g4⟩ := Bool.and_eq_true_iff.mp g1
    exact ⟨z, hz, hl2, (hY j z kd hz hkd).2.1 (Nat.eq_of_beq_eq_true g3), of_decide_eq_true g2, Option.isNone_iff_eq_none.mp g4⟩
  · obtain ⟨z, kd, hz, hkd, h2⟩ := small e (by decide)
    subst e
    rw [show Nat.beq 2 0 = false from rfl, show Nat.beq 2 3 = false from rfl, show Nat.beq 2 1 = false from rfl, cond_false, cond_false, cond_false] at h2
    obtain ⟨g0, g5⟩ := Bool.and_eq_true_iff.mp h2
    obtain ⟨g1, g2⟩ := Bool.and_eq_true_iff.mp g0
    obtain ⟨g3, g4⟩ := Bool.and_eq_true_iff.mp g1
    obtain ⟨r, hr, g6⟩ := List.any_eq_true.mp g5
    obtain ⟨g7, g8⟩ := Bool.and_eq_true_iff.mp g6
    obtain ⟨g9, g10⟩ := Bool.and_eq_true_iff.mp g7
    obtain ⟨a, b, m, host⟩ := r
    have e5 : a = own := of_decide_eq_true g9
    have e6 : b = i := Nat.eq_of_beq_eq_true g10
    have e7 : m = z.1 := of_decide_eq_true g8
    refine ⟨z, host, hz, ?_, (hY j z kd hz hkd).2.1 (Nat.eq_of_beq_eq_true g3), of_decide_eq_true g2, Option.isNone_iff_eq_none.mp g4⟩
    rw [← e5, ← e6, ← e7]
    exact hr
  · obtain ⟨z, kd, hz, hkd, h2⟩ := small e (by decide)
    subst e
    have hl2 := hl (by decide)
    rw [show Nat.beq 3 4 = false from rfl, show Nat.beq 3 5 = false from rfl, show Nat.beq 3 6 = false from rfl, cond_false, cond_false, cond_false, yw hz] at hl2
    exact ⟨z, hz, hl2, (hY j z kd hz hkd).2.2 (Nat.eq_of_beq_eq_true h2)⟩
  · subst e
    exact hl (by decide)
  · subst e
    exact hl (by decide)
  · subst e
    exact hl (by decide)
/-- a method's own part -/
def xw_oOk (cl : List vw_C) (y : xv_N) (z : xm_Z) : Bool :=
  plainName z.1.cls && decide (z.1.cls ≠ "java/lang/invoke/MethodHandle") && decide (z.1.cls ≠ "java/lang/invoke/VarHandle") && decide ((parseMethodDescriptor z.1.desc).map (fun d => d.parameters.length) = some y.2.1.1) && Nat.ble y.2.1.2.1 25 && decide (xv_ret y.2.1.2.2.1 = z.2.2) && (!Nat.beq y.2.1.2.2.2 1 || decide (z.1.name = "<init>")) && (match cl[y.1.1]? with
    | some r => decide (r.1 = z.1.cls)
    | none => true)
theorem xw_bod {y : xv_N} {z : xm_Z} (hk : ∀ w ∈ xw_K cl at_ ys z.1.cls y.1.2, w ∈ tb) (h : xw_kOk nest cl ct at_ sct strs ys kds z.1.cls y.1.2 = true) (hY : ∀ (j : Nat) (z : xm_Z) (kd : Nat), ys[j]? = some z → kds[j]? = some kd → (kd = 0 → Jvm.Cond.instanceMethod z.1 ∈ tb ∧ Jvm.Cond.selects z.1.cls z.1 z.1 ∈ tb) ∧ (kd = 1 → Jvm.Cond.instanceMethod z.1 ∈ tb) ∧ (kd = 3 → Jvm.Cond.static z.1 ∈ tb)) (ho : xw_oOk cl y z = true) (hd : y.2.2.2.all (xw_dOk z.2.1) = true) : xc_bod tb nest cl ct at_ sct strs ys y z := by
  simp only [xw_oOk, Bool.and_eq_true_iff] at ho
  obtain ⟨⟨⟨⟨⟨⟨⟨o1, o2⟩, o3⟩, o4⟩, o5⟩, o6⟩, o7⟩, o8⟩ := ho
  refine ⟨of_decide_eq_true o6, fun e => ?_, fun C T N hr => ?_, fun q hq => ?_, xw_fld hk h, xw_new hk h, xw_cst hk, xw_str h, xw_mth hk h hY⟩
  · rw [e, show Nat.beq 1 1 = true from rfl, Bool.not_true, Bool.false_or] at o7
    exact of_decide_eq_true o7
  · rw [hr] at o8
    exact of_decide_eq_true o8
  · have h1 := List.all_eq_true.mp hd q hq
    unfold xw_dOk at h1
    split at h1
    · rename_i r hr
      obtain ⟨g1, g2⟩ := Bool.and_eq_true_iff.mp h1
      obtain ⟨i, len⟩ := r
      have e : i = q.2 := of_decide_eq_true g1
      subst e
      refine ⟨len, hr, ?_⟩
      rcases Bool.or_eq_true_iff.mp g2 with g | g
      · exact Or.inl g
      · exact Or.inr (Nat.eq_of_beq_eq_true g)
    · cases h1
theorem xw_one {y : xv_N} {z : xm_Z} {kd : Nat} (hc : Jvm.Cond.code z.1 z.2.1 y.2.1.2.1 z.2.2 ∈ tb) (hy : ∀ w ∈ xw_Y z kd, w ∈ tb) (hk : ∀ w ∈ xw_K cl at_ ys z.1.cls y.1.2, w ∈ tb) (h : xw_kOk nest cl ct at_ sct strs ys kds z.1.cls y.1.2 = true) (hY : ∀ (j : Nat) (z : xm_Z) (kd : Nat), ys[j]? = some z → kds[j]? = some kd → (kd = 0 → Jvm.Cond.instanceMethod z.1 ∈ tb ∧ Jvm.Cond.selects z.1.cls z.1 z.1 ∈ tb) ∧ (kd = 1 → Jvm.Cond.instanceMethod z.1 ∈ tb) ∧ (kd = 3 → Jvm.Cond.static z.1 ∈ tb)) (ho : xw_oOk cl y z = true) (hd : y.2.2.2.all (xw_dOk z.2.1) = true) : xc_one tb nest cl ct at_ sct strs ys y z := by
  have hb := xw_bod hk h hY ho hd
  simp only [xw_oOk, Bool.and_eq_true_iff] at ho
  obtain ⟨⟨⟨⟨⟨⟨⟨o1, o2⟩, o3⟩, o4⟩, o5⟩, o6⟩, o7⟩, o8⟩ := ho
  exact ⟨o1, hc, hy _ List.mem_cons_self, ⟨of_decide_eq_true o2, of_decide_eq_true o3, of_decide_eq_true o4⟩, Nat.le_of_ble_eq_true o5, hb⟩
theorem xw_kind {z : xm_Z} {kd : Nat} (hy : ∀ w ∈ xw_Y z kd, w ∈ tb) : (kd = 0 → Jvm.Cond.instanceMethod z.1 ∈ tb ∧ Jvm.Cond.selects z.1.cls z.1 z.1 ∈ tb) ∧ (kd = 1 → Jvm.Cond.instanceMethod z.1 ∈ tb) ∧ (kd = 3 → Jvm.Cond.static z.1 ∈ tb) := by
  refine ⟨fun e => ?_, fun e => ?_, fun e => ?_⟩
  · subst e
    exact ⟨hy _ (List.mem_cons_of_mem _ List.mem_cons_self), hy _ (List.mem_cons_of_mem _ (List.mem_cons_of_mem _ List.mem_cons_self))⟩
  · subst e
    exact hy _ (List.mem_cons_of_mem _ List.mem_cons_self)
  · subst e
    exact hy _ (List.mem_cons_of_mem _ List.mem_cons_self)
end XW1
