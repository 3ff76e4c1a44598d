section ZUT
variable {T : zu_T} {kd : List Nat} {σ : zu_m}
theorem zu_int_at {k : zu_k} {a n j : Nat} (hwf : zu_wf T kd) (h1 : kd[a]? = some n) (h2 : T.1[n]? = some k) (h0 : k.1.1 = 0) (hj : j < k.1.2) : (zu_cell k (a : Int) σ).2[j]? = some (.inl (σ (a : Int) (j : Int))) := by
  have hw := hwf a n k h1 h2
  obtain ⟨f, hf⟩ := hw.1.2.resolve_left (by omega)
  have hpl : zu_pl k = List.replicate k.1.2 f := by
    unfold zu_pl
    rw [h0, hf]
    rfl
  have hpi : (zu_pl k)[j]? = some f := by
    rw [hpl, List.getElem?_replicate, if_pos hj]
  have h3 := (hw.2 _ _ hpi).2.1 (Or.inl h0)
  rw [zu_cell_at hpi]
  unfold zu_sl
  rw [h3]
  rfl
theorem zu_int_len {k : zu_k} {a n : Nat} (hwf : zu_wf T kd) (h1 : kd[a]? = some n) (h2 : T.1[n]? = some k) (h0 : k.1.1 = 0) : (zu_cell k (a : Int) σ).2.length = k.1.2 := by
  have hw := hwf a n k h1 h2
  obtain ⟨f, hf⟩ := hw.1.2.resolve_left (by omega)
  rw [zu_cell_len]
  unfold zu_pl
  rw [h0, hf]
  show (List.replicate k.1.2 f).length = _
  rw [List.length_replicate]
theorem zu_emb_cp {ka kb : zu_k} {a b na nb sp dp n : Nat} (hwf : zu_wf T kd) (h1 : kd[a]? = some na) (h2 : T.1[na]? = some ka) (h3 : kd[b]? = some nb) (h4 : T.1[nb]? = some kb) (ha0 : ka.1.1 = 0) (hb0 : kb.1.1 = 0) (hs : sp + n ≤ ka.1.2) (hd : dp + n ≤ kb.1.2) :
    (zu_emb T kd σ).set b (0, (zu_cell kb (b : Int) σ).2.take dp ++ (((zu_cell ka (a : Int) σ).2.drop sp).take n ++ (zu_cell kb (b : Int) σ).2.drop (dp + n))) = zu_emb T kd (zu_cp σ (a : Int) (sp : Int) (b : Int) (dp : Int) (n : Int)) := by
  have hla := zu_int_len (σ := σ) hwf h1 h2 ha0
  have hlb := zu_int_len (σ := σ) hwf h3 h4 hb0
  refine List.ext_getElem? (fun c => ?_)
  rw [List.getElem?_set]
  have hlen : (zu_emb T kd σ).length = kd.length := by unfold zu_emb; rw [List.length_mapIdx]
  have hb : b < kd.length := (List.getElem?_eq_some_iff.mp h3).1
  by_cases e : b = c
  · subst e
    rw [if_pos rfl, if_pos (by rw [hlen]; exact hb), zu_emb_at h3 h4]
    congr 1
    have e0 : zu_cell kb (b : Int) (zu_cp σ (a : Int) (sp : Int) (b : Int) (dp : Int) (n : Int)) = (0, (zu_cell kb (b : Int) (zu_cp σ (a : Int) (sp : Int) (b : Int) (dp : Int) (n : Int))).2) := by
      rw [← hb0]; rfl
    rw [e0]
    congr 1
    refine List.ext_getElem? (fun j => ?_)
    have l1 : ((zu_cell kb (b : Int) σ).2.take dp).length = dp := by rw [List.length_take]; omega
    have l2 : (((zu_cell ka (a : Int) σ).2.drop sp).take n).length = n := by rw [List.length_take, List.length_drop]; omega
    have hl2 := zu_int_len (σ := zu_cp σ (a : Int) (sp : Int) (b : Int) (dp : Int) (n : Int)) hwf h3 h4 hb0
    by_cases hj : j < kb.1.2
    · rw [zu_int_at hwf h3 h4 hb0 hj]
      by_cases q1 : j < dp
      · rw [List.getElem?_append_left (by omega), List.getElem?_take, if_pos q1, zu_int_at hwf h3 h4 hb0 hj]
        unfold zu_cp
        rw [if_neg (by omega)]
      · rw [List.getElem?_append_right (by omega), l1]
        by_cases q2 : j < dp + n
        · rw [List.getElem?_append_left (by omega), List.getElem?_take, if_pos (by omega), List.getElem?_drop, zu_int_at hwf h1 h2 ha0 (by omega)]
          unfold zu_cp
          rw [if_pos ⟨rfl, by omega, by omega⟩]
          congr 3
          omega
        · rw [List.getElem?_append_right (by omega), l2, List.getElem?_drop, show dp + n + (j - dp - n) = j by omega, zu_int_at hwf h3 h4 hb0 hj]
          unfold zu_cp
          rw [if_neg (by omega)]
    · rw [List.getElem?_eq_none (by rw [List.length_append, List.length_append, l1, l2, List.length_drop]; omega), List.getElem?_eq_none (by omega)]
  · rw [if_neg e]
    unfold zu_emb
    rw [List.getElem?_mapIdx, List.getElem?_mapIdx]
    cases hc : kd[c]? with
    | none => rfl
    | some kc =>
      simp only [Option.map_some]
      congr 1
      cases hq : T.1[kc]? with
      | none => rfl
      | some qc =>
        simp only
        unfold zu_cell
        congr 1
        refine List.ext_getElem? (fun i => ?_)
        rw [List.getElem?_mapIdx, List.getElem?_mapIdx]
        cases hi : (zu_pl qc)[i]? with
        | none => rfl
        | some fi =>
          simp only [Option.map_some]
          congr 1
          have e1 : zu_cp σ (a : Int) (sp : Int) (b : Int) (dp : Int) (n : Int) (c : Int) (i : Int) = σ (c : Int) (i : Int) := by
            unfold zu_cp
            rw [if_neg (by omega)]
          have e2 : zu_rd fi (c : Int) (i : Int) (zu_cp σ (a : Int) (sp : Int) (b : Int) (dp : Int) (n : Int)) = zu_rd fi (c : Int) (i : Int) σ := by
            unfold zu_rd
            split <;> first | exact e1 | rfl
          unfold zu_sl
          split
          · rw [e1]
          · rw [e1]
          · rw [e2]
end ZUT
theorem zu_ald_some {T : zu_T} {ih : zu_I} {pc t0 t1 : Nat} {L S : List zu_v} {σ : zu_m} {r : zu_R} (h : zu_ald T ih pc L S σ t0 t1 = some r) : ∃ (i : Int) (tt : Nat) (a : Int) (S' : List zu_v) (k : zu_k) (f : zu_f) (fr : List zu_f), S = (0, i) :: (tt, a) :: S' ∧ zu_kd T tt = some k ∧ (k.1.1 = t0 ∨ k.1.1 = t1) ∧ k.2 = f :: fr ∧ (0 ≤ i ∧ i < (k.1.2 : Int)) ∧ ih (pc + 1) L ((f.1, zu_rd f a i σ) :: S') σ = some r := by
  unfold zu_ald at h
  rcases S with _ | ⟨⟨_ | _, i⟩, _ | ⟨⟨tt, a⟩, S⟩⟩
  all_goals (first | (cases h; done) | skip)
  simp only at h
  cases hk : zu_kd T tt with
  | none => rw [hk] at h; cases h
  | some k =>
    rw [hk] at h
    obtain ⟨q1, h⟩ := zu_cnd_some h
    cases hk2 : k.2 with
    | nil => rw [hk2] at h; cases h
    | cons f fr =>
      rw [hk2] at h
      obtain ⟨q2, h⟩ := zu_ite_some h
      exact ⟨i, tt, a, S, k, f, fr, rfl, hk, (Bool.or_eq_true_iff.mp q1).elim (fun q => Or.inl (Nat.eq_of_beq_eq_true q)) (fun q => Or.inr (Nat.eq_of_beq_eq_true q)), hk2, q2, h⟩
theorem zu_ast_some {T : zu_T} {ih : zu_I} {pc t0 t : Nat} {L S : List zu_v} {σ : zu_m} {r : zu_R} (h : zu_ast T ih pc L S σ t0 t = some r) : ∃ (u : Nat) (v i : Int) (tt : Nat) (a : Int) (S' : List zu_v) (k : zu_k), S = (u, v) :: (0, i) :: (tt, a) :: S' ∧ zu_kd T tt = some k ∧ k.1.1 = t0 ∧ u = t ∧ (0 ≤ i ∧ i < (k.1.2 : Int)) ∧ ih (pc + 1) L S' (zu_up σ a i v) = some r := by
  unfold zu_ast at h
  rcases S with _ | ⟨⟨u, v⟩, _ | ⟨⟨_ | _, i⟩, _ | ⟨⟨tt, a⟩, S⟩⟩⟩
  all_goals (first | (cases h; done) | skip)
  simp only at h
  cases hk : zu_kd T tt with
  | none => rw [hk] at h; cases h
  | some k =>
    rw [hk] at h
    obtain ⟨q1, h⟩ := zu_cnd_some h
    obtain ⟨q2, h⟩ := zu_ite_some h
    rw [Bool.and_eq_true_iff] at q1
    exact ⟨u, v, i, tt, a, S, k, rfl, hk, Nat.eq_of_beq_eq_true q1.1, Nat.eq_of_beq_eq_true q1.2, q2, h⟩
theorem zu_math_some {ih : zu_I} {pc j : Nat} {L S : List zu_v} {σ : zu_m} {r : zu_R} (h : zu_math ih pc j L S σ = some r) : (∃ (a : Int) (R : List zu_v), S = (0, a) :: R ∧ j = 312 ∧ Nat.ble (zu_cats R) 8 = true ∧ ih (pc + 3) L ((0, zu_abs a) :: R) σ = some r) ∨
    (∃ (a b : Int) (R : List zu_v), S = (0, b) :: (0, a) :: R ∧ Nat.ble (zu_cats R) 8 = true ∧ ((j = 313 ∧ ih (pc + 3) L ((0, zu_max a b) :: R) σ = some r) ∨ (j = 315 ∧ ih (pc + 3) L ((0, zu_min a b) :: R) σ = some r))) ∨
    (∃ (a b : Int) (R : List zu_v), S = (1, b) :: (1, a) :: R ∧ Nat.ble (zu_cats R) 8 = true ∧ ((j = 314 ∧ ih (pc + 3) L ((1, zu_max a b) :: R) σ = some r) ∨ (j = 316 ∧ ih (pc + 3) L ((1, zu_min a b) :: R) σ = some r))) := by
  have two : ∀ {k1 k2 : Nat} {x y : Option zu_R}, (bif Nat.beq j k1 then x else bif Nat.beq j k2 then y else none) = some r → (j = k1 ∧ x = some r) ∨ (j = k2 ∧ y = some r) := by
    intro k1 k2 x y h
    cases h1 : Nat.beq j k1 with
    | true => rw [h1] at h; exact Or.inl ⟨Nat.eq_of_beq_eq_true h1, h⟩
    | false =>
      rw [h1] at h
      obtain ⟨h2, h3⟩ := zu_cnd_some h
      exact Or.inr ⟨Nat.eq_of_beq_eq_true h2, h3⟩
  unfold zu_math at h
  split at h
  · rename_i b a R
    cases hj : Nat.beq j 312 with
    | true =>
      rw [hj] at h
      obtain ⟨h1, h2⟩ := zu_cnd_some h
      exact Or.inl ⟨b, _, rfl, Nat.eq_of_beq_eq_true hj, h1, h2⟩
    | false =>
      rw [hj] at h
      obtain ⟨h1, h2⟩ := zu_cnd_some h
      exact Or.inr (Or.inl ⟨a, b, R, rfl, h1, two h2⟩)
  · rename_i b a R
    obtain ⟨h1, h2⟩ := zu_cnd_some h
    exact Or.inr (Or.inr ⟨a, b, R, rfl, h1, two h2⟩)
  · obtain ⟨h1, h2⟩ := zu_cnd_some h
    rw [Bool.and_eq_true_iff] at h1
    exact Or.inl ⟨_, _, rfl, Nat.eq_of_beq_eq_true h1.1, h1.2, h2⟩
  · cases h
theorem zs_ald_none {T : zu_T} {kd : List Nat} {σ : zu_m} {tt : Nat} {S : List zu_v} {i a : Int} {k : zu_k} (hS : zu_okS kd ((0, i) :: (tt, a) :: S)) (hk : zu_kd T tt = some k) (h : 0 < k.1.1) : xv_ald zc_D (zu_emb T kd σ) (((0, i) :: (tt, a) :: S).map zu_x) 0 0 = none := by
  obtain ⟨b, rfl, hb1, hb2, hx, hM⟩ := zu_ref (σ := σ) (n := 0) (zu_okS_tl hS) hk
  simp only [List.map_cons, hx]
  show xv_ald zc_D (zu_emb T kd σ) (.inl i :: .inr (.inr (some b)) :: S.map zu_x) 0 0 = _
  unfold xv_ald
  simp only [hM]
  have c1 : Nat.ble (zu_cell k (b : Int) σ).1 0 = false := by
    cases hh : Nat.ble (zu_cell k (b : Int) σ).1 0
    · rfl
    · have h2 := Nat.le_of_ble_eq_true hh
      have h2 : k.1.1 ≤ 0 := h2
      omega
  rw [c1, Bool.and_false]
  rfl
theorem zu_nat_beq {a b : Nat} (h : Nat.beq a b = true) : a = b := Nat.eq_of_beq_eq_true h
/-- what getstatic needs: the class that asks, and the constant array -/
def zs_G (cl : List vw_C) (kx : xk_C) (kd : List Nat) (tb : List Jvm.Cond) (ys : List xm_Z) : Prop := ((∃ (T : u_T) (N : Nat), cl[2]? = some ("EggGarden$Formula", T, N)) ∧ kd[2]? = some 1 ∧ 2 ∈ kx.2.2.2.2.1) ∧ Jvm.Cond.initialized "java/lang/Math" ∈ tb ∧
  (∀ z, ys[312]? = some z → z.1 = Lib.Math.abs.name ∧ Jvm.Cond.code Lib.Math.abs.name Lib.Math.abs.code 1 (some .int) ∈ tb) ∧ (∀ z, ys[313]? = some z → z.1 = Lib.Math.max.name ∧ Jvm.Cond.code Lib.Math.max.name Lib.Math.max.code 2 (some .int) ∈ tb) ∧ (∀ z, ys[314]? = some z → z.1 = Lib.MathLoose.max_long.x ∧ Jvm.Cond.code Lib.MathLoose.max_long.x Lib.MathLoose.max_long.code 4 (some .long) ∈ tb) ∧
  (∀ z, ys[315]? = some z → z.1 = Lib.Math.min.name ∧ Jvm.Cond.code Lib.Math.min.name Lib.Math.min.code 2 (some .int) ∈ tb) ∧ (∀ z, ys[316]? = some z → z.1 = Lib.MathLoose.min_long.x ∧ Jvm.Cond.code Lib.MathLoose.min_long.x Lib.MathLoose.min_long.code 4 (some .long) ∈ tb)
theorem zu_max_32 (x y : Int32) : (if x < y then y else x).toInt = zu_max x.toInt y.toInt := by
  unfold zu_max
  by_cases h : x < y
  · rw [if_pos h, if_pos (Int32.lt_iff_toInt_lt.mp h)]
  · rw [if_neg h, if_neg (fun q => h (Int32.lt_iff_toInt_lt.mpr q))]
theorem zu_min_32 (x y : Int32) : (if y < x then y else x).toInt = zu_min x.toInt y.toInt := by
  unfold zu_min
  by_cases h : y < x
  · rw [if_pos h, if_pos (Int32.lt_iff_toInt_lt.mp h)]
  · rw [if_neg h, if_neg (fun q => h (Int32.lt_iff_toInt_lt.mpr q))]
theorem zu_max_64 (x y : Int64) : (if y < x then x else y).toInt = zu_max x.toInt y.toInt := by
  unfold zu_max
  by_cases h : y < x
  · have := Int64.lt_iff_toInt_lt.mp h
    rw [if_pos h, if_neg (by omega)]
  · have h2 : ¬ y.toInt < x.toInt := fun q => h (Int64.lt_iff_toInt_lt.mpr q)
    rw [if_neg h]
    split <;> omega
theorem zu_min_64 (x y : Int64) : (if y < x then y else x).toInt = zu_min x.toInt y.toInt := by
  unfold zu_min
  by_cases h : y < x
  · rw [if_pos h, if_pos (Int64.lt_iff_toInt_lt.mp h)]
  · rw [if_neg h, if_neg (fun q => h (Int64.lt_iff_toInt_lt.mpr q))]
theorem zu_abs_32 (x : Int32) : (if 0 ≤ x then x else 0 - x).toInt = zu_abs x.toInt := by
  unfold zu_abs
  have hz : 0 ≤ x ↔ 0 ≤ x.toInt := Int32.le_iff_toInt_le
  by_cases h : 0 ≤ x
  · rw [if_pos h, if_pos (hz.mp h)]
  · rw [if_neg h, if_neg (fun q => h (hz.mpr q))]
    exact Int32.toInt_sub 0 x
section ZUV
variable {l : Launch} {Dg : va_G} {cl : List vw_C} {tys : List (ClassId × FieldType)} {at_ : List Nat} {nest : List (String × Nat × MethodName × String)} {tb : List Jvm.Cond} {ct : List (List (FieldType × Bool))} {ms : List xv_N} {ys : List xm_Z} {kx : xk_C} {kcc : ByteArray}
variable {T : zu_T} {kd : List Nat}
set_option maxHeartbeats 8000000 in
/-- ONE STEP -/
theorem zs_step (hall : xc_all tb nest cl ct at_ kx.1 kx.2.2.2.1 kcc ms ys) (hY : xc_tys cl at_ tys) (hmx : ∀ (j : Nat) (z : xv_N), ms[j]? = some z → z.2.1.2.1 ≤ 12) (hwf : zu_wf T kd) (hT1 : T.2.1 = ct) (hT2 : T.2.2.1 = ms) (hg : zs_G cl kx kd tb ys)
    {c0 : zu_C} (hcall : ∀ (j : Nat) (as : List zu_v) (σ : zu_m) (r : zu_R) (d : Nat) (y : xv_N), c0 j as σ = some r → T.2.2.2[j]? = some d → ms[j]? = some y → zu_okS kd as → zu_cats as ≤ y.2.1.2.1 → xn_Con l zc_g tys Dg cl at_ nest kx tb ms ys d j (as.map zu_x) (zu_emb T kd σ) (zu_rv y.2.1.2.2.1 r.1, zu_emb T kd r.2))
    {y : xv_N} {z : xm_Z} {p : Program} {e : Env} {R : Room} {s : State} {m : MethodId} {args : Array Value} {below : List Frame} {meth : Method} {c : Code} {A : Nat → Prop} {Q : State → Prop} {φ0 : List Nat} {d : Nat} (hfix : xn_fix Dg cl tys at_ nest kx tb ct ys d y z p R s m args meth c A) (hkF : xk_F kx φ0)
    {ih : zu_I} {r : zu_R} {pc : Nat} {L S : List zu_v} {σ : zu_m} {cells slots : Nat} (h : zu_step T c0 ih y d pc L S σ = some r) (hLk : zu_okL kd L) (hSk : zu_okS kd S)
    (hih : ∀ (pc : Nat) (L S : List zu_v) (σ : zu_m), ih pc L S σ = some r → zu_okL kd L → zu_okS kd S → xw_st p l e R s m args below meth c Q zc_g Dg cl tys kx A φ0 y pc (L.map zu_xl) (S.map zu_x) (zu_emb T kd σ) cells slots)
    (hfin : ∀ (i : Instr) (pc : Nat) (L : xv_L Int) (S : List (xv_V Int)), xv_end zc_D y.2.1.2.2.1 S i = some (zu_rv y.2.1.2.2.1 r.1) → decode z.2.1 pc = .ok (i, xv_len i) → xw_st p l e R s m args below meth c Q zc_g Dg cl tys kx A φ0 y pc L S (zu_emb T kd r.2) cells slots) :
    xw_st p l e R s m args below meth c Q zc_g Dg cl tys kx A φ0 y pc (L.map zu_xl) (S.map zu_x) (zu_emb T kd σ) cells slots := by
  subst hT1
  subst hT2
  obtain ⟨hx, hb, hml, hown, ⟨w0, hts⟩, hK, hkw, ⟨r1, r2, r3, r4⟩, hA, hname, h6, h7, h8, h9, hF, hN, hcst, hstr, hMt⟩ := hfix
  have htb : ∀ w ∈ tb, w ∈ (w0 :: tb) := fun w hw => List.mem_cons_of_mem _ hw
  obtain ⟨⟨m1, m2, m3, m4⟩, n1, n2, n3, n4, n5⟩ := hall.2.2.2.1
  intro hc1 hc2 t ws H locs ls st hm hP hD0 hS hl hs
  unfold zu_step at h
  cases hi : xv_find y.2.2.2 pc with
  | none => rw [hi] at h; cases h
  | some i =>
  rw [hi] at h
  simp only at h
  have hdec : ∃ len, decode z.2.1 pc = .ok (i, len) ∧ (xv_sw i = true ∨ len = xv_len i) := h9 (pc, i) (xv_find_mem hi)
  have hdg : xv_sw i = false → decode z.2.1 pc = .ok (i, xv_len i) := fun hsw => by
    obtain ⟨len, g1, g2⟩ := hdec
    rcases g2 with g2 | g2
    · rw [hsw] at g2; cases g2
    · rw [← g2]; exact g1
  have hlsz : ls.size = y.2.1.2.1 := by obtain ⟨-, lv, hlv, -⟩ := hl; exact hlv.1
  have goP : ∀ (L' S' : List zu_v), xv_pure zc_D y.1.2 (L.map zu_xl) (S.map zu_x) i = some (L'.map zu_xl, S'.map zu_x) → ih (pc + xv_len i) L' S' σ = some r → zu_okL kd L' → zu_okS kd S' → W p l e R s m args below meth c H locs cells slots Q (F0 m pc ls st) := by
    intro L' S' e1 h e2 e3
    refine xs_pure hx hb hown zc_ok (fun i v hv => hts _ (htb _ (hcst.1 i v hv))) (fun i v hv => hts _ (htb _ (hcst.2 i v hv))) (fun i n hn h2000 => ?_) e1 (hdg (xs_pure_sw e1)) hl hs (fun ls' st' hl' hs' => ?_)
    · obtain ⟨g1, tx, g2⟩ := hstr i n hn h2000
      exact ⟨tx, _, hK.2.2.2.1 _ g2, hkF.mono.1 _ g1⟩
    exact hih _ _ _ _ h e2 e3 hc1 hc2 t ws H locs ls' st' hm hP hD0 hS hl' hs'
  have goB : ∀ (tg : Nat) (S' : List zu_v), xv_br zc_D pc (S.map zu_x) i = some (tg, S'.map zu_x) → ih tg L S' σ = some r → zu_okS kd S' → W p l e R s m args below meth c H locs cells slots Q (F0 m pc ls st) := by
    intro tg S' e1 h e3
    obtain ⟨len, d1, d2⟩ := hdec
    exact xs_br hx hb zc_ok e1 d1 d2 hs (fun st' hs' => hih _ _ _ _ h hLk e3 hc1 hc2 t ws H locs ls st' hm hP hD0 hS hl hs')
  have goM : ∀ (S' : List zu_v) (σ' : zu_m), xv_mem zc_D T.2.1 at_ y.1.2 y.1.1 y.2.1.2.2.2 (zu_emb T kd σ) (S.map zu_x) i = some (S'.map zu_x, zu_emb T kd σ', 0, 0) → ih (pc + xv_len i) L S' σ' = some r → zu_okS kd S' → W p l e R s m args below meth c H locs cells slots Q (F0 m pc ls st) := by
    intro S' σ' e1 h e3
    refine xs_mem hx hb hown hts htb zc_ok hall.2.1 hF hN hY hK.2.1 hall.2.2.1 (fun z => hname.trans (h7 z)) h8 hK.1 hA (fun k q o hC hq => ?_) e1 (hdg (xs_mem_sw e1)) hm hP hD0 hS hs (by rw [r3]; exact hc1) (by rw [r4]; exact hc2) (fun t' ws' H' locs' st' hm' hP' hD' hS' hs' => ?_)
    · obtain ⟨c1, c2, c3⟩ := hC
      cases Option.some.inj (hq.symm.trans (hkF.mono.2 k c1))
      exact ⟨_, _, (hkw.2.1 k c1).1, (hkw.2.1 k c1).2.1, (hkw.2.1 k c1).2.2, c2, fun j v hv => by
        obtain ⟨a, rfl, ha⟩ := c3 j v hv
        exact ⟨_, rfl, ha⟩⟩
    rw [List.append_assoc] at hm' hs'
    exact hih _ _ _ _ h hLk e3 hc1 hc2 (t ++ t') ws' H' locs' ls st' hm' hP' hD' hS' (by rw [← List.append_assoc]; exact xr_l_mono hl) hs'
  have goC : ∀ (j : Nat) (as R' : List zu_v), (Nat.ble (zu_cats R') 8 = true → xv_arg T.2.2.1 y.1.2 (zu_emb T kd σ) (S.map zu_x) i = some (j, as.map zu_x, R'.map zu_x)) → zu_inv T c0 ih d pc j L as R' σ = some r → zu_okS kd as → zu_okS kd R' → W p l e R s m args below meth c H locs cells slots Q (F0 m pc ls st) := by
    intro j as R' e1 h e2 e3
    unfold zu_inv at h
    split at h
    · rename_i yj dj hyj hdj
      obtain ⟨hc, h⟩ := zu_cnd_some h
      simp only [Bool.and_eq_true_iff] at hc
      obtain ⟨⟨⟨k1, k2, k3⟩, k4⟩, k5⟩ := hc
      have k1 : dj < d := by rw [Nat.blt_eq] at k1; exact k1
      have k2 := zu_nat_beq k2
      have k3 := zu_nat_beq k3
      have k5 := Nat.le_of_ble_eq_true k5
      have e1 := e1 k4
      cases hcr : c0 j as σ with
      | none => rw [hcr] at h; cases h
      | some q =>
        rw [hcr] at h
        have h : ih (pc + 3) L (zu_push yj.2.1.2.2.1 q.1 R') q.2 = some r := h
        refine xn_call hx hb hml hlsz hown hts hall hMt hK hkw hkF.mono (d := dj) (by omega) (by omega) hmx hA e1 hyj (hcall _ _ _ _ _ _ hcr hdj hyj e2 k5) (hdg (xs_arg_sw e1)) hm hP hD0 hS hs (by rw [r3, k2]; exact hc1) (by rw [r4, k3]; exact hc2) (fun t' ws' H' locs' st' hm' hP' hD' hS' hs' => ?_)
        rw [List.append_assoc] at hm' hs'
        rw [← zu_push_map] at hs'
        rw [k2, k3]
        exact hih _ _ _ _ h hLk (zu_push_ok e3) hc1 hc2 (t ++ t') ws' H' locs' ls st' hm' hP' hD' hS' (by rw [← List.append_assoc]; exact xr_l_mono hl) hs'
    · cases h
  have goN : ∀ (S' : List zu_v) (σ' : zu_m), xv_nat zc_D [] y.1.2 (zu_emb T kd σ) (S.map zu_x) i = some (S'.map zu_x, zu_emb T kd σ') → ih (pc + 3) L S' σ' = some r → zu_okS kd S' → W p l e R s m args below meth c H locs cells slots Q (F0 m pc ls st) := by
    intro S' σ' e1 h e3
    refine xs_nat hx hb (by rw [hml, hlsz]) hown zc_ok hY (fun i j hj => hts _ (htb _ ((hMt i 5 j hj).2.2.2.2.2.1 rfl))) (hts _ (htb _ n1)) (hts _ (htb _ n2)) (fun i j hj => hts _ (htb _ ((hMt i 6 j hj).2.2.2.2.2.2 rfl))) (hts _ (htb _ n3)) (hts _ (htb _ n4)) (hts _ (htb _ n5)) (sct := []) (fun i j n k cs b x q rest g1 g2 g3 g4 g5 g6 g7 g8 kk => ?_) (by omega) (by omega) hK.1 e1 (hdg (xs_nat_sw (kx := ([], kx.2)) e1)) hm hP hD0 hS hs (fun ws' H' locs' st' hm' hP' hD' hS' hs' => ?_)
    · simp at g2
    exact hih _ _ _ _ h hLk e3 hc1 hc2 t ws' H' locs' ls st' hm' hP' hD' hS' hl hs'
  have goE : xv_end zc_D y.2.1.2.2.1 (S.map zu_x) i = some (zu_rv y.2.1.2.2.1 r.1) → r.2 = σ → W p l e R s m args below meth c H locs cells slots Q (F0 m pc ls st) := by
    intro e1 e2
    rw [← e2] at hm
    exact hfin i pc _ _ e1 (hdg (xs_end_sw e1)) hc1 hc2 t ws H locs ls st hm hP hD0 hS hl hs
  cases hp : zu_pure y.1.2 L S i with
  | some LS =>
    rw [hp] at h
    obtain ⟨e1, e2, e3⟩ := zs_pure hLk hSk hp
    exact goP _ _ e1 h e2 e3
  | none =>
  rw [hp] at h
  simp only at h
  clear hp
  cases i
  all_goals (first | (cases h; done) | skip)
  case goto off =>
    obtain ⟨tg, h1, h2⟩ := zu_jmp_some h
    exact goB tg S (by simp only [xv_br, h1]) h2 hSk
  case if_icmp cc off =>
    rcases S with _ | ⟨⟨_ | _, b⟩, _ | ⟨⟨_ | _, a⟩, S⟩⟩
    all_goals (first | (cases h; done) | skip)
    have hk := zu_okS_tl (zu_okS_tl hSk)
    have key : ∀ (o : Nat) (P : Prop) (dP : Decidable P) (bb : Bool), zu_cond ih pc off L S σ P dP = some r → zc_cmp o a b = some bb → (bb = true ↔ P) → xv_br zc_D pc (List.map zu_x ((0, b) :: (0, a) :: S)) (.if_icmp cc off) = xv_cmp2 zc_D o pc off (.inl b :: .inl a :: S.map zu_x) → W p l e R s m args below meth c H locs cells slots Q (F0 m pc ls st) := by
      intro o P dP bb hcd hcm hiff hbr
      unfold zu_cond at hcd
      cases htg : xv_tgt pc off with
      | none => rw [htg] at hcd; cases hcd
      | some tg =>
        rw [htg] at hcd
        simp only at hcd
        have hcm' : zc_D.2.2.2.1 o a b = some bb := hcm
        by_cases hP : P
        · rw [if_pos hP] at hcd
          refine goB tg S ?_ hcd hk
          rw [hbr]
          simp only [xv_cmp2, hcm', htg, hiff.mpr hP, cond_true]
        · rw [if_neg hP] at hcd
          refine goB (pc + 3) S ?_ hcd hk
          rw [hbr]
          have : bb = false := by
            cases bb
            · rfl
            · exact absurd (hiff.mp rfl) hP
          simp only [xv_cmp2, hcm', htg, this, cond_false]
    cases cc
    · exact key 0 _ _ _ h rfl decide_eq_true_iff rfl
    · exact key 1 _ _ _ h rfl (by simp) rfl
    · exact key 2 _ _ _ h rfl decide_eq_true_iff rfl
    · exact key 3 _ _ _ h rfl decide_eq_true_iff rfl
    · exact key 4 _ _ _ h rfl decide_eq_true_iff rfl
    · exact key 5 _ _ _ h rfl decide_eq_true_iff rfl
  case ifCond cc off =>
    rcases S with _ | ⟨⟨_ | _, a⟩, S⟩
    all_goals (first | (cases h; done) | skip)
    have hk := zu_okS_tl hSk
    have key : ∀ (o : Nat) (P : Prop) (dP : Decidable P) (bb : Bool), zu_cond ih pc off L S σ P dP = some r → zc_cmp o a 0 = some bb → (bb = true ↔ P) → xv_br zc_D pc (List.map zu_x ((0, a) :: S)) (.ifCond cc off) = xv_cmp1 zc_D o pc off (.inl a :: S.map zu_x) → W p l e R s m args below meth c H locs cells slots Q (F0 m pc ls st) := by
      intro o P dP bb hcd hcm hiff hbr
      unfold zu_cond at hcd
      cases htg : xv_tgt pc off with
      | none => rw [htg] at hcd; cases hcd
      | some tg =>
        rw [htg] at hcd
        simp only at hcd
        have hcm' : zc_D.2.2.2.1 o a (zc_D.1 0) = some bb := hcm
        by_cases hP : P
        · rw [if_pos hP] at hcd
          refine goB tg S ?_ hcd hk
          rw [hbr]
          simp only [xv_cmp1, hcm', htg, hiff.mpr hP, cond_true]
        · rw [if_neg hP] at hcd
          refine goB (pc + 3) S ?_ hcd hk
          rw [hbr]
          have : bb = false := by
            cases bb
            · rfl
            · exact absurd (hiff.mp rfl) hP
          simp only [xv_cmp1, hcm', htg, this, cond_false]
    cases cc
    · exact key 0 _ _ _ h rfl decide_eq_true_iff rfl
    · exact key 1 _ _ _ h rfl (by simp) rfl
    · exact key 2 _ _ _ h rfl decide_eq_true_iff rfl
    · exact key 3 _ _ _ h rfl decide_eq_true_iff rfl
    · exact key 4 _ _ _ h rfl decide_eq_true_iff rfl
    · exact key 5 _ _ _ h rfl decide_eq_true_iff rfl
  case tableswitch dflt lo hi2 offs =>
    rcases S with _ | ⟨⟨_ | _, a⟩, S⟩
    all_goals (first | (cases h; done) | skip)
    have hk := zu_okS_tl hSk
    obtain ⟨hg, h⟩ := zu_cnd_some h
    have hg := of_decide_eq_true hg
    have hbr : xv_br zc_D pc (List.map zu_x ((0, a) :: S)) (.tableswitch dflt lo hi2 offs) = xv_tab pc dflt lo hi2 offs a (S.map zu_x) := rfl
    rcases zu_tab_some h with ⟨k, off, q1, q2, q3⟩ | ⟨q1, q3⟩
    · obtain ⟨tg, g1, g2⟩ := zu_jmp_some q3
      refine goB tg S ?_ g2 hk
      rw [hbr]
      unfold xv_tab
      have hkl : k < offs.toList.length := (List.getElem?_eq_some_iff.mp q1).1
      rw [if_neg (by omega), show (a - lo).toNat = k by omega, ← Array.getElem?_toList, q1]
      simp only [g1]
    · obtain ⟨tg, g1, g2⟩ := zu_jmp_some q3
      refine goB tg S ?_ g2 hk
      rw [hbr]
      unfold xv_tab
      rw [if_pos (by omega)]
      simp only [g1]
  case lookupswitch dflt ps =>
    rcases S with _ | ⟨⟨_ | _, a⟩, S⟩
    all_goals (first | (cases h; done) | skip)
    have hk := zu_okS_tl hSk
    obtain ⟨hg, h⟩ := zu_cnd_some h
    obtain ⟨tg, g1, g2⟩ := zu_jmp_some (zu_look_some h)
    refine goB tg S ?_ g2 hk
    show (bif (ps.toList.zip (ps.toList.drop 1)).all (fun q => decide (q.1.1 < q.2.1)) then _ else none) = _
    rw [hg]
    simp only [cond_true]
    show (match xv_tgt pc (Op.lookupswitch.offset ps.toList dflt a) with
      | some t => some (t, S.map zu_x)
      | none => none) = _
    rw [g1]
  case idiv =>
    rcases S with _ | ⟨⟨_ | _, b⟩, _ | ⟨⟨_ | _, a⟩, S⟩⟩
    all_goals (first | (cases h; done) | skip)
    have h : (if b = 0 then none else ih (pc + 1) L ((0, zu_w32 (a.tdiv b)) :: S) σ) = some r := h
    split at h
    · cases h
    · rename_i hb0
      refine goP L ((0, zu_w32 (a.tdiv b)) :: S) ?_ h hLk (zu_okS_cons (zu_okS_tl (zu_okS_tl hSk)) (zu_ok_int _) zu_n02)
      have e : zc_D.2.2.1 8 a b = some (zu_w32 (a.tdiv b)) := by show (if b = 0 then none else some (zu_w32 (a.tdiv b))) = _; rw [if_neg hb0]
      simp only [xv_pure, xv_i2, List.map_cons, zu_x, e]
  case irem =>
    rcases S with _ | ⟨⟨_ | _, b⟩, _ | ⟨⟨_ | _, a⟩, S⟩⟩
    all_goals (first | (cases h; done) | skip)
    have h : (if b = 0 then none else ih (pc + 1) L ((0, a.tmod b) :: S) σ) = some r := h
    split at h
    · cases h
    · rename_i hb0
      refine goP L ((0, a.tmod b) :: S) ?_ h hLk (zu_okS_cons (zu_okS_tl (zu_okS_tl hSk)) (zu_ok_int _) zu_n02)
      have e : zc_D.2.2.1 9 a b = some (a.tmod b) := by show (if b = 0 then none else some (a.tmod b)) = _; rw [if_neg hb0]
      simp only [xv_pure, xv_i2, List.map_cons, zu_x, e]
  case ldiv =>
    rcases S with _ | ⟨⟨_ | _ | _, b⟩, _ | ⟨⟨_ | _ | _, a⟩, S⟩⟩
    all_goals (first | (cases h; done) | skip)
    have h : (if b = 0 then none else ih (pc + 1) L ((1, zu_w64 (a.tdiv b)) :: S) σ) = some r := h
    split at h
    · cases h
    · rename_i hb0
      refine goP L ((1, zu_w64 (a.tdiv b)) :: S) ?_ h hLk (zu_okS_cons (zu_okS_tl (zu_okS_tl hSk)) (zu_ok_long _) zu_n12)
      have e : zc_D.2.2.1 25 a b = some (zu_w64 (a.tdiv b)) := by show (if b = 0 then none else some (zu_w64 (a.tdiv b))) = _; rw [if_neg hb0]
      simp only [xv_pure, xv_l2, List.map_cons, zu_x, e]
  case lrem =>
    rcases S with _ | ⟨⟨_ | _ | _, b⟩, _ | ⟨⟨_ | _ | _, a⟩, S⟩⟩
    all_goals (first | (cases h; done) | skip)
    have h : (if b = 0 then none else ih (pc + 1) L ((1, a.tmod b) :: S) σ) = some r := h
    split at h
    · cases h
    · rename_i hb0
      refine goP L ((1, a.tmod b) :: S) ?_ h hLk (zu_okS_cons (zu_okS_tl (zu_okS_tl hSk)) (zu_ok_long _) zu_n12)
      have e : zc_D.2.2.1 26 a b = some (a.tmod b) := by show (if b = 0 then none else some (a.tmod b)) = _; rw [if_neg hb0]
      simp only [xv_pure, xv_l2, List.map_cons, zu_x, e]
  case getfield i =>
    simp only [zu_rest] at h
    cases hf : xv_find y.1.2.1 i with
    | none => rw [hf] at h; cases h
    | some ck =>
      rw [hf] at h
      rcases S with _ | ⟨⟨tt, a⟩, S⟩
      · cases h
      simp only at h
      cases hk : zu_kd T tt with
      | none => rw [hk] at h; cases h
      | some k =>
        rw [hk] at h
        obtain ⟨q1, h⟩ := zu_cnd_some h
        have q1 := zu_nat_beq q1
        cases hq : k.2[ck.2]? with
        | none => rw [hq] at h; cases h
        | some f =>
          rw [hq] at h
          obtain ⟨b, rfl, hb1, hb2, hxx, hM⟩ := zu_ref (σ := σ) (n := 0) hSk hk
          have hpl : (zu_pl k)[ck.2]? = some f := by
            unfold zu_pl
            rw [show Nat.ble 8 k.1.1 = true from Nat.ble_eq_true_of_le (by omega)]
            exact hq
          obtain ⟨s1, s2, s3⟩ := zu_sl_x (σ := σ) hwf hb1 hb2 hpl
          refine goM ((f.1, zu_rd f (b : Int) (ck.2 : Int) σ) :: S) σ ?_ h (zu_okS_cons (zu_okS_tl hSk) s2 s3)
          simp only [xv_mem, hf, List.map_cons, hxx, hM]
          rw [show Nat.beq (zu_cell k (b : Int) σ).1 (8 + ck.1) = true by show Nat.beq k.1.1 (8 + ck.1) = true; rw [q1]; exact Nat.beq_refl _]
          simp only [cond_true]
          rw [zu_cell_at hpl, s1]
  case putfield i =>
    simp only [zu_rest] at h
    cases hf : xv_find y.1.2.1 i with
    | none => rw [hf] at h; cases h
    | some ck =>
      rw [hf] at h
      rcases S with _ | ⟨⟨u, v⟩, _ | ⟨⟨tt, a⟩, S⟩⟩
      · cases h
      · cases h
      simp only at h
      cases hk : zu_kd T tt with
      | none => rw [hk] at h; cases h
      | some k =>
        rw [hk] at h
        cases hfs : T.2.1[ck.1]? with
        | none => rw [hfs] at h; cases h
        | some fs =>
          rw [hfs] at h
          simp only at h
          obtain ⟨q1, h⟩ := zu_cnd_some h
          have q1 := zu_nat_beq q1
          obtain ⟨b, rfl, hb1, hb2, hxx, hM⟩ := zu_ref (σ := σ) (n := 0) (zu_okS_tl hSk) hk
          have hpl0 : zu_pl k = k.2 := by
            unfold zu_pl
            rw [show Nat.ble 8 k.1.1 = true from Nat.ble_eq_true_of_le (by omega)]
            rfl
          have fin : ∀ (g : zu_f) (f : FieldType × Bool), k.2[ck.2]? = some g → fs[ck.2]? = some f → f.2 = false → xv_fit zc_D f.1 (zu_x (u, v)) = true → ((g.1 = 0 ∧ zu_x (u, v) = .inl v) ∨ (g.1 = 1 ∧ zu_x (u, v) = .inr (.inl v))) → ih (pc + 3) L S (zu_up σ (b : Int) (ck.2 : Int) v) = some r → W p l e R s m args below meth c H locs cells slots Q (F0 m pc ls st) := by
            intro g f g0 g1 g2 g3 g4 g5
            have hpl : (zu_pl k)[ck.2]? = some g := by rw [hpl0]; exact g0
            have hlen : ck.2 < (zu_cell k (b : Int) σ).2.length := by rw [zu_cell_len, hpl0]; exact (List.getElem?_eq_some_iff.mp g0).1
            refine goM S (zu_up σ (b : Int) (ck.2 : Int) v) ?_ g5 (zu_okS_tl (zu_okS_tl hSk))
            simp only [xv_mem, hf, List.map_cons, hxx, hM]
            rw [show (Nat.beq (zu_cell k (b : Int) σ).1 (8 + ck.1) && Nat.blt ck.2 (zu_cell k (b : Int) σ).2.length) = true by
              rw [Bool.and_eq_true_iff, Nat.blt_eq]
              exact ⟨by show Nat.beq k.1.1 (8 + ck.1) = true; rw [q1]; exact Nat.beq_refl _, hlen⟩]
            simp only [cond_true, hfs, g1, g3, g2]
            rw [zu_emb_up (v := v) hb1 hb2 hpl g4]
            rfl
          split at h
          · rename_i g g0 g1
            obtain ⟨k1, h2⟩ := zu_cnd_some h
            rw [Bool.and_eq_true_iff] at k1
            have e1 := zu_nat_beq k1.1
            subst e1
            exact fin g _ g0 g1 rfl rfl (Or.inl ⟨zu_nat_beq k1.2, rfl⟩) h2
          · rename_i g g0 g1
            obtain ⟨k1, h2⟩ := zu_cnd_some h
            rw [Bool.and_eq_true_iff] at k1
            have e1 := zu_nat_beq k1.1
            subst e1
            exact fin g _ g0 g1 rfl rfl (Or.inr ⟨zu_nat_beq k1.2, rfl⟩) h2
          · rename_i g g0 g1
            obtain ⟨k1, h2⟩ := zu_cnd_some h
            rw [Bool.and_eq_true_iff] at k1
            have e1 := zu_nat_beq k1.1
            subst e1
            obtain ⟨k3, h2⟩ := zu_b_some h2
            exact fin g _ g0 g1 rfl (decide_eq_true k3) (Or.inl ⟨zu_nat_beq k1.2, rfl⟩) h2
          · cases h
  case getstatic i =>
    obtain ⟨q1, h2⟩ := zu_cnd_some h
    rw [Bool.and_eq_true_iff] at q1
    have e1 := zu_nat_beq q1.1
    have e2 := zu_nat_beq q1.2
    subst e1
    obtain ⟨⟨⟨TF, NF, hF2⟩, hk2, hc2'⟩, -⟩ := hg
    have hcls : "EggGarden$Formula" = z.1.cls := h8 _ TF NF (by rw [e2]; exact hF2)
    rw [← hcls] at hown
    refine va_getsN hx hb hkw.2.2 hS hown (va_Nw.use rfl hK.2.2.2.2.2.2.2) (fun x hx => hx) (hdg rfl) ?_
    refine hih _ _ _ _ h2 hLk (zu_okS_cons hSk (fun t ht => ?_) (by show (4 : Nat) ≠ 2; decide)) hc1 hc2 t ws H locs ls _ hm hP hD0 hS hl ⟨_, _, rfl, ⟨_, hkF.mono.2 2 hc2', rfl⟩, hs⟩
    obtain rfl : t = 1 := by
      have ht : 4 = t + 3 := ht
      omega
    exact ⟨by show (0 : Int) ≤ 2; decide, hk2⟩
  case arraylength =>
    rcases S with _ | ⟨⟨tt, a⟩, S⟩
    · cases h
    simp only [zu_rest] at h
    cases hk : zu_kd T tt with
    | none => rw [hk] at h; cases h
    | some k =>
      rw [hk] at h
      obtain ⟨q1, h⟩ := zu_cnd_some h
      rw [Bool.and_eq_true_iff, Nat.blt_eq] at q1
      obtain ⟨q1, q2⟩ := q1
      have q2 := Nat.le_of_ble_eq_true q2
      obtain ⟨b, rfl, hb1, hb2, hxx, hM⟩ := zu_ref (σ := σ) (n := 0) hSk hk
      refine goM ((0, (k.1.2 : Int)) :: S) σ ?_ h (zu_okS_cons (zu_okS_tl hSk) (zu_ok_int _) zu_n02)
      obtain ⟨f, hf⟩ := (hwf b _ k hb1 hb2).1.2.resolve_left (by omega)
      have hlen : (zu_cell k (b : Int) σ).2.length = k.1.2 := by
        rw [zu_cell_len]
        unfold zu_pl
        rw [show Nat.ble 8 k.1.1 = false by
          cases hh : Nat.ble 8 k.1.1
          · rfl
          · have := Nat.le_of_ble_eq_true hh; omega, hf]
        show (List.replicate k.1.2 f).length = _
        rw [List.length_replicate]
      simp only [xv_mem, List.map_cons, hxx, hM]
      rw [hlen, show (Nat.blt (zu_cell k (b : Int) σ).1 7 && Nat.ble k.1.2 4096) = true by
        rw [Bool.and_eq_true_iff, Nat.blt_eq]
        exact ⟨q1, Nat.ble_eq_true_of_le q2⟩]
      simp only [cond_true]
      show some (Sum.inl (Int32.ofNat k.1.2).toInt :: S.map zu_x, zu_emb T kd σ, 0, 0) = _
      rw [Int32.toInt_ofNat_of_lt (by omega)]
      rfl
  case iaload =>
    obtain ⟨i, tt, a, S', k, f, fr, rfl, g1, g2, g3, g4, g5⟩ := zu_ald_some h
    rcases g2 with g2 | g2
    · obtain ⟨e1, e2⟩ := zs_ald (σ := σ) (S' := []) hwf hSk g1 (by omega) g3 g4 (t0 := 0) (t1 := 0) (by omega) (by omega)
      refine goM _ σ ?_ g5 e2
      simp only [xv_mem]
      rw [e1]
    · obtain ⟨e1, e2⟩ := zs_ald (σ := σ) (S' := []) hwf hSk g1 (by omega) g3 g4 (t0 := 3) (t1 := 3) (by omega) (by omega)
      refine goM _ σ ?_ g5 e2
      simp only [xv_mem]
      rw [zs_ald_none hSk g1 (by omega), e1]
  case laload =>
    obtain ⟨i, tt, a, S', k, f, fr, rfl, g1, g2, g3, g4, g5⟩ := zu_ald_some h
    obtain ⟨e1, e2⟩ := zs_ald (σ := σ) (S' := []) hwf hSk g1 (by omega) g3 g4 (t0 := 1) (t1 := 1) (by omega) (by omega)
    exact goM _ σ e1 g5 e2
  case baload =>
    obtain ⟨i, tt, a, S', k, f, fr, rfl, g1, g2, g3, g4, g5⟩ := zu_ald_some h
    obtain ⟨e1, e2⟩ := zs_ald (σ := σ) (S' := []) hwf hSk g1 (by omega) g3 g4 (t0 := 2) (t1 := 2) (by omega) (by omega)
    exact goM _ σ e1 g5 e2
  case aaload =>
    obtain ⟨i, tt, a, S', k, f, fr, rfl, g1, g2, g3, g4, g5⟩ := zu_ald_some h
    obtain ⟨e1, e2⟩ := zs_ald (σ := σ) (S' := []) hwf hSk g1 (by omega) g3 g4 (t0 := 4) (t1 := 6) (by omega) (by omega)
    exact goM _ σ e1 g5 e2
  case iastore =>
    obtain ⟨u, v, i, tt, a, S', k, rfl, g1, g2, rfl, g4, g5⟩ := zu_ast_some h
    exact goM _ _ (zs_ast (σ := σ) (ty := .int) hwf hSk g1 g4 g2 (Or.inl ⟨rfl, Or.inl rfl⟩) rfl) g5 (zu_okS_tl (zu_okS_tl (zu_okS_tl hSk)))
  case lastore =>
    obtain ⟨u, v, i, tt, a, S', k, rfl, g1, g2, rfl, g4, g5⟩ := zu_ast_some h
    exact goM _ _ (zs_ast (σ := σ) (ty := .long) hwf hSk g1 g4 g2 (Or.inr ⟨rfl, rfl⟩) rfl) g5 (zu_okS_tl (zu_okS_tl (zu_okS_tl hSk)))
  case bastore =>
    rcases S with _ | ⟨⟨u0, v0⟩, S⟩
    · cases h
    obtain ⟨hv, h⟩ := zu_b_some h
    obtain ⟨u, v, i, tt, a, S', k, hSe, g1, g2, rfl, g4, g5⟩ := zu_ast_some h
    cases hSe
    exact goM _ _ (zs_ast (σ := σ) (ty := .boolean) hwf hSk g1 g4 g2 (Or.inl ⟨rfl, Or.inr rfl⟩) (decide_eq_true hv)) g5 (zu_okS_tl (zu_okS_tl (zu_okS_tl hSk)))
  case invokevirtual i =>
    simp only [zu_rest] at h
    cases hf : xv_find y.1.2.2.1 i with
    | none => rw [hf] at h; cases h
    | some q =>
      rw [hf] at h
      obtain ⟨_ | _, j⟩ := q
      · simp only at h
        cases hj : T.2.2.1[j]? with
        | none => rw [hj] at h; cases h
        | some zj =>
          rw [hj] at h
          simp only at h
          cases hdr : S.drop zj.2.1.1 with
          | nil => rw [hdr] at h; cases h
          | cons w R' =>
            rw [hdr] at h
            obtain ⟨tt, a⟩ := w
            simp only at h
            cases hk : zu_kd T tt with
            | none => rw [hk] at h; cases h
            | some k =>
              rw [hk] at h
              obtain ⟨q1, h⟩ := zu_cnd_some h
              have q1 := zu_nat_beq q1
              have hokd : zu_okS kd ((tt, a) :: R') := fun w hw => hSk w (List.mem_of_mem_drop (by rw [hdr]; exact hw))
              obtain ⟨b, rfl, hb1, hb2, hxx, hM⟩ := zu_ref (σ := σ) (n := 0) hokd hk
              refine goC j _ R' (fun h8 => ?_) h (zu_okS_cons (fun w hw => hSk w (List.mem_of_mem_take (List.mem_reverse.mp hw))) (zu_okS_hd hokd).1 (zu_okS_hd hokd).2) (zu_okS_tl hokd)
              have hdm : (S.map zu_x).drop zj.2.1.1 = .inr (.inr (some b)) :: R'.map zu_x := by rw [← List.map_drop, hdr, List.map_cons, hxx]
              simp only [xv_arg, hf, hj, hdm, hM]
              rw [show (Nat.beq (zu_cell k (b : Int) σ).1 (8 + zj.1.1) && Nat.ble (xv_cats (R'.map zu_x)) 8) = true by
                rw [Bool.and_eq_true_iff]
                exact ⟨by show Nat.beq k.1.1 (8 + zj.1.1) = true; rw [q1]; exact Nat.beq_refl _, by rw [zu_cats_map (fun w hw => (zu_okS_tl hokd w hw).2)]; exact h8⟩]
              simp only [cond_true, List.map_cons, hxx, List.map_reverse, List.map_take]
      · cases h
  case invokestatic i =>
    simp only [zu_rest] at h
    cases hf : xv_find y.1.2.2.1 i with
    | none => rw [hf] at h; cases h
    | some q =>
      rw [hf] at h
      obtain ⟨q0, j⟩ := q
      split at h
      · rename_i j' he
        cases he
        cases hj : T.2.2.1[j]? with
        | none =>
          rw [hj] at h
          have h : zu_math ih pc j L S σ = some r := h
          obtain ⟨zy, hzy, hl1, hl2⟩ := (hMt i 3 j hf).2.2.2.1 rfl
          obtain ⟨-, hmi, g312, g313, g314, g315, g316⟩ := hg
          have l1 := hts _ (htb _ hl1)
          have l2 := hts _ (htb _ hl2)
          have l3 := hts _ (htb _ hmi)
          have hdgm := hdg rfl
          have goAbs : ∀ (a : Int) (R' : List zu_v), S = (0, a) :: R' → j = 312 → Nat.ble (zu_cats R') 8 = true → ih (pc + 3) L ((0, zu_abs a) :: R') σ = some r → W p l e R s m args below meth c H locs cells slots Q (F0 m pc ls st) := by
            intro a R' e1 e2 e3 e4
            subst e1
            subst e2
            obtain ⟨x1, x2⟩ := g312 _ hzy
            rw [x1] at l1 l2
            obtain ⟨_, rest, rfl, ⟨x, rfl, hxa⟩, hrs⟩ := hs
            obtain rfl : x.toInt = a := hxa
            have hcat := xr_s_cats hrs
            rw [zu_cats_map (fun w hw => (zu_okS_tl hSk w hw).2)] at hcat
            have h8 := Nat.le_of_ble_eq_true e3
            exact va_mabs hx hb (by rw [hml, hlsz]) hown l1 l2 l3 (hts _ (htb _ x2)) (by omega) (by omega) (by rw [r3]; exact hc1) (by rw [r4]; exact hc2) hdgm (hih _ _ _ _ e4 hLk (zu_okS_cons (zu_okS_tl hSk) (zu_ok_int _) zu_n02) hc1 hc2 t ws H locs ls _ hm hP hD0 hS hl ⟨_, _, rfl, ⟨_, rfl, zu_abs_32 x⟩, hrs⟩)
          have goI : ∀ (f : Int → Int → Int) (k1 : Int32 → Int32 → Int32) (a b : Int) (R' : List zu_v), S = (0, b) :: (0, a) :: R' → (∀ x y, (k1 x y).toInt = f x.toInt y.toInt) → (∀ (x y : Int32) (rest : List Value), (rest.map fun v => v.category).sum ≤ 8 → W p l e R s m args below meth c H locs cells slots Q (F0 m (pc + 3) ls (.int (k1 x y) :: rest)) → W p l e R s m args below meth c H locs cells slots Q (F0 m pc ls (.int y :: .int x :: rest))) → Nat.ble (zu_cats R') 8 = true → ih (pc + 3) L ((0, f a b) :: R') σ = some r → W p l e R s m args below meth c H locs cells slots Q (F0 m pc ls st) := by
            intro f k1 a b R' e1 hk1 hrow e3 e4
            subst e1
            obtain ⟨_, r1', rfl, ⟨yv, rfl, hyb⟩, _, rest, rfl, ⟨xv, rfl, hxa⟩, hrs⟩ := hs
            obtain rfl : xv.toInt = a := hxa
            obtain rfl : yv.toInt = b := hyb
            have hcat := xr_s_cats hrs
            rw [zu_cats_map (fun w hw => (zu_okS_tl (zu_okS_tl hSk) w hw).2)] at hcat
            have h8 := Nat.le_of_ble_eq_true e3
            exact hrow xv yv rest (by omega) (hih _ _ _ _ e4 hLk (zu_okS_cons (zu_okS_tl (zu_okS_tl hSk)) (zu_ok_int _) zu_n02) hc1 hc2 t ws H locs ls _ hm hP hD0 hS hl ⟨_, _, rfl, ⟨_, rfl, hk1 xv yv⟩, hrs⟩)
          have goL : ∀ (f : Int → Int → Int) (k1 : Int64 → Int64 → Int64) (a b : Int) (R' : List zu_v), S = (1, b) :: (1, a) :: R' → (∀ x y, (k1 x y).toInt = f x.toInt y.toInt) → (∀ (x y : Int64) (rest : List Value), (rest.map fun v => v.category).sum ≤ 8 → W p l e R s m args below meth c H locs cells slots Q (F0 m (pc + 3) ls (.long (k1 x y) :: rest)) → W p l e R s m args below meth c H locs cells slots Q (F0 m pc ls (.long y :: .long x :: rest))) → Nat.ble (zu_cats R') 8 = true → ih (pc + 3) L ((1, f a b) :: R') σ = some r → W p l e R s m args below meth c H locs cells slots Q (F0 m pc ls st) := by
            intro f k1 a b R' e1 hk1 hrow e3 e4
            subst e1
            obtain ⟨_, r1', rfl, ⟨yv, rfl, hyb⟩, _, rest, rfl, ⟨xv, rfl, hxa⟩, hrs⟩ := hs
            obtain rfl : xv.toInt = a := hxa
            obtain rfl : yv.toInt = b := hyb
            have hcat := xr_s_cats hrs
            rw [zu_cats_map (fun w hw => (zu_okS_tl (zu_okS_tl hSk) w hw).2)] at hcat
            have h8 := Nat.le_of_ble_eq_true e3
            exact hrow xv yv rest (by omega) (hih _ _ _ _ e4 hLk (zu_okS_cons (zu_okS_tl (zu_okS_tl hSk)) (zu_ok_long _) zu_n12) hc1 hc2 t ws H locs ls _ hm hP hD0 hS hl ⟨_, _, rfl, ⟨_, rfl, hk1 xv yv⟩, hrs⟩)
          have go313 : j = 313 → ∀ (x y : Int32) (rest : List Value), (rest.map fun v => v.category).sum ≤ 8 → W p l e R s m args below meth c H locs cells slots Q (F0 m (pc + 3) ls (.int (if x < y then y else x) :: rest)) → W p l e R s m args below meth c H locs cells slots Q (F0 m pc ls (.int y :: .int x :: rest)) := by
            intro ej x y rest h8 kk
            subst ej
            obtain ⟨x1, x2⟩ := g313 _ hzy
            rw [x1] at l1 l2
            exact va_mmax hx hb (by rw [hml, hlsz]) hown l1 l2 l3 (hts _ (htb _ x2)) (by omega) (by omega) (by rw [r3]; exact hc1) (by rw [r4]; exact hc2) hdgm kk
          have go315 : j = 315 → ∀ (x y : Int32) (rest : List Value), (rest.map fun v => v.category).sum ≤ 8 → W p l e R s m args below meth c H locs cells slots Q (F0 m (pc + 3) ls (.int (if y < x then y else x) :: rest)) → W p l e R s m args below meth c H locs cells slots Q (F0 m pc ls (.int y :: .int x :: rest)) := by
            intro ej x y rest h8 kk
            subst ej
            obtain ⟨x1, x2⟩ := g315 _ hzy
            rw [x1] at l1 l2
            exact va_mmin hx hb (by rw [hml, hlsz]) hown l1 l2 l3 (hts _ (htb _ x2)) (by omega) (by omega) (by rw [r3]; exact hc1) (by rw [r4]; exact hc2) hdgm kk
          have go314 : j = 314 → ∀ (x y : Int64) (rest : List Value), (rest.map fun v => v.category).sum ≤ 8 → W p l e R s m args below meth c H locs cells slots Q (F0 m (pc + 3) ls (.long (if y < x then x else y) :: rest)) → W p l e R s m args below meth c H locs cells slots Q (F0 m pc ls (.long y :: .long x :: rest)) := by
            intro ej x y rest h8 kk
            subst ej
            obtain ⟨x1, x2⟩ := g314 _ hzy
            rw [x1] at l1 l2
            exact va_mmax_long hx hb (by rw [hml, hlsz]) hown l1 l2 l3 (hts _ (htb _ x2)) (by omega) (by omega) (by rw [r3]; exact hc1) (by rw [r4]; exact hc2) hdgm kk
          have go316 : j = 316 → ∀ (x y : Int64) (rest : List Value), (rest.map fun v => v.category).sum ≤ 8 → W p l e R s m args below meth c H locs cells slots Q (F0 m (pc + 3) ls (.long (if y < x then y else x) :: rest)) → W p l e R s m args below meth c H locs cells slots Q (F0 m pc ls (.long y :: .long x :: rest)) := by
            intro ej x y rest h8 kk
            subst ej
            obtain ⟨x1, x2⟩ := g316 _ hzy
            rw [x1] at l1 l2
            exact va_mmin_long hx hb (by rw [hml, hlsz]) hown l1 l2 l3 (hts _ (htb _ x2)) (by omega) (by omega) (by rw [r3]; exact hc1) (by rw [r4]; exact hc2) hdgm kk
          rcases zu_math_some h with ⟨a, R', k1, k2, k3, k4⟩ | ⟨a, b, R', k1, k3, ⟨k2, k4⟩ | ⟨k2, k4⟩⟩ | ⟨a, b, R', k1, k3, ⟨k2, k4⟩ | ⟨k2, k4⟩⟩
          · exact goAbs a R' k1 k2 k3 k4
          · exact goI zu_max _ a b R' k1 zu_max_32 (go313 k2) k3 k4
          · exact goI zu_min _ a b R' k1 zu_min_32 (go315 k2) k3 k4
          · exact goL zu_max _ a b R' k1 zu_max_64 (go314 k2) k3 k4
          · exact goL zu_min _ a b R' k1 zu_min_64 (go316 k2) k3 k4
        | some zj =>
          rw [hj] at h
          obtain ⟨q1, h⟩ := zu_cnd_some h
          refine goC j _ (S.drop zj.2.1.1) (fun h8 => ?_) h (fun w hw => hSk w (List.mem_of_mem_take (List.mem_reverse.mp hw))) (fun w hw => hSk w (List.mem_of_mem_drop hw))
          simp only [xv_arg, hf, hj]
          rw [List.length_map, ← List.map_drop, zu_cats_map (fun w hw => (hSk w (List.mem_of_mem_drop hw)).2), q1, h8]
          simp only [Bool.and_self, cond_true, List.map_reverse, List.map_take]
      · rename_i j' he
        cases he
        rcases S with _ | ⟨⟨_ | _, n⟩, _ | ⟨⟨_ | _, dp⟩, _ | ⟨⟨tb2, b⟩, _ | ⟨⟨_ | _, sp⟩, _ | ⟨⟨ta, a⟩, S⟩⟩⟩⟩⟩
        all_goals (first | (cases h; done) | skip)
        simp only at h
        cases hka : zu_kd T ta with
        | none => rw [hka] at h; cases h
        | some ka =>
          cases hkb : zu_kd T tb2 with
          | none => rw [hka, hkb] at h; cases h
          | some kb =>
            rw [hka, hkb] at h
            obtain ⟨q1, h⟩ := zu_cnd_some h
            obtain ⟨q2, h⟩ := zu_ite_some h
            simp only [Bool.and_eq_true_iff] at q1
            obtain ⟨⟨⟨⟨c1, c2⟩, c3⟩, c4⟩, c5⟩ := q1
            have c1 := zu_nat_beq c1
            have c2 := zu_nat_beq c2
            have c4 := Nat.le_of_ble_eq_true c4
            have c5 := Nat.le_of_ble_eq_true c5
            have ok1 := zu_okS_tl (zu_okS_tl hSk)
            have ok2 := zu_okS_tl (zu_okS_tl ok1)
            obtain ⟨b, rfl, hb1, hb2, hxb, hMb⟩ := zu_ref (σ := σ) (n := 0) ok1 hkb
            obtain ⟨a, rfl, ha1, ha2, hxa, hMa⟩ := zu_ref (σ := σ) (n := 0) ok2 hka
            obtain ⟨p1, p2, p3, p4, p5⟩ := q2
            obtain ⟨n, rfl⟩ := Int.eq_ofNat_of_zero_le p1
            obtain ⟨dp, rfl⟩ := Int.eq_ofNat_of_zero_le p2
            obtain ⟨sp, rfl⟩ := Int.eq_ofNat_of_zero_le p3
            refine goN S _ ?_ h (zu_okS_tl ok2)
            simp only [xv_nat, hf]
            show xv_copy zc_D (zu_emb T kd σ) (.inl (n : Int) :: .inl (dp : Int) :: zu_x (tb2, (b : Int)) :: .inl (sp : Int) :: zu_x (ta, (a : Int)) :: S.map zu_x) = _
            rw [hxa, hxb]
            unfold xv_copy
            simp only [hMa, hMb]
            rw [show (Nat.beq (zu_cell ka (a : Int) σ).1 0 && Nat.beq (zu_cell kb (b : Int) σ).1 0 && Nat.ble (xv_cats (S.map zu_x)) 8) = true by
              simp only [Bool.and_eq_true_iff]
              refine ⟨⟨?_, ?_⟩, ?_⟩
              · show Nat.beq ka.1.1 0 = true; rw [c1]; rfl
              · show Nat.beq kb.1.1 0 = true; rw [c2]; rfl
              · rw [zu_cats_map (fun w hw => (zu_okS_tl ok2 w hw).2)]; exact c3]
            simp only [cond_true]
            rw [zu_ix ⟨p1, by omega⟩, zu_ix ⟨p2, by omega⟩, zu_ix ⟨p3, by omega⟩]
            simp only [Int.toNat_natCast]
            rw [zu_int_len hwf ha1 ha2 c1, zu_int_len hwf hb1 hb2 c2]
            rw [show (Nat.ble (sp + n) ka.1.2 && Nat.ble (dp + n) kb.1.2) = true by
              rw [Bool.and_eq_true_iff]
              exact ⟨Nat.ble_eq_true_of_le (by omega), Nat.ble_eq_true_of_le (by omega)⟩]
            simp only [cond_true]
            rw [zu_emb_cp hwf ha1 ha2 hb1 hb2 c1 c2 (by omega) (by omega)]
      · cases h
  case return_ =>
    rcases S with _ | ⟨w, S⟩
    · obtain ⟨q1, h⟩ := zu_cnd_some h
      have q1 := zu_nat_beq q1
      cases h
      refine goE ?_ rfl
      rw [q1]
      rfl
    · cases h
  case ireturn =>
    rcases S with _ | ⟨⟨_ | _, v⟩, _ | ⟨w, S⟩⟩
    all_goals (first | (cases h; done) | skip)
    have h : (bif Nat.beq y.2.1.2.2.1 1 then some (v, σ) else bif Nat.beq y.2.1.2.2.1 3 then zu_b v (some (v, σ)) else none) = some r := h
    cases q1 : Nat.beq y.2.1.2.2.1 1 with
    | true =>
      rw [q1] at h
      cases h
      refine goE ?_ rfl
      rw [zu_nat_beq q1]
      rfl
    | false =>
      rw [q1] at h
      obtain ⟨q2, h⟩ := zu_cnd_some h
      obtain ⟨q3, h⟩ := zu_b_some h
      cases h
      refine goE ?_ rfl
      rw [zu_nat_beq q2]
      show (bif Nat.beq 3 1 || (Nat.beq 3 3 && decide (v = 0 ∨ v = 1)) then _ else none) = _
      rw [decide_eq_true q3]
      rfl
  case lreturn =>
    rcases S with _ | ⟨⟨_ | _ | _, v⟩, _ | ⟨w, S⟩⟩
    all_goals (first | (cases h; done) | skip)
    obtain ⟨q1, h⟩ := zu_cnd_some h
    have q1 := zu_nat_beq q1
    cases h
    refine goE ?_ rfl
    rw [q1]
    rfl
end ZUV
