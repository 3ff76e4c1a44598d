section XSR
variable {V : Type} {D : xv_D V} {g : V → Value → Prop} {φ : List Nat} {tys : List (ClassId × FieldType)}
theorem xr_s_len : ∀ {S : List (xv_V V)} {st : List Value}, xr_s g φ S st → st.length = S.length
  | [], _, h => by rw [show _ = ([] : List Value) from h]; rfl
  | _ :: _, _, ⟨_, _, e, _, k⟩ => by rw [e, List.length_cons, List.length_cons, xr_s_len k]
theorem xr_s_app : ∀ {S S2 : List (xv_V V)} {st st2 : List Value}, xr_s g φ S st → xr_s g φ S2 st2 → xr_s g φ (S ++ S2) (st ++ st2)
  | [], _, _, _, h, h2 => by rw [show _ = ([] : List Value) from h]; exact h2
  | _ :: _, _, _, _, ⟨x, r, e, hv, k⟩, h2 => by rw [e]; exact ⟨x, r ++ _, rfl, hv, xr_s_app k h2⟩
theorem xr_s_take : ∀ {S : List (xv_V V)} {st : List Value} (n : Nat), xr_s g φ S st → xr_s g φ (S.take n) (st.take n)
  | _, _, 0, _ => by rw [List.take_zero, List.take_zero]; exact rfl
  | [], _, n + 1, h => by rw [show _ = ([] : List Value) from h]; exact rfl
  | _ :: _, _, n + 1, ⟨x, r, e, hv, k⟩ => by rw [e, List.take_succ_cons, List.take_succ_cons]; exact ⟨x, _, rfl, hv, xr_s_take n k⟩
theorem xr_s_drop : ∀ {S : List (xv_V V)} {st : List Value} (n : Nat), xr_s g φ S st → xr_s g φ (S.drop n) (st.drop n)
  | _, _, 0, h => by rw [List.drop_zero, List.drop_zero]; exact h
  | [], _, n + 1, h => by rw [show _ = ([] : List Value) from h]; exact rfl
  | _ :: _, _, n + 1, ⟨x, r, e, hv, k⟩ => by rw [e, List.drop_succ_cons, List.drop_succ_cons]; exact xr_s_drop n k
theorem xr_s_rev : ∀ {S : List (xv_V V)} {st : List Value}, xr_s g φ S st → xr_s g φ S.reverse st.reverse
  | [], _, h => by rw [show _ = ([] : List Value) from h]; exact rfl
  | _ :: _, _, ⟨x, r, e, hv, k⟩ => by
    rw [e, List.reverse_cons, List.reverse_cons]
    exact xr_s_app (xr_s_rev k) ⟨x, [], rfl, hv, rfl⟩
theorem xr_s_sl : ∀ {S : List (xv_V V)} {st : List Value}, xr_s g φ S st → (lg_sl st).length = xv_cats S
  | [], _, h => by rw [show _ = ([] : List Value) from h]; rfl
  | v :: _, _, ⟨x, r, e, hv, k⟩ => by
    have hc := xr_v_cat hv
    have ih := xr_s_sl k
    rw [e]
    have h2 : lg_sl (x :: r) = (if x.category = 2 then [.val x, .second] else [.val x]) ++ lg_sl r := by simp [lg_sl]
    rw [h2, List.length_append, ih]
    show _ = xv_cat v + _
    rcases lv_cat x with q | q
    · rw [if_neg (by rw [q]; decide), ← hc, q]; rfl
    · rw [if_pos q, ← hc, q]; rfl
theorem xv_in_len : ∀ (as : List (xv_V V)) (n : Nat), xv_cats as ≤ n → (xv_in as n).length = n
  | [], n, _ => by simp [xv_in]
  | .inr (.inl a) :: r, n, h => by
    have h1 : 2 + xv_cats r ≤ n := h
    simp only [xv_in, List.length_cons]
    rw [xv_in_len r (n - 2) (by omega)]
    omega
  | .inl a :: r, n, h => by
    have h1 : 1 + xv_cats r ≤ n := h
    simp only [xv_in, List.length_cons]
    rw [xv_in_len r (n - 1) (by omega)]
    omega
  | .inr (.inr a) :: r, n, h => by
    have h1 : 1 + xv_cats r ≤ n := h
    simp only [xv_in, List.length_cons]
    rw [xv_in_len r (n - 1) (by omega)]
    omega
theorem xv_in_at : ∀ {as : List (xv_V V)} {vs : List Value} (k n i : Nat) {v : xv_V V}, xr_s g φ as vs → (xv_in as n)[i]? = some (some v) → ∃ x : Value, (k + i, x) ∈ lv_args k vs ∧ xr_v g φ v x
  | [], _, k, n, i, v, _, h => by
    simp only [xv_in] at h
    have := List.eq_of_mem_replicate (List.mem_of_getElem? h)
    cases this
  | .inr (.inl a) :: r, _, k, n, i, v, ⟨x, vr, e, hv, hr⟩, h => by
    have hc : x.category = 2 := xr_v_cat hv
    rw [e]
    simp only [lv_args, hc, if_true]
    simp only [xv_in] at h
    match i, h with
    | 0, h =>
      cases Option.some.inj (Option.some.inj h)
      exact ⟨x, List.mem_cons_self, hv⟩
    | 1, h => simp at h
    | j + 2, h =>
      obtain ⟨y, hy, hyv⟩ := xv_in_at (k + 2) (n - 2) j hr (by simpa using h)
      exact ⟨y, List.mem_cons_of_mem _ (by rw [show k + (j + 2) = k + 2 + j by omega]; exact hy), hyv⟩
  | .inl a :: r, _, k, n, i, v, ⟨x, vr, e, hv, hr⟩, h => by
    have hc : x.category = 1 := xr_v_cat hv
    rw [e]
    simp only [lv_args, hc]
    simp only [xv_in] at h
    match i, h with
    | 0, h =>
      cases Option.some.inj (Option.some.inj h)
      exact ⟨x, List.mem_cons_self, hv⟩
    | j + 1, h =>
      obtain ⟨y, hy, hyv⟩ := xv_in_at (k + 1) (n - 1) j hr (by simpa using h)
      exact ⟨y, List.mem_cons_of_mem _ (by rw [show k + (j + 1) = k + 1 + j by omega]; exact hy), hyv⟩
  | .inr (.inr a) :: r, _, k, n, i, v, ⟨x, vr, e, hv, hr⟩, h => by
    have hc : x.category = 1 := xr_v_cat hv
    rw [e]
    simp only [lv_args, hc]
    simp only [xv_in] at h
    match i, h with
    | 0, h =>
      cases Option.some.inj (Option.some.inj h)
      exact ⟨x, List.mem_cons_self, hv⟩
    | j + 1, h =>
      obtain ⟨y, hy, hyv⟩ := xv_in_at (k + 1) (n - 1) j hr (by simpa using h)
      exact ⟨y, List.mem_cons_of_mem _ (by rw [show k + (j + 1) = k + 1 + j by omega]; exact hy), hyv⟩
/-- what a copy lays -/
theorem xs_cpy {f h : Nat → Int32} {xa xb : List (xv_V V)} {sp dp n j : Nat} {v : xv_V V} (ha : ∀ (j : Nat) (v : xv_V V), xa[j]? = some v → xr_v g φ v (.int (f j))) (hb : ∀ (j : Nat) (v : xv_V V), xb[j]? = some v → xr_v g φ v (.int (h j))) (h1 : sp + n ≤ xa.length) (h2 : dp + n ≤ xb.length)
    (hv : (xb.take dp ++ ((xa.drop sp).take n ++ xb.drop (dp + n)))[j]? = some v) : xr_v g φ v (.int (va_cpy f h sp dp n j)) := by
  unfold va_cpy
  have l1 : (xb.take dp).length = dp := by rw [List.length_take]; omega
  have l2 : ((xa.drop sp).take n).length = n := by rw [List.length_take, List.length_drop]; omega
  by_cases q1 : j < dp
  · rw [List.getElem?_append_left (by omega), List.getElem?_take, if_pos q1] at hv
    rw [if_neg (by omega)]
    exact hb _ _ hv
  · rw [List.getElem?_append_right (by omega), l1] at hv
    by_cases q2 : j < dp + n
    · rw [List.getElem?_append_left (by omega), List.getElem?_take, if_pos (by omega), List.getElem?_drop] at hv
      rw [if_pos ⟨by omega, q2⟩]
      exact ha _ _ hv
    · rw [List.getElem?_append_right (by omega), l2, List.getElem?_drop] at hv
      rw [if_neg (by omega)]
      rw [show dp + n + (j - dp - n) = j by omega] at hv
      exact hb _ _ hv
end XSR
section XST
variable {p : Program} {l : Launch} {e : Env} {R : Room} {s : State} {m : MethodId} {args : Array Value} {below : List Frame} {meth : Method} {c : Code} {H : Heap} {locs : List Loc} {cells slots : Nat} {Q : State → Prop}
variable {cc : ByteArray} {pc : Nat} {V : Type} {C : Nat → xv_O V → Prop} {D : xv_D V} {g : V → Value → Prop} {φ : List Nat} {M M' : xv_M V} {S S' : List (xv_V V)} {ls : Array Slot} {st : List Value}
variable {Dg : va_G} {cl : List vw_C} {tys : List (ClassId × FieldType)} {A : Nat → Prop} {H0 : Heap} {ws : va_W}
set_option maxHeartbeats 4000000 in
/-- CALLS THAT ARE NO WALK -/
theorem xs_nat (hx : p.tables.exec = Jvm.exec) (hb : c.code = cc) (hml : c.maxLocals = ls.size) {own : String} (hown : s.vm.findClass own = some m.cls) (hD : xv_ok D g) {K : xv_K} {at_ : List Nat} (hY : xc_tys cl at_ tys)
    (h5 : ∀ i j : Nat, xv_find K.2.1 i = some (5, j) → (Jvm.Cond.methodLink own i Lib.objectInit).before args s = true) (h5i : (Jvm.Cond.instanceMethod Lib.objectInit).before args s = true) (h5c : (Jvm.Cond.code Lib.objectInit ⟨#[0xb1]⟩ 1 none).before args s = true)
    (h6 : ∀ i j : Nat, xv_find K.2.1 i = some (6, j) → (Jvm.Cond.methodLink own i arraycopyName).before args s = true) (h6n : (Jvm.Cond.native arraycopyName).before args s = true) (h6s : (Jvm.Cond.static arraycopyName).before args s = true) (h6i : (Jvm.Cond.initialized "java/lang/System").before args s = true)
    {sct : List (List Int32)}
    (hch : ∀ (i j n k : Nat) (cs : List Int32) (b x : Int32) (q : Nat) (rest : List Value), xv_find K.2.1 i = some (4, j) → sct[n]? = some cs → cs[k]? = some b → x.toNatClampNeg = k → ¬ x < 0 → φ[n]? = some q → (rest.map fun v => v.category).sum ≤ 8 → decode cc pc = .ok (.invokevirtual i, 3) → W p l e R s m args below meth c H locs cells slots Q (F0 m (pc + 3) ls (.int (b &&& 255) :: rest)) → W p l e R s m args below meth c H locs cells slots Q (F0 m pc ls (.int x :: .ref q :: rest)))
    (hRf : 1 ≤ R.frames) (hRl : 44 ≤ R.locals) (hK : va_K Dg cl tys s) {i : Instr} (h : xv_nat D sct K M S i = some (S', M')) (hdg : decode cc pc = .ok (i, xv_len i))
    (hm : xr_m C g φ tys M ws) (hP : va_P Dg cl ws H) (hD0 : va_D A ws) (hS : va_S A H0 H locs) (hs : xr_s g φ S st)
    (kk : ∀ (ws' : va_W) (H' : Heap) (locs' : List Loc) (st' : List Value), xr_m C g φ tys M' ws' → va_P Dg cl ws' H' → va_D A ws' → va_S A H0 H' locs' → xr_s g φ S' st' → W p l e R s m args below meth c H' locs' cells slots Q (F0 m (pc + 3) ls st')) :
    W p l e R s m args below meth c H locs cells slots Q (F0 m pc ls st) := by
  cases i
  all_goals (first | (simp only [xv_nat, reduceCtorEq] at h; done) | skip)
  case invokespecial i =>
    simp only [xv_nat] at h
    split at h
    · rename_i j hj
      split at h
      · rename_i a S1
        obtain ⟨_, r1, rfl, ⟨q, hq, rfl⟩, hr⟩ := hs
        cases hc : Nat.ble (xv_cats S1) 8 <;> simp only [hc, cond_true, cond_false] at h
        · cases h
        obtain ⟨rfl, rfl⟩ := by simpa using h
        have hcat := xr_s_cats hr
        have h8 := Nat.le_of_ble_eq_true hc
        refine W.objInit hx hb hown (h5 _ _ hj) h5i h5c rfl hml.symm rfl hdg hRf ?_ (kk _ _ _ _ hm hP hD0 hS hr)
        show 2 * 0 + _ + 12 ≤ R.locals
        rw [hcat]
        omega
      · cases h
    · cases h
  case invokestatic i =>
    simp only [xv_nat] at h
    split at h
    · rename_i j hj
      unfold xv_copy at h
      split at h
      · rename_i n dp b sp a S1
        obtain ⟨_, r0, rfl, ⟨xn, rfl, hn⟩, _, r1, rfl, ⟨xd, rfl, hd⟩, _, r2, rfl, ⟨qb, hqb, rfl⟩, _, r3, rfl, ⟨xsp, rfl, hsp⟩, _, r4, rfl, ⟨qa, hqa, rfl⟩, hr⟩ := hs
        split at h
        · rename_i oa ob hoa hob
          cases h1 : Nat.beq oa.1 0 <;> simp only [h1, Bool.true_and, Bool.false_and, cond_true, cond_false] at h
          · cases h
          cases h2 : Nat.beq ob.1 0 <;> simp only [h2, Bool.true_and, Bool.false_and, cond_true, cond_false] at h
          · cases h
          cases h3 : Nat.ble (xv_cats S1) 8 <;> simp only [h3, cond_true, cond_false] at h
          · cases h
          split at h
          · rename_i n' dp' sp' en ed es
            cases h4 : Nat.ble (sp' + n') oa.2.length <;> simp only [h4, Bool.true_and, Bool.false_and, cond_true, cond_false] at h
            · cases h
            cases h55 : Nat.ble (dp' + n') ob.2.length <;> simp only [h55, cond_true, cond_false] at h
            · cases h
            obtain ⟨rfl, rfl⟩ := by simpa using h
            obtain ⟨-, -, cn, nn⟩ := xs_ix hD en hn
            obtain ⟨-, -, cd, nd⟩ := xs_ix hD ed hd
            obtain ⟨-, -, csp, nsp⟩ := xs_ix hD es hsp
            have l4 := Nat.le_of_ble_eq_true h4
            have l5 := Nat.le_of_ble_eq_true h55
            have z1 := Nat.eq_of_beq_eq_true h1
            have z2 := Nat.eq_of_beq_eq_true h2
            obtain ⟨ia, Ea, hEa, hea, -⟩ := xr_m_at hm hoa hqa (by omega) (by omega)
            obtain ⟨ib, Eb, hEb, heb, hset⟩ := xr_m_at hm hob hqb (by omega) (by omega)
            obtain ⟨cA, ty, f, ht, rfl, hf⟩ := xr_e_int hea (Or.inl z1)
            obtain ⟨cB, tyb, f2, ht2, rfl, hf2⟩ := xr_e_int heb (Or.inl z2)
            obtain ⟨c0, ht0⟩ := hY.1
            rw [z1] at ht
            rw [z2] at ht2
            cases Option.some.inj (ht.symm.trans ht0)
            cases Option.some.inj (ht2.symm.trans ht0)
            have hcat := xr_s_cats hr
            have h8 := Nat.le_of_ble_eq_true h3
            refine va_copyi hx hb hml hown (h6 _ _ hj) h6n h6s h6i hK hP hD0 hS ia ib 0 0 hEa hEb ht0 ht0 rfl nsp nd nn (by rw [csp, cn]; exact l4) (by rw [cd, cn]; exact l5) (fun _ _ => rfl) hRf ?_ hdg (fun H1 locs1 hP1 hD1 hS1 => kk _ _ _ _ (hset _ _ ?_) hP1 hD1 hS1 hr)
            · rw [hcat, show nativeFrameWords "java/lang/System" "arraycopy" 5 = 7 by decide]
              omega
            · rw [cn, cd, csp]
              have hlen : (ob.2.take dp' ++ ((oa.2.drop sp').take n' ++ ob.2.drop (dp' + n'))).length = ob.2.length := by
                rw [List.length_append, List.length_append, List.length_take, List.length_take, List.length_drop, List.length_drop]
                omega
              refine Or.inr ⟨_, _, ht0, Or.inl ⟨Or.inl rfl, _, by rw [hlen], fun j w hw => ?_⟩⟩
              exact xs_cpy hf hf2 l4 l5 hw
          · cases h
        · cases h
      · cases h
    · cases h
  case invokevirtual i =>
    simp only [xv_nat] at h
    split at h
    · rename_i j hj
      split at h
      · rename_i a n S1
        obtain ⟨_, r0, rfl, ⟨x, rfl, hx1⟩, _, r1, rfl, ⟨q, hq, rfl⟩, hr⟩ := hs
        split at h
        · rename_i cs hcs
          split at h
          · rename_i k hk
            split at h
            · rename_i b hb1
              cases h3 : Nat.ble (xv_cats S1) 8 <;> simp only [h3, cond_true, cond_false] at h
              · cases h
              obtain ⟨rfl, rfl⟩ := by simpa using h
              obtain ⟨-, -, c1, c2⟩ := xs_ix hD hk hx1
              have hcat := xr_s_cats hr
              have h8 := Nat.le_of_ble_eq_true h3
              exact hch i j n k cs b x q r1 hj hcs hb1 c1 c2 hq (by rw [hcat]; exact h8) hdg (kk _ _ _ _ hm hP hD0 hS ⟨_, _, rfl, ⟨_, rfl, hD.1 _⟩, hr⟩)
            · cases h
          · cases h
        · cases h
      · cases h
    · cases h
end XST
