section XF1
variable {V : Type}
abbrev xf_P (V : Type) : Type := (Option (xv_V V) × Nat × xf_T V) ⊕ (xv_L V × List (xv_V V) × (Nat × xf_T V) × Nat × Nat)
abbrev xf_C (V : Type) : Type := xv_L V → List (xv_V V) → Nat → xf_T V → Nat → Nat → Option (xf_P V)
abbrev xf_K (V : Type) : Type := Nat → List (xv_V V) → Nat → xf_T V → Option (Option (xv_V V) × Nat × xf_T V)
abbrev xf_F (V : Type) : Type := xf_C V → (Nat → xf_C V) → xf_K V → xf_C V
abbrev xf_fv (V : Type) : Type := V → (V → Option (xf_P V)) → Option (xf_P V)
def xf_no : xf_F V := fun _ _ _ _ _ _ _ _ _ => none
def xf_cst (v : xv_V V) : xf_F V := fun next _ _ L S n T c s => next L (v :: S) n T c s
noncomputable def xf_ldi (i : Nat) : xf_F V := fun next _ _ L S n T c s => match xf_get L i with
  | some (some (.inl a)) => next L (.inl a :: S) n T c s
  | _ => none
noncomputable def xf_ldl (i : Nat) : xf_F V := fun next _ _ L S n T c s => match xf_get L i with
  | some (some (.inr (.inl a))) => next L (.inr (.inl a) :: S) n T c s
  | _ => none
noncomputable def xf_lda (i : Nat) : xf_F V := fun next _ _ L S n T c s => match xf_get L i with
  | some (some (.inr (.inr (some a)))) => next L (.inr (.inr (some a)) :: S) n T c s
  | _ => none
noncomputable def xf_put1 {β : Type} (L : xv_L V) (i : Nat) (v : xv_V V) (k : xv_L V → β) : β := match i with
  | 0 => xf_set (some v) L 0 k
  | j + 1 => match xf_get L j with
    | some (some (.inr (.inl _))) => xf_set none L j (fun L => xf_set (some v) L (j + 1) k)
    | _ => xf_set (some v) L (j + 1) k
theorem xf_put1_eq {β : Type} {L : xv_L V} {i : Nat} {v : xv_V V} {k : xv_L V → β} : xf_put1 L i v k = k (xv_put1 L i v) := by
  cases i with
  | zero => simp only [xf_put1, xf_set_eq, xv_put1, xv_kill]
  | succ j =>
    simp only [xf_put1, xf_get_eq, xv_put1, xv_kill]
    split
    · rename_i a ha
      simp only [xf_set_eq, ha]
    · rename_i hn
      simp only [xf_set_eq]
noncomputable def xf_put2 {β : Type} (L : xv_L V) (i : Nat) (v : xv_V V) (k : xv_L V → β) : β := match i with
  | 0 => xf_set none L 1 (fun L => xf_set (some v) L 0 k)
  | j + 1 => match xf_get L j with
    | some (some (.inr (.inl _))) => xf_set none L j (fun L => xf_set none L (j + 2) (fun L => xf_set (some v) L (j + 1) k))
    | _ => xf_set none L (j + 2) (fun L => xf_set (some v) L (j + 1) k)
theorem xf_put2_eq {β : Type} {L : xv_L V} {i : Nat} {v : xv_V V} {k : xv_L V → β} : xf_put2 L i v k = k (xv_put2 L i v) := by
  cases i with
  | zero => simp only [xf_put2, xf_set_eq, xv_put2, xv_kill]
  | succ j =>
    simp only [xf_put2, xf_get_eq, xv_put2, xv_kill]
    split
    · rename_i a ha
      simp only [xf_set_eq, ha]
    · rename_i hn
      simp only [xf_set_eq]
noncomputable def xf_sti (i : Nat) : xf_F V := fun next _ _ L S n T c s => match S with
  | .inl a :: S => match xf_get L i with
    | some _ => xf_put1 L i (.inl a) (fun L => next L S n T c s)
    | none => none
  | _ => none
noncomputable def xf_stl (i : Nat) : xf_F V := fun next _ _ L S n T c s => match S with
  | .inr (.inl a) :: S => match xf_get L (i + 1) with
    | some _ => xf_put2 L i (.inr (.inl a)) (fun L => next L S n T c s)
    | none => none
  | _ => none
noncomputable def xf_sta (i : Nat) : xf_F V := fun next _ _ L S n T c s => match S with
  | .inr (.inr (some a)) :: S => match xf_get L i with
    | some _ => xf_put1 L i (.inr (.inr (some a))) (fun L => next L S n T c s)
    | none => none
  | _ => none
noncomputable def xf_iinc (op : V → V → Option V) (fv : xf_fv V) (i : Nat) (b : V) : xf_F V := fun next _ _ L S n T c s => match xf_get L i with
  | some (some (.inl a)) => match op a b with
    | some r => fv r (fun r => xf_put1 L i (.inl r) (fun L => next L S n T c s))
    | none => none
  | _ => none
def xf_i2 (op : V → V → Option V) (fv : xf_fv V) : xf_F V := fun next _ _ L S n T c s => match S with
  | .inl b :: .inl a :: S => match op a b with
    | some r => fv r (fun r => next L (.inl r :: S) n T c s)
    | none => none
  | _ => none
def xf_l2 (op : V → V → Option V) (fv : xf_fv V) : xf_F V := fun next _ _ L S n T c s => match S with
  | .inr (.inl b) :: .inr (.inl a) :: S => match op a b with
    | some r => fv r (fun r => next L (.inr (.inl r) :: S) n T c s)
    | none => none
  | _ => none
def xf_s2 (op : V → V → Option V) (fv : xf_fv V) : xf_F V := fun next _ _ L S n T c s => match S with
  | .inl b :: .inr (.inl a) :: S => match op a b with
    | some r => fv r (fun r => next L (.inr (.inl r) :: S) n T c s)
    | none => none
  | _ => none
def xf_lc (op : V → V → Option V) (fv : xf_fv V) : xf_F V := fun next _ _ L S n T c s => match S with
  | .inr (.inl b) :: .inr (.inl a) :: S => match op a b with
    | some r => fv r (fun r => next L (.inl r :: S) n T c s)
    | none => none
  | _ => none
def xf_u00 (op : V → V → Option V) (fv : xf_fv V) : xf_F V := fun next _ _ L S n T c s => match S with
  | .inl a :: S => match op a a with
    | some r => fv r (fun r => next L (.inl r :: S) n T c s)
    | none => none
  | _ => none
def xf_u11 (op : V → V → Option V) (fv : xf_fv V) : xf_F V := fun next _ _ L S n T c s => match S with
  | .inr (.inl a) :: S => match op a a with
    | some r => fv r (fun r => next L (.inr (.inl r) :: S) n T c s)
    | none => none
  | _ => none
def xf_u01 (op : V → V → Option V) (fv : xf_fv V) : xf_F V := fun next _ _ L S n T c s => match S with
  | .inl a :: S => match op a a with
    | some r => fv r (fun r => next L (.inr (.inl r) :: S) n T c s)
    | none => none
  | _ => none
def xf_u10 (op : V → V → Option V) (fv : xf_fv V) : xf_F V := fun next _ _ L S n T c s => match S with
  | .inr (.inl a) :: S => match op a a with
    | some r => fv r (fun r => next L (.inl r :: S) n T c s)
    | none => none
  | _ => none
def xf_dup : xf_F V := fun next _ _ L S n T c s => match S with
  | v :: S => bif Nat.beq (xv_cat v) 1 then next L (v :: v :: S) n T c s else none
  | _ => none
def xf_pop1 : xf_F V := fun next _ _ L S n T c s => match S with
  | v :: S => bif Nat.beq (xv_cat v) 1 then next L S n T c s else none
  | _ => none
def xf_dup2 : xf_F V := fun next _ _ L S n T c s => match S with
  | v :: w :: S => bif Nat.beq (xv_cat v) 1 && Nat.beq (xv_cat w) 1 then next L (v :: w :: v :: w :: S) n T c s else none
  | _ => none
def xf_goto (t : Nat) : xf_F V := fun _ jmp _ L S n T c s => jmp t L S n T c s
def xf_c2 (cmp : V → V → Option Bool) (t : Nat) : xf_F V := fun next jmp _ L S n T c s => match S with
  | .inl b :: .inl a :: S => match cmp a b with
    | some true => jmp t L S n T c s
    | some false => next L S n T c s
    | none => none
  | _ => none
def xf_c1 (cmp : V → V → Option Bool) (z : V) (t : Nat) : xf_F V := fun next jmp _ L S n T c s => match S with
  | .inl a :: S => match cmp a z with
    | some true => jmp t L S n T c s
    | some false => next L S n T c s
    | none => none
  | _ => none
def xf_sw (f : List (xv_V V) → Option (Nat × List (xv_V V))) : xf_F V := fun _ jmp _ L S n T c s => match f S with
  | some tS => jmp tS.1 L tS.2 n T c s
  | none => none
noncomputable def xf_gf (tag k : Nat) : xf_F V := fun next _ _ L S n T c s => match S with
  | .inr (.inr (some a)) :: S => xf_cell T a (fun o => bif Nat.beq o.1 tag then match xf_get o.2 k with
      | some v => next L (v :: S) n T c s
      | none => none
    else none)
  | _ => none
noncomputable def xf_pf (fit : xv_V V → Bool) (tag k : Nat) : xf_F V := fun next _ _ L S n T c s => match S with
  | v :: .inr (.inr (some a)) :: S => xf_cell T a (fun o => bif Nat.beq o.1 tag && fit v then match xf_get o.2 k with
      | some _ => xf_set v o.2 k (fun fs => xf_upd T a (tag, fs) (fun T => next L S n T c s))
      | none => none
    else none)
  | _ => none
noncomputable def xf_new (tag : Nat) (fs : List (xv_V V)) (len yc ys : Nat) : xf_F V := fun next _ _ L S n T c s =>
  bif Nat.ble (c + 1) yc && Nat.ble (s + len) ys then xf_nat n (fun n => xf_push T n (tag, fs) (fun T => next L (.inr (.inr (some n)) :: S) (n + 1) T (c + 1) (s + len))) else none
noncomputable def xf_na (ix : V → Nat → Option Nat) (tag : Nat) (v : xv_V V) (yc ys : Nat) : xf_F V := fun next _ _ L S n T c s => match S with
  | .inl m :: S => match ix m 4096 with
    | some k => bif Nat.ble (c + 1) yc && Nat.ble (s + k) ys then xf_nat n (fun n => xf_rep v k (fun vs => xf_push T n (tag, vs) (fun T => next L (.inr (.inr (some n)) :: S) (n + 1) T (c + 1) (s + k)))) else none
    | none => none
  | _ => none
noncomputable def xf_al (i1 : Int32 → V) (fv : xf_fv V) : xf_F V := fun next _ _ L S n T c s => match S with
  | .inr (.inr (some a)) :: S => xf_cell T a (fun o => bif Nat.blt o.1 7 && Nat.ble o.2.length 4096 then fv (i1 (Int32.ofNat o.2.length)) (fun r => next L (.inl r :: S) n T c s) else none)
  | _ => none
noncomputable def xf_ald (val : V → Option Int) (t0 t1 : Nat) : xf_F V := fun next _ _ L S n T c s => match S with
  | .inl i :: .inr (.inr (some a)) :: S => match val i with
    | some (.ofNat k) => xf_cell T a (fun o => bif Nat.ble t0 o.1 && Nat.ble o.1 t1 then match xf_get o.2 k with
        | some v => next L (v :: S) n T c s
        | none => none
      else none)
    | _ => none
  | _ => none
noncomputable def xf_iald (val : V → Option Int) : xf_F V := fun next _ _ L S n T c s => match S with
  | .inl i :: .inr (.inr (some a)) :: S => match val i with
    | some (.ofNat k) => xf_cell T a (fun o => bif Nat.beq o.1 0 || Nat.beq o.1 3 then match xf_get o.2 k with
        | some v => next L (v :: S) n T c s
        | none => none
      else none)
    | _ => none
  | _ => none
noncomputable def xf_ast (val : V → Option Int) (fit : xv_V V → Bool) (t : Nat) : xf_F V := fun next _ _ L S n T c s => match S with
  | v :: .inl i :: .inr (.inr (some a)) :: S => match val i with
    | some (.ofNat k) => xf_cell T a (fun o => bif Nat.beq o.1 t && fit v then match xf_get o.2 k with
        | some _ => xf_set v o.2 k (fun fs => xf_upd T a (t, fs) (fun T => next L S n T c s))
        | none => none
      else none)
    | _ => none
  | _ => none
noncomputable def xf_aast (val : V → Option Int) (at_ : List Nat) : xf_F V := fun next _ _ L S n T c s => match S with
  | .inr (.inr (some v)) :: .inl i :: .inr (.inr (some a)) :: S => match val i with
    | some (.ofNat k) => xf_cell T a (fun o => xf_cell T v (fun ov => match at_[o.1 - 4]? with
      | some ci => bif Nat.ble 4 o.1 && Nat.blt o.1 7 && Nat.beq ov.1 (8 + ci) then match xf_get o.2 k with
          | some _ => xf_set (.inr (.inr (some v))) o.2 k (fun fs => xf_upd T a (o.1, fs) (fun T => next L S n T c s))
          | none => none
        else none
      | none => none))
    | _ => none
  | _ => none
/-- behind a call -/
def xf_aft (next : xf_C V) (L : xv_L V) (R : List (xv_V V)) (c s : Nat) : Option (Option (xv_V V) × Nat × xf_T V) → Option (xf_P V)
  | some (some v, n, T) => next L (v :: R) n T c s
  | some (none, n, T) => next L R n T c s
  | none => none
noncomputable def xf_cv (j np tag zc zs yc ys : Nat) : xf_F V := fun next _ call L S n T c s => xf_pop np S [] (fun as R => match R with
  | .inr (.inr (some a)) :: R => xf_cell T a (fun o => bif Nat.beq o.1 tag && Nat.ble (xv_cats R) 8 && (Nat.ble (c + zc) yc && Nat.ble (s + zs) ys) then xf_aft next L R (c + zc) (s + zs) (call j (.inr (.inr (some a)) :: as) n T) else none)
  | _ => none)
noncomputable def xf_ci (j np zc zs yc ys : Nat) : xf_F V := fun next _ call L S n T c s => xf_pop np S [] (fun as R => match R with
  | .inr (.inr (some a)) :: R => bif Nat.ble (xv_cats R) 8 && (Nat.ble (c + zc) yc && Nat.ble (s + zs) ys) then xf_aft next L R (c + zc) (s + zs) (call j (.inr (.inr (some a)) :: as) n T) else none
  | _ => none)
noncomputable def xf_cs (j np zc zs yc ys : Nat) : xf_F V := fun next _ call L S n T c s => xf_pop np S [] (fun as R => bif Nat.ble (xv_cats R) 8 && (Nat.ble (c + zc) yc && Nat.ble (s + zs) ys) then xf_aft next L R (c + zc) (s + zs) (call j as n T) else none)
def xf_obj : xf_F V := fun next _ _ L S n T c s => match S with
  | .inr (.inr (some _)) :: S => bif Nat.ble (xv_cats S) 8 then next L S n T c s else none
  | _ => none
noncomputable def xf_cp (ix : V → Nat → Option Nat) : xf_F V := fun next _ _ L S n T c s => match S with
  | .inl m :: .inl dp :: .inr (.inr (some b)) :: .inl sp :: .inr (.inr (some a)) :: S => xf_cell T a (fun oa => xf_cell T b (fun ob => bif Nat.beq oa.1 0 && Nat.beq ob.1 0 && Nat.ble (xv_cats S) 8 then match ix m 4096, ix dp 4096, ix sp 4096 with
      | some m, some dp, some sp => bif Nat.ble (sp + m) oa.2.length && Nat.ble (dp + m) ob.2.length then xf_lay (ob.2.take dp ++ ((oa.2.drop sp).take m ++ ob.2.drop (dp + m))) (fun vs => xf_upd T b (0, vs) (fun T => next L S n T c s)) else none
      | _, _, _ => none
    else none))
  | _ => none
noncomputable def xf_ch (val : V → Option Int) (i1 : Int32 → V) (fv : xf_fv V) (sct : List (List Int32)) : xf_F V := fun next _ _ L S n T c s => match S with
  | .inl a :: .inr (.inr (some m)) :: S => match xf_get sct m, val a with
    | some cs, some (.ofNat k) => match xf_get cs k with
      | some b => bif Nat.ble (xv_cats S) 8 then fv (i1 (b &&& 255)) (fun r => next L (.inl r :: S) n T c s) else none
      | none => none
    | _, _ => none
  | _ => none
def xf_rv : xf_F V := fun _ _ _ _ S n T _ _ => match S with
  | [] => some (.inl (none, n, T))
  | _ => none
def xf_ri : xf_F V := fun _ _ _ _ S n T _ _ => match S with
  | [.inl a] => some (.inl (some (.inl a), n, T))
  | _ => none
def xf_rz (bit : V → Bool) : xf_F V := fun _ _ _ _ S n T _ _ => match S with
  | [.inl a] => bif bit a then some (.inl (some (.inl a), n, T)) else none
  | _ => none
def xf_rl : xf_F V := fun _ _ _ _ S n T _ _ => match S with
  | [.inr (.inl a)] => some (.inl (some (.inr (.inl a)), n, T))
  | _ => none
/-- the instruction's function -/
noncomputable def xf_of (D : xv_D V) (fv : xf_fv V) (ct : List (List (FieldType × Bool))) (at_ : List Nat) (sct : List (List Int32)) (ms : List xv_N) (y : xv_N) (pc : Nat) : Instr → xf_F V
  | .iconst n => xf_cst (.inl (D.1 (Int32.ofInt n)))
  | .bipush n => xf_cst (.inl (D.1 (Int8.ofInt n).toInt32))
  | .sipush n => xf_cst (.inl (D.1 (Int16.ofInt n).toInt32))
  | .lconst n => xf_cst (.inr (.inl (D.2.1 (Int64.ofNat (n : Nat)))))
  | .ldc i => match xv_find y.1.2.2.2.2.1 i with
    | some v => xf_cst (.inl (D.1 v))
    | none => match xv_find y.1.2.2.2.1 i with
      | some n => bif Nat.ble 2000 n then xf_cst (.inr (.inr (some (n - 2000)))) else xf_no
      | none => xf_no
  | .ldc2_w i => match xv_find y.1.2.2.2.2.2 i with
    | some v => xf_cst (.inr (.inl (D.2.1 v)))
    | none => xf_no
  | .iload_n k => xf_ldi k
  | .iload k => xf_ldi k
  | .lload_n k => xf_ldl k
  | .lload k => xf_ldl k
  | .aload_n k => xf_lda k
  | .aload k => xf_lda k
  | .istore_n k => xf_sti k
  | .istore k => xf_sti k
  | .lstore_n k => xf_stl k
  | .lstore k => xf_stl k
  | .astore_n k => xf_sta k
  | .astore k => xf_sta k
  | .iinc k n => xf_iinc (D.2.2.1 0) fv k (D.1 (Int32.ofInt n))
  | .iadd => xf_i2 (D.2.2.1 0) fv
  | .isub => xf_i2 (D.2.2.1 1) fv
  | .imul => xf_i2 (D.2.2.1 2) fv
  | .iand => xf_i2 (D.2.2.1 3) fv
  | .ior => xf_i2 (D.2.2.1 4) fv
  | .ishl => xf_i2 (D.2.2.1 5) fv
  | .ishr => xf_i2 (D.2.2.1 6) fv
  | .iushr => xf_i2 (D.2.2.1 7) fv
  | .idiv => xf_i2 (D.2.2.1 8) fv
  | .irem => xf_i2 (D.2.2.1 9) fv
  | .ineg => xf_u00 (D.2.2.1 10) fv
  | .ladd => xf_l2 (D.2.2.1 20) fv
  | .lsub => xf_l2 (D.2.2.1 21) fv
  | .lmul => xf_l2 (D.2.2.1 22) fv
  | .land => xf_l2 (D.2.2.1 23) fv
  | .lor => xf_l2 (D.2.2.1 24) fv
  | .ldiv => xf_l2 (D.2.2.1 25) fv
  | .lrem => xf_l2 (D.2.2.1 26) fv
  | .lneg => xf_u11 (D.2.2.1 27) fv
  | .lshl => xf_s2 (D.2.2.1 30) fv
  | .lshr => xf_s2 (D.2.2.1 31) fv
  | .i2l => xf_u01 (D.2.2.1 40) fv
  | .l2i => xf_u10 (D.2.2.1 41) fv
  | .lcmp => xf_lc (D.2.2.1 42) fv
  | .dup => xf_dup
  | .pop => xf_pop1
  | .dup2 => xf_dup2
  | .goto off => match xv_tgt pc off with
    | some t => xf_goto t
    | none => xf_no
  | .if_icmp .eq off => match xv_tgt pc off with
    | some t => xf_c2 (D.2.2.2.1 0) t
    | none => xf_no
  | .if_icmp .ne off => match xv_tgt pc off with
    | some t => xf_c2 (D.2.2.2.1 1) t
    | none => xf_no
  | .if_icmp .lt off => match xv_tgt pc off with
    | some t => xf_c2 (D.2.2.2.1 2) t
    | none => xf_no
  | .if_icmp .ge off => match xv_tgt pc off with
    | some t => xf_c2 (D.2.2.2.1 3) t
    | none => xf_no
  | .if_icmp .gt off => match xv_tgt pc off with
    | some t => xf_c2 (D.2.2.2.1 4) t
    | none => xf_no
  | .if_icmp .le off => match xv_tgt pc off with
    | some t => xf_c2 (D.2.2.2.1 5) t
    | none => xf_no
  | .ifCond .eq off => match xv_tgt pc off with
    | some t => xf_c1 (D.2.2.2.1 0) (D.1 0) t
    | none => xf_no
  | .ifCond .ne off => match xv_tgt pc off with
    | some t => xf_c1 (D.2.2.2.1 1) (D.1 0) t
    | none => xf_no
  | .ifCond .lt off => match xv_tgt pc off with
    | some t => xf_c1 (D.2.2.2.1 2) (D.1 0) t
    | none => xf_no
  | .ifCond .ge off => match xv_tgt pc off with
    | some t => xf_c1 (D.2.2.2.1 3) (D.1 0) t
    | none => xf_no
  | .ifCond .gt off => match xv_tgt pc off with
    | some t => xf_c1 (D.2.2.2.1 4) (D.1 0) t
    | none => xf_no
  | .ifCond .le off => match xv_tgt pc off with
    | some t => xf_c1 (D.2.2.2.1 5) (D.1 0) t
    | none => xf_no
  | .tableswitch a b c d => xf_sw (fun S => xv_br D pc S (.tableswitch a b c d))
  | .lookupswitch a b => xf_sw (fun S => xv_br D pc S (.lookupswitch a b))
  | .getfield i => match xv_find y.1.2.1 i with
    | some ck => xf_gf (8 + ck.1) ck.2
    | none => xf_no
  | .putfield i => match xv_find y.1.2.1 i with
    | some ck => match ct[ck.1]? with
      | some fs => match fs[ck.2]? with
        | some f => bif !f.2 || (Nat.beq y.2.1.2.2.2 1 && Nat.beq y.1.1 ck.1) then xf_pf (xv_fit D f.1) (8 + ck.1) ck.2 else xf_no
        | none => xf_no
      | none => xf_no
    | none => xf_no
  | .new i => match xv_find y.1.2.2.2.1 i with
    | some ci => match ct[ci]? with
      | some fs => bif Nat.blt ci 1000 then xf_new (8 + ci) (fs.map (fun f => xv_dflt D f.1)) fs.length y.2.2.1.1 y.2.2.1.2 else xf_no
      | none => xf_no
    | none => xf_no
  | .newarray .int => xf_na (xv_ix D) 0 (.inl (D.1 0)) y.2.2.1.1 y.2.2.1.2
  | .newarray .long => xf_na (xv_ix D) 1 (.inr (.inl (D.2.1 0))) y.2.2.1.1 y.2.2.1.2
  | .newarray .boolean => xf_na (xv_ix D) 2 (.inl (D.1 0)) y.2.2.1.1 y.2.2.1.2
  | .anewarray i => match xv_find y.1.2.2.2.1 (70000 + i) with
    | some ci => bif Nat.ble 1000 ci && Nat.blt ci 1003 then xf_na (xv_ix D) (ci - 996) (.inr (.inr none)) y.2.2.1.1 y.2.2.1.2 else xf_no
    | none => xf_no
  | .arraylength => xf_al D.1 fv
  | .iaload => xf_iald D.2.2.2.2.1
  | .laload => xf_ald D.2.2.2.2.1 1 1
  | .baload => xf_ald D.2.2.2.2.1 2 2
  | .aaload => xf_ald D.2.2.2.2.1 4 6
  | .iastore => xf_ast D.2.2.2.2.1 (xv_fit D .int) 0
  | .lastore => xf_ast D.2.2.2.2.1 (xv_fit D .long) 1
  | .bastore => xf_ast D.2.2.2.2.1 (xv_fit D .boolean) 2
  | .aastore => xf_aast D.2.2.2.2.1 at_
  | .invokevirtual i => match xv_find y.1.2.2.1 i with
    | some q => bif Nat.beq q.1 0 then match ms[q.2]? with
        | some z => xf_cv q.2 z.2.1.1 (8 + z.1.1) z.2.2.1.1 z.2.2.1.2 y.2.2.1.1 y.2.2.1.2
        | none => xf_no
      else bif Nat.beq q.1 4 then xf_ch D.2.2.2.2.1 D.1 fv sct else xf_no
    | none => xf_no
  | .invokespecial i => match xv_find y.1.2.2.1 i with
    | some q => bif Nat.beq q.1 1 || Nat.beq q.1 2 then match ms[q.2]? with
        | some z => xf_ci q.2 z.2.1.1 z.2.2.1.1 z.2.2.1.2 y.2.2.1.1 y.2.2.1.2
        | none => xf_no
      else bif Nat.beq q.1 5 then xf_obj else xf_no
    | none => xf_no
  | .invokestatic i => match xv_find y.1.2.2.1 i with
    | some q => bif Nat.beq q.1 3 then match ms[q.2]? with
        | some z => xf_cs q.2 z.2.1.1 z.2.2.1.1 z.2.2.1.2 y.2.2.1.1 y.2.2.1.2
        | none => xf_no
      else bif Nat.beq q.1 6 then xf_cp (xv_ix D) else xf_no
    | none => xf_no
  | .return_ => bif Nat.beq y.2.1.2.2.1 0 then xf_rv else xf_no
  | .ireturn => bif Nat.beq y.2.1.2.2.1 1 then xf_ri else bif Nat.beq y.2.1.2.2.1 3 then xf_rz D.2.2.2.2.2 else xf_no
  | .lreturn => bif Nat.beq y.2.1.2.2.1 2 then xf_rl else xf_no
  | _ => xf_no
/-- where a segment stops -/
def xf_stop : xf_F V := fun _ _ _ L S n T c s => some (.inr (L, S, (n, T), c, s))
/-- the loop over the instructions' functions -/
noncomputable def xf_to (cs : List (Nat × xf_F V)) (t : Nat) : List (Nat × xf_F V) :=
  List.rec (motive := fun _ => List (Nat × xf_F V)) [] (fun q r ih => bif Nat.beq q.1 t then q :: r else ih) cs
noncomputable def xf_lp (code : List (Nat × xf_F V)) (call : xf_K V) (fuel : Nat) : List (Nat × xf_F V) → xf_C V :=
  Nat.rec (motive := fun _ => List (Nat × xf_F V) → xf_C V) (fun _ _ _ _ _ _ _ => none)
    (fun _ ih cs => List.rec (motive := fun _ => xf_C V) (fun _ _ _ _ _ _ => none) (fun q cs _ => q.2 (ih cs) (fun t => ih (xf_to code t)) call) cs) fuel
def xf_un : Option (xf_P V) → Option (Option (xv_V V) × Nat × xf_T V)
  | some (.inl r) => some r
  | _ => none
/-- fs: the methods' locals and functions -/
noncomputable def xf_rn (fs : List (Nat × List (Nat × xf_F V))) (ext : Nat → xf_K V) (fuel : Nat) : Nat → xf_K V :=
  Nat.rec (motive := fun _ => xf_K V) (fun _ _ _ _ => none) (fun d ih j as n T => match ext (d + 1) j as n T with
    | some r => some r
    | none => match xf_get fs j with
      | some y => bif Nat.ble (xv_cats as) y.1 then xf_in as y.1 (fun L => xf_un (xf_lp y.2 ih fuel y.2 L [] n T 0 0)) else none
      | none => none)
end XF1
