/-! THE MACHINE OF NUMBERS. A value: its type (0 an int, 1 a long, 2 nothing, 3 + k a cell of kind k) and a number. The memory: a number for each address and place. A kind: its tag, its length, its places (of an array one for all): type, m, o: a reference is o (m = 0), the address and o (m = 1), these and the index (m = 2). -/
abbrev zu_v : Type := Nat × Int
abbrev zu_m : Type := Int → Int → Int
abbrev zu_f : Type := Nat × Nat × Int
abbrev zu_k : Type := (Nat × Nat) × List zu_f
/-- kinds, fields of the classes, methods, how deep each calls -/
abbrev zu_T : Type := List zu_k × List (List (FieldType × Bool)) × List xv_N × List Nat
def zu_w32 (z : Int) : Int := Int.bmod z 4294967296
def zu_w64 (z : Int) : Int := Int.bmod z 18446744073709551616
def zu_i32 (o : Nat) (a b : Int) : Int := match xv_semI o (Int32.ofInt a) (Int32.ofInt b) with
  | some z => z.toInt
  | none => 0
def zu_i64 (o : Nat) (a b : Int) : Int := match xv_semL o (Int64.ofInt a) (Int64.ofInt b) with
  | some z => z.toInt
  | none => 0
def zu_shl (a b : Int) : Int := (Int64.ofInt a <<< ((Int32.ofInt b).toInt64 &&& 63)).toInt
def zu_shr (a b : Int) : Int := (Int64.ofInt a >>> ((Int32.ofInt b).toInt64 &&& 63)).toInt
def zu_lcmp (a b : Int) : Int := if a < b then -1 else if a = b then 0 else 1
def zu_up (σ : zu_m) (a i v : Int) : zu_m := fun b j => if b = a ∧ j = i then v else σ b j
def zu_cp (σ : zu_m) (a sp b dp n : Int) : zu_m := fun c j => if c = b ∧ dp ≤ j ∧ j < dp + n then σ a (sp + (j - dp)) else σ c j
def zu_rd (f : zu_f) (a p : Int) (σ : zu_m) : Int := match f.1 with
  | 0 => σ a p
  | 1 => σ a p
  | _ => match f.2.1 with
    | 0 => f.2.2
    | 1 => a + f.2.2
    | _ => a + f.2.2 + p
def zu_kd (T : zu_T) : Nat → Option zu_k
  | t + 3 => T.1[t]?
  | _ => none
def zu_kill (L : List zu_v) : Nat → List zu_v
  | 0 => L
  | j + 1 => match L[j]? with
    | some (1, _) => L.set j (2, 0)
    | _ => L
def zu_put1 (L : List zu_v) (i : Nat) (w : zu_v) : List zu_v := (zu_kill L i).set i w
def zu_put2 (L : List zu_v) (i : Nat) (w : zu_v) : List zu_v := ((zu_kill L i).set (i + 1) (2, 0)).set i w
def zu_ld (L S : List zu_v) (t i : Nat) : Option (List zu_v × List zu_v) := match L[i]? with
  | some (0, v) => bif Nat.beq t 0 then some (L, (0, v) :: S) else none
  | some (1, v) => bif Nat.beq t 1 then some (L, (1, v) :: S) else none
  | some (k + 3, v) => bif Nat.beq t 2 then some (L, (k + 3, v) :: S) else none
  | _ => none
def zu_sto (L S : List zu_v) (t i : Nat) : Option (List zu_v × List zu_v) := match S with
  | (0, v) :: S => bif Nat.beq t 0 && Nat.blt i L.length then some (zu_put1 L i (0, v), S) else none
  | (1, v) :: S => bif Nat.beq t 1 && Nat.blt (i + 1) L.length then some (zu_put2 L i (1, v), S) else none
  | (k + 3, v) :: S => bif Nat.beq t 2 && Nat.blt i L.length then some (zu_put1 L i (k + 3, v), S) else none
  | _ => none
def zu_i2 (f : Int → Int → Int) (L S : List zu_v) : Option (List zu_v × List zu_v) := match S with
  | (0, b) :: (0, a) :: S => some (L, (0, f a b) :: S)
  | _ => none
def zu_l2 (f : Int → Int → Int) (L S : List zu_v) : Option (List zu_v × List zu_v) := match S with
  | (1, b) :: (1, a) :: S => some (L, (1, f a b) :: S)
  | _ => none
def zu_s2 (f : Int → Int → Int) (L S : List zu_v) : Option (List zu_v × List zu_v) := match S with
  | (0, b) :: (1, a) :: S => some (L, (1, f a b) :: S)
  | _ => none
def zu_small (lo hi n : Int) : Bool := decide (lo ≤ n) && decide (n ≤ hi)
/-- locals and stack alone -/
def zu_pure (K : xv_K) (L S : List zu_v) : Instr → Option (List zu_v × List zu_v)
  | .iconst n => bif zu_small (-1) 5 n then some (L, (0, n) :: S) else none
  | .bipush n => bif zu_small (-128) 127 n then some (L, (0, n) :: S) else none
  | .sipush n => bif zu_small (-32768) 32767 n then some (L, (0, n) :: S) else none
  | .lconst n => some (L, (1, ((n : Nat) : Int)) :: S)
  | .ldc i => match xv_find K.2.2.2.1 i with
    | some v => some (L, (0, v.toInt) :: S)
    | none => none
  | .ldc2_w i => match xv_find K.2.2.2.2 i with
    | some v => some (L, (1, v.toInt) :: S)
    | none => none
  | .iload_n k => zu_ld L S 0 k
  | .iload k => zu_ld L S 0 k
  | .lload_n k => zu_ld L S 1 k
  | .lload k => zu_ld L S 1 k
  | .aload_n k => zu_ld L S 2 k
  | .aload k => zu_ld L S 2 k
  | .istore_n k => zu_sto L S 0 k
  | .istore k => zu_sto L S 0 k
  | .lstore_n k => zu_sto L S 1 k
  | .lstore k => zu_sto L S 1 k
  | .astore_n k => zu_sto L S 2 k
  | .astore k => zu_sto L S 2 k
  | .iinc k n => match L[k]? with
    | some (0, v) => bif zu_small (-128) 127 n then some (zu_put1 L k (0, zu_w32 (v + n)), S) else none
    | _ => none
  | .iadd => zu_i2 (fun a b => zu_w32 (a + b)) L S
  | .isub => zu_i2 (fun a b => zu_w32 (a - b)) L S
  | .imul => zu_i2 (fun a b => zu_w32 (a * b)) L S
  | .iand => zu_i2 (zu_i32 3) L S
  | .ior => zu_i2 (zu_i32 4) L S
  | .ishl => zu_i2 (zu_i32 5) L S
  | .ishr => zu_i2 (zu_i32 6) L S
  | .iushr => zu_i2 (zu_i32 7) L S
  | .ineg => match S with
    | (0, a) :: S => some (L, (0, zu_w32 (-a)) :: S)
    | _ => none
  | .ladd => zu_l2 (fun a b => zu_w64 (a + b)) L S
  | .lsub => zu_l2 (fun a b => zu_w64 (a - b)) L S
  | .lmul => zu_l2 (fun a b => zu_w64 (a * b)) L S
  | .land => zu_l2 (zu_i64 3) L S
  | .lor => zu_l2 (zu_i64 4) L S
  | .lneg => match S with
    | (1, a) :: S => some (L, (1, zu_w64 (-a)) :: S)
    | _ => none
  | .lshl => zu_s2 zu_shl L S
  | .lshr => zu_s2 zu_shr L S
  | .i2l => match S with
    | (0, a) :: S => some (L, (1, a) :: S)
    | _ => none
  | .l2i => match S with
    | (1, a) :: S => some (L, (0, zu_w32 a) :: S)
    | _ => none
  | .lcmp => match S with
    | (1, b) :: (1, a) :: S => some (L, (0, zu_lcmp a b) :: S)
    | _ => none
  | .dup => match S with
    | w :: S => bif Nat.beq w.1 1 then none else some (L, w :: w :: S)
    | _ => none
  | .pop => match S with
    | w :: S => bif Nat.beq w.1 1 then none else some (L, S)
    | _ => none
  | .dup2 => match S with
    | v :: w :: S => bif Nat.beq v.1 1 || Nat.beq w.1 1 then none else some (L, v :: w :: v :: w :: S)
    | _ => none
  | _ => none
abbrev zu_R : Type := Int × zu_m
abbrev zu_I : Type := Nat → List zu_v → List zu_v → zu_m → Option zu_R
def zu_cats : List zu_v → Nat
  | [] => 0
  | w :: S => (bif Nat.beq w.1 1 then 2 else 1) + zu_cats S
def zu_jmp (ih : zu_I) (pc : Nat) (off : Int) (L S : List zu_v) (σ : zu_m) : Option zu_R := match xv_tgt pc off with
  | some t => ih t L S σ
  | none => none
/-- a switch over a, k, k + 1 .. -/
def zu_tab (ih : zu_I) (pc : Nat) (dflt a : Int) (L S : List zu_v) (σ : zu_m) : Int → List Int → Option zu_R
  | _, [] => zu_jmp ih pc dflt L S σ
  | k, off :: r => if a = k then zu_jmp ih pc off L S σ else zu_tab ih pc dflt a L S σ (k + 1) r
def zu_look (ih : zu_I) (pc : Nat) (dflt a : Int) (L S : List zu_v) (σ : zu_m) : List (Int × Int) → Option zu_R
  | [] => zu_jmp ih pc dflt L S σ
  | q :: r => if a = q.1 then zu_jmp ih pc q.2 L S σ else zu_look ih pc dflt a L S σ r
def zu_ald (T : zu_T) (ih : zu_I) (pc : Nat) (L S : List zu_v) (σ : zu_m) (t0 t1 : Nat) : Option zu_R := match S with
  | (0, i) :: (t, a) :: S => match zu_kd T t with
    | some k => bif Nat.beq k.1.1 t0 || Nat.beq k.1.1 t1 then match k.2 with
        | f :: _ => if 0 ≤ i ∧ i < (k.1.2 : Int) then ih (pc + 1) L ((f.1, zu_rd f a i σ) :: S) σ else none
        | [] => none
      else none
    | none => none
  | _ => none
def zu_ast (T : zu_T) (ih : zu_I) (pc : Nat) (L S : List zu_v) (σ : zu_m) (t0 t : Nat) : Option zu_R := match S with
  | (u, v) :: (0, i) :: (r, a) :: S => match zu_kd T r with
    | some k => bif Nat.beq k.1.1 t0 && Nat.beq u t then (if 0 ≤ i ∧ i < (k.1.2 : Int) then ih (pc + 1) L S (zu_up σ a i v) else none) else none
    | none => none
  | _ => none
def zu_b (v : Int) (x : Option zu_R) : Option zu_R := if v = 0 ∨ v = 1 then x else none
def zu_push (r : Nat) (v : Int) (S : List zu_v) : List zu_v := match r with
  | 0 => S
  | 2 => (1, v) :: S
  | _ => (0, v) :: S
/-- a call of the method j out of a method that calls dl deep -/
def zu_inv (T : zu_T) (call : Nat → List zu_v → zu_m → Option zu_R) (ih : zu_I) (dl pc j : Nat) (L as R : List zu_v) (σ : zu_m) : Option zu_R := match T.2.2.1[j]?, T.2.2.2[j]? with
  | some y, some d => bif Nat.blt d dl && (Nat.beq y.2.2.1.1 0 && Nat.beq y.2.2.1.2 0) && Nat.ble (zu_cats R) 8 && Nat.ble (zu_cats as) y.2.1.2.1 then (call j as σ).bind (fun q => ih (pc + 3) L (zu_push y.2.1.2.2.1 q.1 R) q.2) else none
  | _, _ => none
def zu_abs (a : Int) : Int := if 0 ≤ a then a else zu_w32 (0 - a)
def zu_max (a b : Int) : Int := if a < b then b else a
def zu_min (a b : Int) : Int := if b < a then b else a
/-- Math's methods, by their numbers -/
def zu_math (ih : zu_I) (pc j : Nat) (L S : List zu_v) (σ : zu_m) : Option zu_R := match S with
  | (0, b) :: (0, a) :: R => bif Nat.beq j 312 then (bif Nat.ble (zu_cats ((0, a) :: R)) 8 then ih (pc + 3) L ((0, zu_abs b) :: (0, a) :: R) σ else none) else bif Nat.ble (zu_cats R) 8 then (bif Nat.beq j 313 then ih (pc + 3) L ((0, zu_max a b) :: R) σ else bif Nat.beq j 315 then ih (pc + 3) L ((0, zu_min a b) :: R) σ else none) else none
  | (1, b) :: (1, a) :: R => bif Nat.ble (zu_cats R) 8 then (bif Nat.beq j 314 then ih (pc + 3) L ((1, zu_max a b) :: R) σ else bif Nat.beq j 316 then ih (pc + 3) L ((1, zu_min a b) :: R) σ else none) else none
  | (0, b) :: R => bif Nat.beq j 312 && Nat.ble (zu_cats R) 8 then ih (pc + 3) L ((0, zu_abs b) :: R) σ else none
  | _ => none
def zu_cond (ih : zu_I) (pc : Nat) (off : Int) (L S : List zu_v) (σ : zu_m) (p : Prop) (d : Decidable p) : Option zu_R := match xv_tgt pc off with
  | some t => @ite _ p d (ih t L S σ) (ih (pc + 3) L S σ)
  | none => none
def zu_rest (T : zu_T) (call : Nat → List zu_v → zu_m → Option zu_R) (ih : zu_I) (y : xv_N) (dl pc : Nat) (L S : List zu_v) (σ : zu_m) : Instr → Option zu_R
  | .goto off => zu_jmp ih pc off L S σ
  | .if_icmp c off => match S with
    | (0, b) :: (0, a) :: S => match c with
      | .eq => zu_cond ih pc off L S σ (a = b) inferInstance
      | .ne => zu_cond ih pc off L S σ (a ≠ b) inferInstance
      | .lt => zu_cond ih pc off L S σ (a < b) inferInstance
      | .ge => zu_cond ih pc off L S σ (b ≤ a) inferInstance
      | .gt => zu_cond ih pc off L S σ (b < a) inferInstance
      | .le => zu_cond ih pc off L S σ (a ≤ b) inferInstance
    | _ => none
  | .ifCond c off => match S with
    | (0, a) :: S => match c with
      | .eq => zu_cond ih pc off L S σ (a = 0) inferInstance
      | .ne => zu_cond ih pc off L S σ (a ≠ 0) inferInstance
      | .lt => zu_cond ih pc off L S σ (a < 0) inferInstance
      | .ge => zu_cond ih pc off L S σ (0 ≤ a) inferInstance
      | .gt => zu_cond ih pc off L S σ (0 < a) inferInstance
      | .le => zu_cond ih pc off L S σ (a ≤ 0) inferInstance
    | _ => none
  | .tableswitch dflt lo hi offs => match S with
    | (0, a) :: S => bif decide (lo + (offs.toList.length : Int) = hi + 1) then zu_tab ih pc dflt a L S σ lo offs.toList else none
    | _ => none
  | .lookupswitch dflt ps => match S with
    | (0, a) :: S => bif (ps.toList.zip (ps.toList.drop 1)).all (fun q => decide (q.1.1 < q.2.1)) then zu_look ih pc dflt a L S σ ps.toList else none
    | _ => none
  | .idiv => match S with
    | (0, b) :: (0, a) :: S => if b = 0 then none else ih (pc + 1) L ((0, zu_w32 (a.tdiv b)) :: S) σ
    | _ => none
  | .irem => match S with
    | (0, b) :: (0, a) :: S => if b = 0 then none else ih (pc + 1) L ((0, a.tmod b) :: S) σ
    | _ => none
  | .ldiv => match S with
    | (1, b) :: (1, a) :: S => if b = 0 then none else ih (pc + 1) L ((1, zu_w64 (a.tdiv b)) :: S) σ
    | _ => none
  | .lrem => match S with
    | (1, b) :: (1, a) :: S => if b = 0 then none else ih (pc + 1) L ((1, a.tmod b) :: S) σ
    | _ => none
  | .getfield i => match xv_find y.1.2.1 i, S with
    | some ck, (t, a) :: S => match zu_kd T t with
      | some k => bif Nat.beq k.1.1 (8 + ck.1) then match k.2[ck.2]? with
          | some f => ih (pc + 3) L ((f.1, zu_rd f a (ck.2 : Int) σ) :: S) σ
          | none => none
        else none
      | none => none
    | _, _ => none
  | .putfield i => match xv_find y.1.2.1 i, S with
    | some ck, (u, v) :: (t, a) :: S => match zu_kd T t, T.2.1[ck.1]? with
      | some k, some fs => bif Nat.beq k.1.1 (8 + ck.1) then match k.2[ck.2]?, fs[ck.2]? with
          | some f, some (.int, false) => bif Nat.beq u 0 && Nat.beq f.1 0 then ih (pc + 3) L S (zu_up σ a (ck.2 : Int) v) else none
          | some f, some (.long, false) => bif Nat.beq u 1 && Nat.beq f.1 1 then ih (pc + 3) L S (zu_up σ a (ck.2 : Int) v) else none
          | some f, some (.boolean, false) => bif Nat.beq u 0 && Nat.beq f.1 0 then zu_b v (ih (pc + 3) L S (zu_up σ a (ck.2 : Int) v)) else none
          | _, _ => none
        else none
      | _, _ => none
    | _, _ => none
  | .getstatic i => bif Nat.beq i 104 && Nat.beq y.1.1 2 then ih (pc + 3) L ((4, 2) :: S) σ else none
  | .arraylength => match S with
    | (t, _) :: S => match zu_kd T t with
      | some k => bif Nat.blt k.1.1 7 && Nat.ble k.1.2 4096 then ih (pc + 1) L ((0, (k.1.2 : Int)) :: S) σ else none
      | none => none
    | _ => none
  | .iaload => zu_ald T ih pc L S σ 0 3
  | .laload => zu_ald T ih pc L S σ 1 1
  | .baload => zu_ald T ih pc L S σ 2 2
  | .aaload => zu_ald T ih pc L S σ 4 5
  | .iastore => zu_ast T ih pc L S σ 0 0
  | .lastore => zu_ast T ih pc L S σ 1 1
  | .bastore => match S with
    | (_, v) :: _ => zu_b v (zu_ast T ih pc L S σ 2 0)
    | _ => none
  | .invokevirtual i => match xv_find y.1.2.2.1 i with
    | some (0, j) => match T.2.2.1[j]? with
      | some z => match S.drop z.2.1.1 with
        | (t, a) :: R => match zu_kd T t with
          | some k => bif Nat.beq k.1.1 (8 + z.1.1) then zu_inv T call ih dl pc j L ((t, a) :: (S.take z.2.1.1).reverse) R σ else none
          | none => none
        | [] => none
      | none => none
    | _ => none
  | .invokestatic i => match xv_find y.1.2.2.1 i with
    | some (3, j) => match T.2.2.1[j]? with
      | some z => bif Nat.ble z.2.1.1 S.length then zu_inv T call ih dl pc j L (S.take z.2.1.1).reverse (S.drop z.2.1.1) σ else none
      | none => zu_math ih pc j L S σ
    | some (6, _) => match S with
      | (0, n) :: (0, dp) :: (tb, b) :: (0, sp) :: (ta, a) :: S => match zu_kd T ta, zu_kd T tb with
        | some ka, some kb => bif Nat.beq ka.1.1 0 && Nat.beq kb.1.1 0 && Nat.ble (zu_cats S) 8 && Nat.ble ka.1.2 4095 && Nat.ble kb.1.2 4095 then (if 0 ≤ n ∧ 0 ≤ dp ∧ 0 ≤ sp ∧ sp + n ≤ (ka.1.2 : Int) ∧ dp + n ≤ (kb.1.2 : Int) then ih (pc + 3) L S (zu_cp σ a sp b dp n) else none) else none
        | _, _ => none
      | _ => none
    | _ => none
  | .return_ => match S with
    | [] => bif Nat.beq y.2.1.2.2.1 0 then some (0, σ) else none
    | _ => none
  | .ireturn => match S with
    | [(0, v)] => bif Nat.beq y.2.1.2.2.1 1 then some (v, σ) else bif Nat.beq y.2.1.2.2.1 3 then zu_b v (some (v, σ)) else none
    | _ => none
  | .lreturn => match S with
    | [(1, v)] => bif Nat.beq y.2.1.2.2.1 2 then some (v, σ) else none
    | _ => none
  | _ => none
/-- one step of the method y, that calls dl deep -/
def zu_step (T : zu_T) (call : Nat → List zu_v → zu_m → Option zu_R) (ih : zu_I) (y : xv_N) (dl pc : Nat) (L S : List zu_v) (σ : zu_m) : Option zu_R := match xv_find y.2.2.2 pc with
  | some i => match zu_pure y.1.2 L S i with
    | some LS => ih (pc + xv_len i) LS.1 LS.2 σ
    | none => zu_rest T call ih y dl pc L S σ i
  | none => none
/-- the locals at the entry -/
def zu_in : List zu_v → Nat → List zu_v
  | [], n => List.replicate n (2, 0)
  | (1, v) :: r, n => (1, v) :: (2, 0) :: zu_in r (n - 2)
  | w :: r, n => w :: zu_in r (n - 1)
def zu_lp (T : zu_T) : Nat → Nat → Nat → List zu_v → List zu_v → zu_m → Option zu_R
  | 0, _, _, _, _, _ => none
  | n + 1, j, pc, L, S, σ => match T.2.2.1[j]?, T.2.2.2[j]? with
    | some y, some d => zu_step T (fun k as σ => match T.2.2.1[k]? with
        | some z => zu_lp T n k 0 (zu_in as z.2.1.2.1) [] σ
        | none => none) (zu_lp T n j) y d pc L S σ
    | _, _ => none
