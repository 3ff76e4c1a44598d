/-! THE PURE MACHINE: a memory of numbered cells, values of a domain V (.inl: an int, .inr (.inl ..): a long, .inr (.inr ..): null or a cell by its number). A cell: a tag (0 int[], 1 long[], 2 boolean[], 4 + n the n-th array of objects, 7 a constant text, 8 + n an object of the n-th class) and its contents. The first cells are the constant texts. -/
abbrev xv_V (V : Type) : Type := V ⊕ (V ⊕ Option Nat)
abbrev xv_O (V : Type) : Type := Nat × List (xv_V V)
abbrev xv_M (V : Type) : Type := List (xv_O V)
abbrev xv_L (V : Type) : Type := List (Option (xv_V V))
abbrev xv_R (V : Type) : Type := Option (xv_V V) × xv_M V
/-- what a domain can do: constants, operations by their numbers, comparisons by theirs, its exact number, is it 0 or 1 -/
abbrev xv_D (V : Type) : Type := (Int32 → V) × (Int64 → V) × (Nat → V → V → Option V) × (Nat → V → V → Option Bool) × (V → Option Int) × (V → Bool)
abbrev xv_I : Type := Nat × Instr
/-- the links of a class: fields (class, place), methods (kind, number), classes, ints, longs -/
abbrev xv_K : Type := List (Nat × Nat × Nat) × List (Nat × Nat × Nat) × List (Nat × Nat) × List (Nat × Int32) × List (Nat × Int64)
/-- a method: its class's number, its class's links, how many parameters, its locals, what it answers (0 nothing, 1 an int, 2 a long, 3 a boolean), 1 for a constructor, cells and places that it may make, its code -/
abbrev xv_N : Type := (Nat × xv_K) × (Nat × Nat × Nat × Nat) × (Nat × Nat) × List xv_I
def xv_len : Instr → Nat
  | .bipush _ => 2
  | .ldc _ => 2
  | .newarray _ => 2
  | .iload _ => 2
  | .istore _ => 2
  | .lload _ => 2
  | .lstore _ => 2
  | .aload _ => 2
  | .astore _ => 2
  | .sipush _ => 3
  | .iinc _ _ => 3
  | .ldc2_w _ => 3
  | .getfield _ => 3
  | .putfield _ => 3
  | .getstatic _ => 3
  | .new _ => 3
  | .anewarray _ => 3
  | .invokevirtual _ => 3
  | .invokespecial _ => 3
  | .invokestatic _ => 3
  | .if_icmp _ _ => 3
  | .ifCond _ _ => 3
  | .goto _ => 3
  | _ => 1
def xv_find {α : Type} : List (Nat × α) → Nat → Option α
  | [], _ => none
  | q :: r, i => bif Nat.beq q.1 i then some q.2 else xv_find r i
def xv_to : List xv_I → Nat → List xv_I
  | [], _ => []
  | q :: r, i => bif Nat.beq q.1 i then q :: r else xv_to r i
def xv_cat {V : Type} : xv_V V → Nat
  | .inr (.inl _) => 2
  | _ => 1
def xv_kill {V : Type} (L : xv_L V) : Nat → xv_L V
  | 0 => L
  | j + 1 => match L[j]? with
    | some (some (.inr (.inl _))) => L.set j none
    | _ => L
def xv_put1 {V : Type} (L : xv_L V) (i : Nat) (v : xv_V V) : xv_L V := (xv_kill L i).set i (some v)
def xv_put2 {V : Type} (L : xv_L V) (i : Nat) (v : xv_V V) : xv_L V := ((xv_kill L i).set (i + 1) none).set i (some v)
/-- loads and stores of locals -/
def xv_ld {V : Type} (L : xv_L V) (S : List (xv_V V)) (t i : Nat) : Option (xv_L V × List (xv_V V)) := match L[i]? with
  | some (some (.inl a)) => bif Nat.beq t 0 then some (L, .inl a :: S) else none
  | some (some (.inr (.inl a))) => bif Nat.beq t 1 then some (L, .inr (.inl a) :: S) else none
  | some (some (.inr (.inr (some a)))) => bif Nat.beq t 2 then some (L, .inr (.inr (some a)) :: S) else none
  | _ => none
def xv_sto {V : Type} (L : xv_L V) (S : List (xv_V V)) (t i : Nat) : Option (xv_L V × List (xv_V V)) := match S with
  | .inl a :: S => bif Nat.beq t 0 && Nat.blt i L.length then some (xv_put1 L i (.inl a), S) else none
  | .inr (.inl a) :: S => bif Nat.beq t 1 && Nat.blt (i + 1) L.length then some (xv_put2 L i (.inr (.inl a)), S) else none
  | .inr (.inr (some a)) :: S => bif Nat.beq t 2 && Nat.blt i L.length then some (xv_put1 L i (.inr (.inr (some a))), S) else none
  | _ => none
def xv_i2 {V : Type} (D : xv_D V) (o : Nat) (L : xv_L V) (S : List (xv_V V)) : Option (xv_L V × List (xv_V V)) := match S with
  | .inl b :: .inl a :: S => match D.2.2.1 o a b with
    | some r => some (L, .inl r :: S)
    | none => none
  | _ => none
def xv_l2 {V : Type} (D : xv_D V) (o : Nat) (L : xv_L V) (S : List (xv_V V)) : Option (xv_L V × List (xv_V V)) := match S with
  | .inr (.inl b) :: .inr (.inl a) :: S => match D.2.2.1 o a b with
    | some r => some (L, .inr (.inl r) :: S)
    | none => none
  | _ => none
def xv_s2 {V : Type} (D : xv_D V) (o : Nat) (L : xv_L V) (S : List (xv_V V)) : Option (xv_L V × List (xv_V V)) := match S with
  | .inl b :: .inr (.inl a) :: S => match D.2.2.1 o a b with
    | some r => some (L, .inr (.inl r) :: S)
    | none => none
  | _ => none
def xv_iinc {V : Type} (D : xv_D V) (L : xv_L V) (S : List (xv_V V)) (i : Nat) (n : Int) : Option (xv_L V × List (xv_V V)) := match L[i]? with
  | some (some (.inl a)) => match D.2.2.1 0 a (D.1 (Int32.ofInt n)) with
    | some r => some (xv_put1 L i (.inl r), S)
    | none => none
  | _ => none
/-- instructions that touch locals and stack alone -/
def xv_pure {V : Type} (D : xv_D V) (K : xv_K) (L : xv_L V) (S : List (xv_V V)) : Instr → Option (xv_L V × List (xv_V V))
  | .iconst n => some (L, .inl (D.1 (Int32.ofInt n)) :: S)
  | .bipush n => some (L, .inl (D.1 (Int8.ofInt n).toInt32) :: S)
  | .sipush n => some (L, .inl (D.1 (Int16.ofInt n).toInt32) :: S)
  | .lconst n => some (L, .inr (.inl (D.2.1 (Int64.ofNat (n : Nat)))) :: S)
  | .ldc i => match xv_find K.2.2.2.1 i with
    | some v => some (L, .inl (D.1 v) :: S)
    | none => match xv_find K.2.2.1 i with
      | some n => bif Nat.ble 2000 n then some (L, .inr (.inr (some (n - 2000))) :: S) else none
      | none => none
  | .ldc2_w i => match xv_find K.2.2.2.2 i with
    | some v => some (L, .inr (.inl (D.2.1 v)) :: S)
    | none => none
  | .iload_n k => xv_ld L S 0 k
  | .iload k => xv_ld L S 0 k
  | .lload_n k => xv_ld L S 1 k
  | .lload k => xv_ld L S 1 k
  | .aload_n k => xv_ld L S 2 k
  | .aload k => xv_ld L S 2 k
  | .istore_n k => xv_sto L S 0 k
  | .istore k => xv_sto L S 0 k
  | .lstore_n k => xv_sto L S 1 k
  | .lstore k => xv_sto L S 1 k
  | .astore_n k => xv_sto L S 2 k
  | .astore k => xv_sto L S 2 k
  | .iinc k n => xv_iinc D L S k n
  | .iadd => xv_i2 D 0 L S
  | .isub => xv_i2 D 1 L S
  | .imul => xv_i2 D 2 L S
  | .iand => xv_i2 D 3 L S
  | .ior => xv_i2 D 4 L S
  | .ishl => xv_i2 D 5 L S
  | .ishr => xv_i2 D 6 L S
  | .iushr => xv_i2 D 7 L S
  | .idiv => xv_i2 D 8 L S
  | .irem => xv_i2 D 9 L S
  | .ineg => match S with
    | .inl a :: S => match D.2.2.1 10 a a with
      | some r => some (L, .inl r :: S)
      | none => none
    | _ => none
  | .ladd => xv_l2 D 20 L S
  | .lsub => xv_l2 D 21 L S
  | .lmul => xv_l2 D 22 L S
  | .land => xv_l2 D 23 L S
  | .lor => xv_l2 D 24 L S
  | .ldiv => xv_l2 D 25 L S
  | .lrem => xv_l2 D 26 L S
  | .lneg => match S with
    | .inr (.inl a) :: S => match D.2.2.1 27 a a with
      | some r => some (L, .inr (.inl r) :: S)
      | none => none
    | _ => none
  | .lshl => xv_s2 D 30 L S
  | .lshr => xv_s2 D 31 L S
  | .i2l => match S with
    | .inl a :: S => match D.2.2.1 40 a a with
      | some r => some (L, .inr (.inl r) :: S)
      | none => none
    | _ => none
  | .l2i => match S with
    | .inr (.inl a) :: S => match D.2.2.1 41 a a with
      | some r => some (L, .inl r :: S)
      | none => none
    | _ => none
  | .lcmp => match S with
    | .inr (.inl b) :: .inr (.inl a) :: S => match D.2.2.1 42 a b with
      | some r => some (L, .inl r :: S)
      | none => none
    | _ => none
  | .dup => match S with
    | v :: S => bif Nat.beq (xv_cat v) 1 then some (L, v :: v :: S) else none
    | _ => none
  | .pop => match S with
    | v :: S => bif Nat.beq (xv_cat v) 1 then some (L, S) else none
    | _ => none
  | .dup2 => match S with
    | v :: w :: S => bif Nat.beq (xv_cat v) 1 && Nat.beq (xv_cat w) 1 then some (L, v :: w :: v :: w :: S) else none
    | _ => none
  | _ => none
def xv_tgt (pc : Nat) (off : Int) : Option Nat := match (pc : Int) + off with
  | .ofNat t => some t
  | _ => none
def xv_cmp2 {V : Type} (D : xv_D V) (o pc : Nat) (off : Int) (S : List (xv_V V)) : Option (Nat × List (xv_V V)) := match S with
  | .inl b :: .inl a :: S => match D.2.2.2.1 o a b, xv_tgt pc off with
    | some r, some t => some (bif r then t else pc + 3, S)
    | _, _ => none
  | _ => none
def xv_cmp1 {V : Type} (D : xv_D V) (o pc : Nat) (off : Int) (S : List (xv_V V)) : Option (Nat × List (xv_V V)) := match S with
  | .inl a :: S => match D.2.2.2.1 o a (D.1 0), xv_tgt pc off with
    | some r, some t => some (bif r then t else pc + 3, S)
    | _, _ => none
  | _ => none
def xv_tab {V : Type} (pc : Nat) (dflt lo hi : Int) (offs : Array Int) (n : Int) (S : List (xv_V V)) : Option (Nat × List (xv_V V)) :=
  if n < lo ∨ hi < n then match xv_tgt pc dflt with
    | some t => some (t, S)
    | none => none
  else match offs[(n - lo).toNat]? with
    | some off => match xv_tgt pc off with
      | some t => some (t, S)
      | none => none
    | none => none
/-- a number that lies outside a switch's table -/
def xv_out {V : Type} (D : xv_D V) (a : V) (lo hi : Int) : Bool := match D.2.2.2.1 2 a (D.1 (Int32.ofInt lo)), D.2.2.2.1 4 a (D.1 (Int32.ofInt hi)) with
  | some true, _ => decide ((Int32.ofInt lo).toInt = lo)
  | _, some true => decide ((Int32.ofInt hi).toInt = hi)
  | _, _ => false
/-- jumps: where to, and the stack there -/
def xv_br {V : Type} (D : xv_D V) (pc : Nat) (S : List (xv_V V)) : Instr → Option (Nat × List (xv_V V))
  | .goto off => match xv_tgt pc off with
    | some t => some (t, S)
    | none => none
  | .if_icmp .eq off => xv_cmp2 D 0 pc off S
  | .if_icmp .ne off => xv_cmp2 D 1 pc off S
  | .if_icmp .lt off => xv_cmp2 D 2 pc off S
  | .if_icmp .ge off => xv_cmp2 D 3 pc off S
  | .if_icmp .gt off => xv_cmp2 D 4 pc off S
  | .if_icmp .le off => xv_cmp2 D 5 pc off S
  | .ifCond .eq off => xv_cmp1 D 0 pc off S
  | .ifCond .ne off => xv_cmp1 D 1 pc off S
  | .ifCond .lt off => xv_cmp1 D 2 pc off S
  | .ifCond .ge off => xv_cmp1 D 3 pc off S
  | .ifCond .gt off => xv_cmp1 D 4 pc off S
  | .ifCond .le off => xv_cmp1 D 5 pc off S
  | .tableswitch dflt lo hi offs => match S with
    | .inl a :: S => match D.2.2.2.2.1 a with
      | some n => xv_tab pc dflt lo hi offs n S
      | none => bif xv_out D a lo hi then match xv_tgt pc dflt with
          | some t => some (t, S)
          | none => none
        else none
    | _ => none
  | .lookupswitch dflt ps => match S with
    | .inl a :: S => match D.2.2.2.2.1 a with
      | some n => bif (ps.toList.zip (ps.toList.drop 1)).all (fun q => decide (q.1.1 < q.2.1)) then match xv_tgt pc (Op.lookupswitch.offset ps.toList dflt n) with
          | some t => some (t, S)
          | none => none
        else none
      | none => none
    | _ => none
  | _ => none
def xv_dflt {V : Type} (D : xv_D V) : FieldType → xv_V V
  | .int => .inl (D.1 0)
  | .boolean => .inl (D.1 0)
  | .long => .inr (.inl (D.2.1 0))
  | _ => .inr (.inr none)
/-- may a field or array of this type hold this value -/
def xv_fit {V : Type} (D : xv_D V) : FieldType → xv_V V → Bool
  | .int, .inl _ => true
  | .boolean, .inl a => D.2.2.2.2.2 a
  | .long, .inr (.inl _) => true
  | .object _, .inr (.inr _) => true
  | .array _, .inr (.inr _) => true
  | _, _ => false
/-- the index of an array access: an exact number within -/
def xv_ix {V : Type} (D : xv_D V) (a : V) (n : Nat) : Option Nat := match D.2.2.2.2.1 a with
  | some (.ofNat k) => bif Nat.blt k n then some k else none
  | _ => none
def xv_ald {V : Type} (D : xv_D V) (M : xv_M V) (S : List (xv_V V)) (t0 t1 : Nat) : Option (List (xv_V V) × xv_M V × Nat × Nat) := match S with
  | .inl i :: .inr (.inr (some a)) :: S => match M[a]? with
    | some o => bif Nat.ble t0 o.1 && Nat.ble o.1 t1 then match xv_ix D i o.2.length with
        | some k => match o.2[k]? with
          | some v => some (v :: S, M, 0, 0)
          | none => none
        | none => none
      else none
    | none => none
  | _ => none
def xv_ast {V : Type} (D : xv_D V) (M : xv_M V) (S : List (xv_V V)) (t : Nat) (ty : FieldType) : Option (List (xv_V V) × xv_M V × Nat × Nat) := match S with
  | v :: .inl i :: .inr (.inr (some a)) :: S => match M[a]? with
    | some o => bif Nat.beq o.1 t && xv_fit D ty v then match xv_ix D i o.2.length with
        | some k => some (S, M.set a (o.1, o.2.set k v), 0, 0)
        | none => none
      else none
    | none => none
  | _ => none
/-- a new array: at most 4096 places -/
def xv_newa {V : Type} (D : xv_D V) (M : xv_M V) (S : List (xv_V V)) (t : Nat) (v : xv_V V) : Option (List (xv_V V) × xv_M V × Nat × Nat) := match S with
  | .inl n :: S => match xv_ix D n 4096 with
    | some k => some (.inr (.inr (some M.length)) :: S, M ++ [(t, List.replicate k v)], 1, k)
    | none => none
  | _ => none
/-- instructions of the memory: stack, memory, new cells, new places. ct: the fields of the classes (their types, final or not), at: the classes of the arrays of objects; w: the class's own number, ini: 1 in a constructor -/
def xv_mem {V : Type} (D : xv_D V) (ct : List (List (FieldType × Bool))) (at_ : List Nat) (K : xv_K) (w ini : Nat) (M : xv_M V) (S : List (xv_V V)) : Instr → Option (List (xv_V V) × xv_M V × Nat × Nat)
  | .getfield i => match xv_find K.1 i with
    | some ck => match S with
      | .inr (.inr (some a)) :: S => match M[a]? with
        | some o => bif Nat.beq o.1 (8 + ck.1) then match o.2[ck.2]? with
            | some v => some (v :: S, M, 0, 0)
            | none => none
          else none
        | none => none
      | _ => none
    | none => none
  | .putfield i => match xv_find K.1 i with
    | some ck => match S with
      | v :: .inr (.inr (some a)) :: S => match M[a]? with
        | some o => bif Nat.beq o.1 (8 + ck.1) && Nat.blt ck.2 o.2.length then match ct[ck.1]? with
            | some fs => match fs[ck.2]? with
              | some f => bif xv_fit D f.1 v && (!f.2 || (Nat.beq ini 1 && Nat.beq w ck.1)) then some (S, M.set a (o.1, o.2.set ck.2 v), 0, 0) else none
              | none => none
            | none => none
          else none
        | none => none
      | _ => none
    | none => none
  | .new i => match xv_find K.2.2.1 i with
    | some ci => match ct[ci]? with
      | some fs => bif Nat.blt ci 1000 then some (.inr (.inr (some M.length)) :: S, M ++ [(8 + ci, fs.map (fun f => xv_dflt D f.1))], 1, fs.length) else none
      | none => none
    | none => none
  | .newarray .int => xv_newa D M S 0 (.inl (D.1 0))
  | .newarray .long => xv_newa D M S 1 (.inr (.inl (D.2.1 0)))
  | .newarray .boolean => xv_newa D M S 2 (.inl (D.1 0))
  | .anewarray i => match xv_find K.2.2.1 (70000 + i) with
    | some ci => bif Nat.ble 1000 ci && Nat.blt ci 1003 then xv_newa D M S (ci - 996) (.inr (.inr none)) else none
    | none => none
  | .arraylength => match S with
    | .inr (.inr (some a)) :: S => match M[a]? with
      | some o => bif Nat.blt o.1 7 && Nat.ble o.2.length 4096 then some (.inl (D.1 (Int32.ofNat o.2.length)) :: S, M, 0, 0) else none
      | none => none
    | _ => none
  | .iaload => match xv_ald D M S 0 0 with
    | some r => some r
    | none => xv_ald D M S 3 3
  | .laload => xv_ald D M S 1 1
  | .baload => xv_ald D M S 2 2
  | .aaload => xv_ald D M S 4 6
  | .iastore => xv_ast D M S 0 .int
  | .lastore => xv_ast D M S 1 .long
  | .bastore => xv_ast D M S 2 .boolean
  | .aastore => match S with
    | .inr (.inr (some v)) :: .inl i :: .inr (.inr (some a)) :: S => match M[a]?, M[v]? with
      | some o, some ov => match at_[o.1 - 4]? with
        | some ci => bif Nat.ble 4 o.1 && Nat.blt o.1 7 && Nat.beq ov.1 (8 + ci) then match xv_ix D i o.2.length with
            | some k => some (S, M.set a (o.1, o.2.set k (.inr (.inr (some v)))), 0, 0)
            | none => none
          else none
        | none => none
      | _, _ => none
    | _ => none
  | _ => none
def xv_cats {V : Type} : List (xv_V V) → Nat
  | [] => 0
  | v :: S => xv_cat v + xv_cats S
/-- arraycopy of int arrays -/
def xv_copy {V : Type} (D : xv_D V) (M : xv_M V) (S : List (xv_V V)) : Option (List (xv_V V) × xv_M V) := match S with
  | .inl n :: .inl dp :: .inr (.inr (some b)) :: .inl sp :: .inr (.inr (some a)) :: S => match M[a]?, M[b]? with
    | some oa, some ob => bif Nat.beq oa.1 0 && Nat.beq ob.1 0 && Nat.ble (xv_cats S) 8 then match xv_ix D n 4096, xv_ix D dp 4096, xv_ix D sp 4096 with
        | some n, some dp, some sp => bif Nat.ble (sp + n) oa.2.length && Nat.ble (dp + n) ob.2.length then some (S, M.set b (0, ob.2.take dp ++ ((oa.2.drop sp).take n ++ ob.2.drop (dp + n)))) else none
        | _, _, _ => none
      else none
    | _, _ => none
  | _ => none
/-- a call: the method's number, its arguments (the receiver first), the stack below -/
def xv_arg {V : Type} (ms : List xv_N) (K : xv_K) (M : xv_M V) (S : List (xv_V V)) : Instr → Option (Nat × List (xv_V V) × List (xv_V V))
  | .invokevirtual i => match xv_find K.2.1 i with
    | some (0, j) => match ms[j]? with
      | some y => match S.drop y.2.1.1 with
        | .inr (.inr (some a)) :: R => match M[a]? with
          | some o => bif Nat.beq o.1 (8 + y.1.1) && Nat.ble (xv_cats R) 8 then some (j, .inr (.inr (some a)) :: (S.take y.2.1.1).reverse, R) else none
          | none => none
        | _ => none
      | none => none
    | _ => none
  | .invokespecial i => match xv_find K.2.1 i with
    | some (k, j) => bif Nat.beq k 1 || Nat.beq k 2 then match ms[j]? with
        | some y => match S.drop y.2.1.1 with
          | .inr (.inr (some a)) :: R => bif Nat.ble (xv_cats R) 8 then some (j, .inr (.inr (some a)) :: (S.take y.2.1.1).reverse, R) else none
          | _ => none
        | none => none
      else none
    | none => none
  | .invokestatic i => match xv_find K.2.1 i with
    | some (3, j) => match ms[j]? with
      | some y => bif Nat.ble y.2.1.1 S.length && Nat.ble (xv_cats (S.drop y.2.1.1)) 8 then some (j, (S.take y.2.1.1).reverse, S.drop y.2.1.1) else none
      | none => none
    | _ => none
  | _ => none
/-- calls that are no walk: Object's constructor, arraycopy, charAt of a constant text (sct: their bytes) -/
def xv_nat {V : Type} (D : xv_D V) (sct : List (List Int32)) (K : xv_K) (M : xv_M V) (S : List (xv_V V)) : Instr → Option (List (xv_V V) × xv_M V)
  | .invokespecial i => match xv_find K.2.1 i with
    | some (5, _) => match S with
      | .inr (.inr (some _)) :: S => bif Nat.ble (xv_cats S) 8 then some (S, M) else none
      | _ => none
    | _ => none
  | .invokestatic i => match xv_find K.2.1 i with
    | some (6, _) => xv_copy D M S
    | _ => none
  | .invokevirtual i => match xv_find K.2.1 i with
    | some (4, _) => match S with
      | .inl a :: .inr (.inr (some n)) :: S => match sct[n]? with
        | some cs => match xv_ix D a cs.length with
          | some k => match cs[k]? with
            | some b => bif Nat.ble (xv_cats S) 8 then some (.inl (D.1 (b &&& 255)) :: S, M) else none
            | none => none
          | none => none
        | none => none
      | _ => none
    | _ => none
  | _ => none
/-- ends: what is answered -/
def xv_end {V : Type} (D : xv_D V) (r : Nat) (S : List (xv_V V)) : Instr → Option (Option (xv_V V))
  | .return_ => match S with
    | [] => bif Nat.beq r 0 then some none else none
    | _ => none
  | .ireturn => match S with
    | [.inl a] => bif Nat.beq r 1 || (Nat.beq r 3 && D.2.2.2.2.2 a) then some (some (.inl a)) else none
    | _ => none
  | .lreturn => match S with
    | [.inr (.inl a)] => bif Nat.beq r 2 then some (some (.inr (.inl a))) else none
    | _ => none
  | _ => none
/-- one step of the method y at the instruction (pc, i), then ih; at its end fin -/
def xv_step {V ρ : Type} (D : xv_D V) (ct : List (List (FieldType × Bool))) (at_ : List Nat) (sct : List (List Int32)) (ms : List xv_N) (call : Nat → List (xv_V V) → xv_M V → Option (xv_R V)) (y : xv_N) (fin : Option (xv_V V) → xv_M V → Option ρ)
    (ih : Nat → List xv_I → xv_L V → List (xv_V V) → xv_M V → Nat → Nat → Option ρ) (pc : Nat) (cs : List xv_I) (L : xv_L V) (S : List (xv_V V)) (M : xv_M V) (c s : Nat) : Option ρ := match cs with
  | [] => none
  | q :: cs => bif Nat.beq q.1 pc then match xv_pure D y.1.2 L S q.2 with
      | some LS => ih (pc + xv_len q.2) cs LS.1 LS.2 M c s
      | none => match xv_br D pc S q.2 with
        | some tS => ih tS.1 (xv_to y.2.2.2 tS.1) L tS.2 M c s
        | none => match xv_mem D ct at_ y.1.2 y.1.1 y.2.1.2.2.2 M S q.2 with
          | some T => bif Nat.ble (c + T.2.2.1) y.2.2.1.1 && Nat.ble (s + T.2.2.2) y.2.2.1.2 then ih (pc + xv_len q.2) cs L T.1 T.2.1 (c + T.2.2.1) (s + T.2.2.2) else none
          | none => match xv_arg ms y.1.2 M S q.2 with
            | some A => match ms[A.1]? with
              | some z => bif Nat.ble (c + z.2.2.1.1) y.2.2.1.1 && Nat.ble (s + z.2.2.1.2) y.2.2.1.2 then match call A.1 A.2.1 M with
                  | some r => ih (pc + 3) cs L (r.1.toList ++ A.2.2) r.2 (c + z.2.2.1.1) (s + z.2.2.1.2)
                  | none => none
                else none
              | none => none
            | none => match xv_nat D sct y.1.2 M S q.2 with
              | some T => ih (pc + 3) cs L T.1 T.2 c s
              | none => match xv_end D y.2.1.2.2.1 S q.2 with
                | some r => fin r M
                | none => none
    else none
noncomputable def xv_loop {V : Type} (D : xv_D V) (ct : List (List (FieldType × Bool))) (at_ : List Nat) (sct : List (List Int32)) (ms : List xv_N) (call : Nat → List (xv_V V) → xv_M V → Option (xv_R V)) (y : xv_N) : Nat → Nat → List xv_I → xv_L V → List (xv_V V) → xv_M V → Nat → Nat → Option (xv_R V) :=
  Nat.rec (fun _ _ _ _ _ _ _ => none) (fun _ ih => xv_step D ct at_ sct ms call y (fun r M => some (r, M)) ih)
/-- the same up to the instruction at stop: at least one step -/
noncomputable def xv_seg {V : Type} (D : xv_D V) (ct : List (List (FieldType × Bool))) (at_ : List Nat) (sct : List (List Int32)) (ms : List xv_N) (call : Nat → List (xv_V V) → xv_M V → Option (xv_R V)) (y : xv_N) (stop : Nat) : Nat → Nat → List xv_I → xv_L V → List (xv_V V) → xv_M V → Nat → Nat → Option (xv_L V × List (xv_V V) × xv_M V × Nat × Nat) :=
  Nat.rec (fun _ _ _ _ _ _ _ => none) (fun _ ih => xv_step D ct at_ sct ms call y (fun _ _ => none) (fun pc cs L S M c s => bif Nat.beq pc stop then some (L, S, M, c, s) else ih pc cs L S M c s))
/-- the locals at the entry -/
def xv_in {V : Type} : List (xv_V V) → Nat → xv_L V
  | [], n => List.replicate n none
  | v :: r, n => match v with
    | .inr (.inl a) => some (.inr (.inl a)) :: none :: xv_in r (n - 2)
    | v => some v :: xv_in r (n - 1)
/-- what the method j does: at most so many calls deep; ext: what is known of a call already -/
noncomputable def xv_run {V : Type} (D : xv_D V) (ct : List (List (FieldType × Bool))) (at_ : List Nat) (sct : List (List Int32)) (ms : List xv_N) (ext : Nat → Nat → List (xv_V V) → xv_M V → Option (xv_R V)) (fuel : Nat) : Nat → Nat → List (xv_V V) → xv_M V → Option (xv_R V) :=
  Nat.rec (fun _ _ _ => none) (fun d ih j as M => match ext (d + 1) j as M with
    | some r => some r
    | none => match ms[j]? with
      | some y => bif Nat.ble (xv_cats as) y.2.1.2.1 then xv_loop D ct at_ sct ms ih y fuel 0 y.2.2.2 (xv_in as y.2.1.2.1) [] M 0 0 else none
      | none => none)
