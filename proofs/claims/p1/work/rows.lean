section
/-! THE PURE MACHINE: a memory of numbered cells, values of a domain V (.inl: an int, .inr (.inl ..): a long, .inr (.inr ..): null or a cell by its number). A cell: a tag (0 int[], 1 long[], 2 boolean[], 4 + n the n-th array of objects, 7 a constant text, 8 + n an object of the n-th class) and its contents. The first cells are the constant texts. -/
abbrev xv_V (V : Type) : Type := V ⊕ (V ⊕ Option Nat)
abbrev xv_O (V : Type) : Type := Nat × List (xv_V V)
abbrev xv_M (V : Type) : Type := List (xv_O V)
abbrev xv_L (V : Type) : Type := List (Option (xv_V V))
abbrev xv_R (V : Type) : Type := Option (xv_V V) × xv_M V
/-- what a domain can do: constants, operations by their numbers, comparisons by theirs, its exact number, is it 0 or 1 -/
abbrev xv_D (V : Type) : Type := (Int32 → V) × (Int64 → V) × (Nat → V → V → Option V) × (Nat → V → V → Option Bool) × (V → Option Int) × (V → Bool)
abbrev xv_I : Type := Nat × Instr
/-- the links of a class: fields (class, place), methods (kind, number), classes, ints, longs -/
abbrev xv_K : Type := List (Nat × Nat × Nat) × List (Nat × Nat × Nat) × List (Nat × Nat) × List (Nat × Int32) × List (Nat × Int64)
/-- a method: its class's number, its class's links, how many parameters, its locals, what it answers (0 nothing, 1 an int, 2 a long, 3 a boolean), 1 for a constructor, cells and places that it may make, its code -/
abbrev xv_N : Type := (Nat × xv_K) × (Nat × Nat × Nat × Nat) × (Nat × Nat) × List xv_I
def xv_len : Instr → Nat
  | .bipush _ => 2
  | .ldc _ => 2
  | .newarray _ => 2
  | .iload _ => 2
  | .istore _ => 2
  | .lload _ => 2
  | .lstore _ => 2
  | .aload _ => 2
  | .astore _ => 2
  | .sipush _ => 3
  | .iinc _ _ => 3
  | .ldc2_w _ => 3
  | .getfield _ => 3
  | .putfield _ => 3
  | .getstatic _ => 3
  | .new _ => 3
  | .anewarray _ => 3
  | .invokevirtual _ => 3
  | .invokespecial _ => 3
  | .invokestatic _ => 3
  | .if_icmp _ _ => 3
  | .ifCond _ _ => 3
  | .goto _ => 3
  | _ => 1
def xv_find {α : Type} : List (Nat × α) → Nat → Option α
  | [], _ => none
  | q :: r, i => bif Nat.beq q.1 i then some q.2 else xv_find r i
def xv_to : List xv_I → Nat → List xv_I
  | [], _ => []
  | q :: r, i => bif Nat.beq q.1 i then q :: r else xv_to r i
def xv_cat {V : Type} : xv_V V → Nat
  | .inr (.inl _) => 2
  | _ => 1
def xv_kill {V : Type} (L : xv_L V) : Nat → xv_L V
  | 0 => L
  | j + 1 => match L[j]? with
    | some (some (.inr (.inl _))) => L.set j none
    | _ => L
def xv_put1 {V : Type} (L : xv_L V) (i : Nat) (v : xv_V V) : xv_L V := (xv_kill L i).set i (some v)
def xv_put2 {V : Type} (L : xv_L V) (i : Nat) (v : xv_V V) : xv_L V := ((xv_kill L i).set (i + 1) none).set i (some v)
/-- loads and stores of locals -/
def xv_ld {V : Type} (L : xv_L V) (S : List (xv_V V)) (t i : Nat) : Option (xv_L V × List (xv_V V)) := match L[i]? with
  | some (some (.inl a)) => bif Nat.beq t 0 then some (L, .inl a :: S) else none
  | some (some (.inr (.inl a))) => bif Nat.beq t 1 then some (L, .inr (.inl a) :: S) else none
  | some (some (.inr (.inr (some a)))) => bif Nat.beq t 2 then some (L, .inr (.inr (some a)) :: S) else none
  | _ => none
def xv_sto {V : Type} (L : xv_L V) (S : List (xv_V V)) (t i : Nat) : Option (xv_L V × List (xv_V V)) := match S with
  | .inl a :: S => bif Nat.beq t 0 && Nat.blt i L.length then some (xv_put1 L i (.inl a), S) else none
  | .inr (.inl a) :: S => bif Nat.beq t 1 && Nat.blt (i + 1) L.length then some (xv_put2 L i (.inr (.inl a)), S) else none
  | .inr (.inr (some a)) :: S => bif Nat.beq t 2 && Nat.blt i L.length then some (xv_put1 L i (.inr (.inr (some a))), S) else none
  | _ => none
def xv_i2 {V : Type} (D : xv_D V) (o : Nat) (L : xv_L V) (S : List (xv_V V)) : Option (xv_L V × List (xv_V V)) := match S with
  | .inl b :: .inl a :: S => match D.2.2.1 o a b with
    | some r => some (L, .inl r :: S)
    | none => none
  | _ => none
def xv_l2 {V : Type} (D : xv_D V) (o : Nat) (L : xv_L V) (S : List (xv_V V)) : Option (xv_L V × List (xv_V V)) := match S with
  | .inr (.inl b) :: .inr (.inl a) :: S => match D.2.2.1 o a b with
    | some r => some (L, .inr (.inl r) :: S)
    | none => none
  | _ => none
def xv_s2 {V : Type} (D : xv_D V) (o : Nat) (L : xv_L V) (S : List (xv_V V)) : Option (xv_L V × List (xv_V V)) := match S with
  | .inl b :: .inr (.inl a) :: S => match D.2.2.1 o a b with
    | some r => some (L, .inr (.inl r) :: S)
    | none => none
  | _ => none
def xv_iinc {V : Type} (D : xv_D V) (L : xv_L V) (S : List (xv_V V)) (i : Nat) (n : Int) : Option (xv_L V × List (xv_V V)) := match L[i]? with
  | some (some (.inl a)) => match D.2.2.1 0 a (D.1 (Int32.ofInt n)) with
    | some r => some (xv_put1 L i (.inl r), S)
    | none => none
  | _ => none
/-- instructions that touch locals and stack alone -/
def xv_pure {V : Type} (D : xv_D V) (K : xv_K) (L : xv_L V) (S : List (xv_V V)) : Instr → Option (xv_L V × List (xv_V V))
  | .iconst n => some (L, .inl (D.1 (Int32.ofInt n)) :: S)
  | .bipush n => some (L, .inl (D.1 (Int8.ofInt n).toInt32) :: S)
  | .sipush n => some (L, .inl (D.1 (Int16.ofInt n).toInt32) :: S)
  | .lconst n => some (L, .inr (.inl (D.2.1 (Int64.ofNat (n : Nat)))) :: S)
  | .ldc i => match xv_find K.2.2.2.1 i with
    | some v => some (L, .inl (D.1 v) :: S)
    | none => match xv_find K.2.2.1 i with
      | some n => bif Nat.ble 2000 n then some (L, .inr (.inr (some (n - 2000))) :: S) else none
      | none => none
  | .ldc2_w i => match xv_find K.2.2.2.2 i with
    | some v => some (L, .inr (.inl (D.2.1 v)) :: S)
    | none => none
  | .iload_n k => xv_ld L S 0 k
  | .iload k => xv_ld L S 0 k
  | .lload_n k => xv_ld L S 1 k
  | .lload k => xv_ld L S 1 k
  | .aload_n k => xv_ld L S 2 k
  | .aload k => xv_ld L S 2 k
  | .istore_n k => xv_sto L S 0 k
  | .istore k => xv_sto L S 0 k
  | .lstore_n k => xv_sto L S 1 k
  | .lstore k => xv_sto L S 1 k
  | .astore_n k => xv_sto L S 2 k
  | .astore k => xv_sto L S 2 k
  | .iinc k n => xv_iinc D L S k n
  | .iadd => xv_i2 D 0 L S
  | .isub => xv_i2 D 1 L S
  | .imul => xv_i2 D 2 L S
  | .iand => xv_i2 D 3 L S
  | .ior => xv_i2 D 4 L S
  | .ishl => xv_i2 D 5 L S
  | .ishr => xv_i2 D 6 L S
  | .iushr => xv_i2 D 7 L S
  | .idiv => xv_i2 D 8 L S
  | .irem => xv_i2 D 9 L S
  | .ineg => match S with
    | .inl a :: S => match D.2.2.1 10 a a with
      | some r => some (L, .inl r :: S)
      | none => none
    | _ => none
  | .ladd => xv_l2 D 20 L S
  | .lsub => xv_l2 D 21 L S
  | .lmul => xv_l2 D 22 L S
  | .land => xv_l2 D 23 L S
  | .lor => xv_l2 D 24 L S
  | .ldiv => xv_l2 D 25 L S
  | .lrem => xv_l2 D 26 L S
  | .lneg => match S with
    | .inr (.inl a) :: S => match D.2.2.1 27 a a with
      | some r => some (L, .inr (.inl r) :: S)
      | none => none
    | _ => none
  | .lshl => xv_s2 D 30 L S
  | .lshr => xv_s2 D 31 L S
  | .i2l => match S with
    | .inl a :: S => match D.2.2.1 40 a a with
      | some r => some (L, .inr (.inl r) :: S)
      | none => none
    | _ => none
  | .l2i => match S with
    | .inr (.inl a) :: S => match D.2.2.1 41 a a with
      | some r => some (L, .inl r :: S)
      | none => none
    | _ => none
  | .lcmp => match S with
    | .inr (.inl b) :: .inr (.inl a) :: S => match D.2.2.1 42 a b with
      | some r => some (L, .inl r :: S)
      | none => none
    | _ => none
  | .dup => match S with
    | v :: S => bif Nat.beq (xv_cat v) 1 then some (L, v :: v :: S) else none
    | _ => none
  | .pop => match S with
    | v :: S => bif Nat.beq (xv_cat v) 1 then some (L, S) else none
    | _ => none
  | .dup2 => match S with
    | v :: w :: S => bif Nat.beq (xv_cat v) 1 && Nat.beq (xv_cat w) 1 then some (L, v :: w :: v :: w :: S) else none
    | _ => none
  | _ => none
def xv_tgt (pc : Nat) (off : Int) : Option Nat := match (pc : Int) + off with
  | .ofNat t => some t
  | _ => none
def xv_cmp2 {V : Type} (D : xv_D V) (o pc : Nat) (off : Int) (S : List (xv_V V)) : Option (Nat × List (xv_V V)) := match S with
  | .inl b :: .inl a :: S => match D.2.2.2.1 o a b, xv_tgt pc off with
    | some r, some t => some (bif r then t else pc + 3, S)
    | _, _ => none
  | _ => none
def xv_cmp1 {V : Type} (D : xv_D V) (o pc : Nat) (off : Int) (S : List (xv_V V)) : Option (Nat × List (xv_V V)) := match S with
  | .inl a :: S => match D.2.2.2.1 o a (D.1 0), xv_tgt pc off with
    | some r, some t => some (bif r then t else pc + 3, S)
    | _, _ => none
  | _ => none
def xv_tab {V : Type} (pc : Nat) (dflt lo hi : Int) (offs : Array Int) (n : Int) (S : List (xv_V V)) : Option (Nat × List (xv_V V)) :=
  if n < lo ∨ hi < n then match xv_tgt pc dflt with
    | some t => some (t, S)
    | none => none
  else match offs[(n - lo).toNat]? with
    | some off => match xv_tgt pc off with
      | some t => some (t, S)
      | none => none
    | none => none
/-- jumps: where to, and the stack there -/
def xv_br {V : Type} (D : xv_D V) (pc : Nat) (S : List (xv_V V)) : Instr → Option (Nat × List (xv_V V))
  | .goto off => match xv_tgt pc off with
    | some t => some (t, S)
    | none => none
  | .if_icmp .eq off => xv_cmp2 D 0 pc off S
  | .if_icmp .ne off => xv_cmp2 D 1 pc off S
  | .if_icmp .lt off => xv_cmp2 D 2 pc off S
  | .if_icmp .ge off => xv_cmp2 D 3 pc off S
  | .if_icmp .gt off => xv_cmp2 D 4 pc off S
  | .if_icmp .le off => xv_cmp2 D 5 pc off S
  | .ifCond .eq off => xv_cmp1 D 0 pc off S
  | .ifCond .ne off => xv_cmp1 D 1 pc off S
  | .ifCond .lt off => xv_cmp1 D 2 pc off S
  | .ifCond .ge off => xv_cmp1 D 3 pc off S
  | .ifCond .gt off => xv_cmp1 D 4 pc off S
  | .ifCond .le off => xv_cmp1 D 5 pc off S
  | .tableswitch dflt lo hi offs => match S with
    | .inl a :: S => match D.2.2.2.2.1 a with
      | some n => xv_tab pc dflt lo hi offs n S
      | none => none
    | _ => none
  | .lookupswitch dflt ps => match S with
    | .inl a :: S => match D.2.2.2.2.1 a with
      | some n => bif (ps.toList.zip (ps.toList.drop 1)).all (fun q => decide (q.1.1 < q.2.1)) then match xv_tgt pc (Op.lookupswitch.offset ps.toList dflt n) with
          | some t => some (t, S)
          | none => none
        else none
      | none => none
    | _ => none
  | _ => none
def xv_dflt {V : Type} (D : xv_D V) : FieldType → xv_V V
  | .int => .inl (D.1 0)
  | .boolean => .inl (D.1 0)
  | .long => .inr (.inl (D.2.1 0))
  | _ => .inr (.inr none)
/-- may a field or array of this type hold this value -/
def xv_fit {V : Type} (D : xv_D V) : FieldType → xv_V V → Bool
  | .int, .inl _ => true
  | .boolean, .inl a => D.2.2.2.2.2 a
  | .long, .inr (.inl _) => true
  | .object _, .inr (.inr _) => true
  | .array _, .inr (.inr _) => true
  | _, _ => false
/-- the index of an array access: an exact number within -/
def xv_ix {V : Type} (D : xv_D V) (a : V) (n : Nat) : Option Nat := match D.2.2.2.2.1 a with
  | some (.ofNat k) => bif Nat.blt k n then some k else none
  | _ => none
def xv_ald {V : Type} (D : xv_D V) (M : xv_M V) (S : List (xv_V V)) (t0 t1 : Nat) : Option (List (xv_V V) × xv_M V × Nat × Nat) := match S with
  | .inl i :: .inr (.inr (some a)) :: S => match M[a]? with
    | some o => bif Nat.ble t0 o.1 && Nat.ble o.1 t1 then match xv_ix D i o.2.length with
        | some k => match o.2[k]? with
          | some v => some (v :: S, M, 0, 0)
          | none => none
        | none => none
      else none
    | none => none
  | _ => none
def xv_ast {V : Type} (D : xv_D V) (M : xv_M V) (S : List (xv_V V)) (t : Nat) (ty : FieldType) : Option (List (xv_V V) × xv_M V × Nat × Nat) := match S with
  | v :: .inl i :: .inr (.inr (some a)) :: S => match M[a]? with
    | some o => bif Nat.beq o.1 t && xv_fit D ty v then match xv_ix D i o.2.length with
        | some k => some (S, M.set a (o.1, o.2.set k v), 0, 0)
        | none => none
      else none
    | none => none
  | _ => none
/-- a new array: at most 4096 places -/
def xv_newa {V : Type} (D : xv_D V) (M : xv_M V) (S : List (xv_V V)) (t : Nat) (v : xv_V V) : Option (List (xv_V V) × xv_M V × Nat × Nat) := match S with
  | .inl n :: S => match xv_ix D n 4096 with
    | some k => some (.inr (.inr (some M.length)) :: S, M ++ [(t, List.replicate k v)], 1, k)
    | none => none
  | _ => none
/-- instructions of the memory: stack, memory, new cells, new places. ct: the fields of the classes (their types, final or not), at: the classes of the arrays of objects; w: the class's own number, ini: 1 in a constructor -/
def xv_mem {V : Type} (D : xv_D V) (ct : List (List (FieldType × Bool))) (at_ : List Nat) (K : xv_K) (w ini : Nat) (M : xv_M V) (S : List (xv_V V)) : Instr → Option (List (xv_V V) × xv_M V × Nat × Nat)
  | .getfield i => match xv_find K.1 i with
    | some ck => match S with
      | .inr (.inr (some a)) :: S => match M[a]? with
        | some o => bif Nat.beq o.1 (8 + ck.1) then match o.2[ck.2]? with
            | some v => some (v :: S, M, 0, 0)
            | none => none
          else none
        | none => none
      | _ => none
    | none => none
  | .putfield i => match xv_find K.1 i with
    | some ck => match S with
      | v :: .inr (.inr (some a)) :: S => match M[a]? with
        | some o => bif Nat.beq o.1 (8 + ck.1) && Nat.blt ck.2 o.2.length then match ct[ck.1]? with
            | some fs => match fs[ck.2]? with
              | some f => bif xv_fit D f.1 v && (!f.2 || (Nat.beq ini 1 && Nat.beq w ck.1)) then some (S, M.set a (o.1, o.2.set ck.2 v), 0, 0) else none
              | none => none
            | none => none
          else none
        | none => none
      | _ => none
    | none => none
  | .new i => match xv_find K.2.2.1 i with
    | some ci => match ct[ci]? with
      | some fs => bif Nat.blt ci 1000 then some (.inr (.inr (some M.length)) :: S, M ++ [(8 + ci, fs.map (fun f => xv_dflt D f.1))], 1, fs.length) else none
      | none => none
    | none => none
  | .newarray .int => xv_newa D M S 0 (.inl (D.1 0))
  | .newarray .long => xv_newa D M S 1 (.inr (.inl (D.2.1 0)))
  | .newarray .boolean => xv_newa D M S 2 (.inl (D.1 0))
  | .anewarray i => match xv_find K.2.2.1 (70000 + i) with
    | some ci => bif Nat.ble 1000 ci && Nat.blt ci 1003 then xv_newa D M S (ci - 996) (.inr (.inr none)) else none
    | none => none
  | .arraylength => match S with
    | .inr (.inr (some a)) :: S => match M[a]? with
      | some o => bif Nat.blt o.1 7 && Nat.ble o.2.length 4096 then some (.inl (D.1 (Int32.ofNat o.2.length)) :: S, M, 0, 0) else none
      | none => none
    | _ => none
  | .iaload => match xv_ald D M S 0 0 with
    | some r => some r
    | none => xv_ald D M S 3 3
  | .laload => xv_ald D M S 1 1
  | .baload => xv_ald D M S 2 2
  | .aaload => xv_ald D M S 4 6
  | .iastore => xv_ast D M S 0 .int
  | .lastore => xv_ast D M S 1 .long
  | .bastore => xv_ast D M S 2 .boolean
  | .aastore => match S with
    | .inr (.inr (some v)) :: .inl i :: .inr (.inr (some a)) :: S => match M[a]?, M[v]? with
      | some o, some ov => match at_[o.1 - 4]? with
        | some ci => bif Nat.ble 4 o.1 && Nat.blt o.1 7 && Nat.beq ov.1 (8 + ci) then match xv_ix D i o.2.length with
            | some k => some (S, M.set a (o.1, o.2.set k (.inr (.inr (some v)))), 0, 0)
            | none => none
          else none
        | none => none
      | _, _ => none
    | _ => none
  | _ => none
def xv_cats {V : Type} : List (xv_V V) → Nat
  | [] => 0
  | v :: S => xv_cat v + xv_cats S
/-- arraycopy of int arrays -/
def xv_copy {V : Type} (D : xv_D V) (M : xv_M V) (S : List (xv_V V)) : Option (List (xv_V V) × xv_M V) := match S with
  | .inl n :: .inl dp :: .inr (.inr (some b)) :: .inl sp :: .inr (.inr (some a)) :: S => match M[a]?, M[b]? with
    | some oa, some ob => bif Nat.beq oa.1 0 && Nat.beq ob.1 0 && Nat.ble (xv_cats S) 8 then match xv_ix D n 4096, xv_ix D dp 4096, xv_ix D sp 4096 with
        | some n, some dp, some sp => bif Nat.ble (sp + n) oa.2.length && Nat.ble (dp + n) ob.2.length then some (S, M.set b (0, ob.2.take dp ++ ((oa.2.drop sp).take n ++ ob.2.drop (dp + n)))) else none
        | _, _, _ => none
      else none
    | _, _ => none
  | _ => none
/-- a call: the method's number, its arguments (the receiver first), the stack below -/
def xv_arg {V : Type} (ms : List xv_N) (K : xv_K) (M : xv_M V) (S : List (xv_V V)) : Instr → Option (Nat × List (xv_V V) × List (xv_V V))
  | .invokevirtual i => match xv_find K.2.1 i with
    | some (0, j) => match ms[j]? with
      | some y => match S.drop y.2.1.1 with
        | .inr (.inr (some a)) :: R => match M[a]? with
          | some o => bif Nat.beq o.1 (8 + y.1.1) && Nat.ble (xv_cats R) 8 then some (j, .inr (.inr (some a)) :: (S.take y.2.1.1).reverse, R) else none
          | none => none
        | _ => none
      | none => none
    | _ => none
  | .invokespecial i => match xv_find K.2.1 i with
    | some (k, j) => bif Nat.beq k 1 || Nat.beq k 2 then match ms[j]? with
        | some y => match S.drop y.2.1.1 with
          | .inr (.inr (some a)) :: R => bif Nat.ble (xv_cats R) 8 then some (j, .inr (.inr (some a)) :: (S.take y.2.1.1).reverse, R) else none
          | _ => none
        | none => none
      else none
    | none => none
  | .invokestatic i => match xv_find K.2.1 i with
    | some (3, j) => match ms[j]? with
      | some y => bif Nat.ble y.2.1.1 S.length && Nat.ble (xv_cats (S.drop y.2.1.1)) 8 then some (j, (S.take y.2.1.1).reverse, S.drop y.2.1.1) else none
      | none => none
    | _ => none
  | _ => none
/-- calls that are no walk: Object's constructor, arraycopy, charAt of a constant text (sct: their bytes) -/
def xv_nat {V : Type} (D : xv_D V) (sct : List (List Int32)) (K : xv_K) (M : xv_M V) (S : List (xv_V V)) : Instr → Option (List (xv_V V) × xv_M V)
  | .invokespecial i => match xv_find K.2.1 i with
    | some (5, _) => match S with
      | .inr (.inr (some _)) :: S => bif Nat.ble (xv_cats S) 8 then some (S, M) else none
      | _ => none
    | _ => none
  | .invokestatic i => match xv_find K.2.1 i with
    | some (6, _) => xv_copy D M S
    | _ => none
  | .invokevirtual i => match xv_find K.2.1 i with
    | some (4, _) => match S with
      | .inl a :: .inr (.inr (some n)) :: S => match sct[n]? with
        | some cs => match xv_ix D a cs.length with
          | some k => match cs[k]? with
            | some b => bif Nat.ble (xv_cats S) 8 then some (.inl (D.1 (b &&& 255)) :: S, M) else none
            | none => none
          | none => none
        | none => none
      | _ => none
    | _ => none
  | _ => none
/-- ends: what is answered -/
def xv_end {V : Type} (D : xv_D V) (r : Nat) (S : List (xv_V V)) : Instr → Option (Option (xv_V V))
  | .return_ => match S with
    | [] => bif Nat.beq r 0 then some none else none
    | _ => none
  | .ireturn => match S with
    | [.inl a] => bif Nat.beq r 1 || (Nat.beq r 3 && D.2.2.2.2.2 a) then some (some (.inl a)) else none
    | _ => none
  | .lreturn => match S with
    | [.inr (.inl a)] => bif Nat.beq r 2 then some (some (.inr (.inl a))) else none
    | _ => none
  | _ => none
/-- one step of the method y at the instruction (pc, i), then ih; at its end fin -/
def xv_step {V ρ : Type} (D : xv_D V) (ct : List (List (FieldType × Bool))) (at_ : List Nat) (sct : List (List Int32)) (ms : List xv_N) (call : Nat → List (xv_V V) → xv_M V → Option (xv_R V)) (y : xv_N) (fin : Option (xv_V V) → xv_M V → Option ρ)
    (ih : Nat → List xv_I → xv_L V → List (xv_V V) → xv_M V → Nat → Nat → Option ρ) (pc : Nat) (cs : List xv_I) (L : xv_L V) (S : List (xv_V V)) (M : xv_M V) (c s : Nat) : Option ρ := match cs with
  | [] => none
  | q :: cs => bif Nat.beq q.1 pc then match xv_pure D y.1.2 L S q.2 with
      | some LS => ih (pc + xv_len q.2) cs LS.1 LS.2 M c s
      | none => match xv_br D pc S q.2 with
        | some tS => ih tS.1 (xv_to y.2.2.2 tS.1) L tS.2 M c s
        | none => match xv_mem D ct at_ y.1.2 y.1.1 y.2.1.2.2.2 M S q.2 with
          | some T => bif Nat.ble (c + T.2.2.1) y.2.2.1.1 && Nat.ble (s + T.2.2.2) y.2.2.1.2 then ih (pc + xv_len q.2) cs L T.1 T.2.1 (c + T.2.2.1) (s + T.2.2.2) else none
          | none => match xv_arg ms y.1.2 M S q.2 with
            | some A => match ms[A.1]? with
              | some z => bif Nat.ble (c + z.2.2.1.1) y.2.2.1.1 && Nat.ble (s + z.2.2.1.2) y.2.2.1.2 then match call A.1 A.2.1 M with
                  | some r => ih (pc + 3) cs L (r.1.toList ++ A.2.2) r.2 (c + z.2.2.1.1) (s + z.2.2.1.2)
                  | none => none
                else none
              | none => none
            | none => match xv_nat D sct y.1.2 M S q.2 with
              | some T => ih (pc + 3) cs L T.1 T.2 c s
              | none => match xv_end D y.2.1.2.2.1 S q.2 with
                | some r => fin r M
                | none => none
    else none
noncomputable def xv_loop {V : Type} (D : xv_D V) (ct : List (List (FieldType × Bool))) (at_ : List Nat) (sct : List (List Int32)) (ms : List xv_N) (call : Nat → List (xv_V V) → xv_M V → Option (xv_R V)) (y : xv_N) : Nat → Nat → List xv_I → xv_L V → List (xv_V V) → xv_M V → Nat → Nat → Option (xv_R V) :=
  Nat.rec (fun _ _ _ _ _ _ _ => none) (fun _ ih => xv_step D ct at_ sct ms call y (fun r M => some (r, M)) ih)
/-- the same up to the instruction at stop: at least one step -/
noncomputable def xv_seg {V : Type} (D : xv_D V) (ct : List (List (FieldType × Bool))) (at_ : List Nat) (sct : List (List Int32)) (ms : List xv_N) (call : Nat → List (xv_V V) → xv_M V → Option (xv_R V)) (y : xv_N) (stop : Nat) : Nat → Nat → List xv_I → xv_L V → List (xv_V V) → xv_M V → Nat → Nat → Option (xv_L V × List (xv_V V) × xv_M V × Nat × Nat) :=
  Nat.rec (fun _ _ _ _ _ _ _ => none) (fun _ ih => xv_step D ct at_ sct ms call y (fun _ _ => none) (fun pc cs L S M c s => bif Nat.beq pc stop then some (L, S, M, c, s) else ih pc cs L S M c s))
/-- the locals at the entry -/
def xv_in {V : Type} : List (xv_V V) → Nat → xv_L V
  | [], n => List.replicate n none
  | v :: r, n => match v with
    | .inr (.inl a) => some (.inr (.inl a)) :: none :: xv_in r (n - 2)
    | v => some v :: xv_in r (n - 1)
/-- what the method j does: at most so many calls deep; ext: what is known of a call already -/
noncomputable def xv_run {V : Type} (D : xv_D V) (ct : List (List (FieldType × Bool))) (at_ : List Nat) (sct : List (List Int32)) (ms : List xv_N) (ext : Nat → Nat → List (xv_V V) → xv_M V → Option (xv_R V)) (fuel : Nat) : Nat → Nat → List (xv_V V) → xv_M V → Option (xv_R V) :=
  Nat.rec (fun _ _ _ => none) (fun d ih j as M => match ext (d + 1) j as M with
    | some r => some r
    | none => match ms[j]? with
      | some y => bif Nat.ble (xv_cats as) y.2.1.2.1 then xv_loop D ct at_ sct ms ih y fuel 0 y.2.2.2 (xv_in as y.2.1.2.1) [] M 0 0 else none
      | none => none)
end
section
/-! THE RELATION between the pure machine and the kit's worlds. φ: the addresses of the cells, by their numbers. -/
def xr_v {V : Type} (g : V → Value → Prop) (φ : List Nat) : xv_V V → Value → Prop
  | .inl a, x => ∃ n : Int32, x = .int n ∧ g a (.int n)
  | .inr (.inl a), x => ∃ n : Int64, x = .long n ∧ g a (.long n)
  | .inr (.inr none), x => x = .null
  | .inr (.inr (some k)), x => ∃ q : Nat, φ[k]? = some q ∧ x = .ref q
def xr_s {V : Type} (g : V → Value → Prop) (φ : List Nat) : List (xv_V V) → List Value → Prop
  | [], st => st = []
  | v :: S, st => ∃ (x : Value) (r : List Value), st = x :: r ∧ xr_v g φ v x ∧ xr_s g φ S r
def xr_l {V : Type} (g : V → Value → Prop) (φ : List Nat) (L : xv_L V) (ls : Array Slot) (nL : Nat) : Prop :=
  L.length = nL ∧ ∃ lv : List (Nat × Value), lv_has ls nL lv ∧ ∀ (i : Nat) (v : xv_V V), L[i]? = some (some v) → ∃ x : Value, (i, x) ∈ lv ∧ xr_v g φ v x
def xr_e {V : Type} (g : V → Value → Prop) (φ : List Nat) (tys : List (ClassId × FieldType)) (o : xv_O V) (E : va_E) : Prop :=
  (8 ≤ o.1 ∧ ∃ fs : List Value, E = .inr (o.1 - 8, fs) ∧ fs.length = o.2.length ∧ ∀ (j : Nat) (v : xv_V V), o.2[j]? = some v → ∃ x : Value, fs[j]? = some x ∧ xr_v g φ v x) ∨
  (∃ (cA : ClassId) (ty : FieldType), tys[o.1]? = some (cA, ty) ∧
    (((o.1 = 0 ∨ o.1 = 2) ∧ ∃ f : Nat → Int32, E = .inl (cA, o.2.length, .inl f) ∧ ∀ (j : Nat) (v : xv_V V), o.2[j]? = some v → xr_v g φ v (.int (f j))) ∨
     (o.1 = 1 ∧ ∃ f : Nat → Int64, E = .inl (cA, o.2.length, .inr (.inl f)) ∧ ∀ (j : Nat) (v : xv_V V), o.2[j]? = some v → xr_v g φ v (.long (f j))) ∨
     ((4 ≤ o.1 ∧ o.1 < 7) ∧ ∃ f : Nat → Option Nat, E = .inl (cA, o.2.length, .inr (.inr (.inr (.inr f)))) ∧ ∀ (j : Nat) (v : xv_V V), o.2[j]? = some v → xr_v g φ v (va_rf (f j)))))
/-- the memory: C says what a constant cell holds; the constant cells are the first ones -/
def xr_m {V : Type} (C : Nat → xv_O V → Prop) (g : V → Value → Prop) (φ : List Nat) (tys : List (ClassId × FieldType)) (M : xv_M V) (ws : va_W) : Prop :=
  ∃ pre : List Nat, pre ++ ws.map (·.1) = φ ∧ M.length = φ.length ∧ (∀ (k : Nat) (o : xv_O V), M[k]? = some o → o.1 ≠ 7 → o.1 ≠ 3 → pre.length ≤ k ∧ ∃ (q : Nat) (E : va_E), ws[k - pre.length]? = some (q, E) ∧ xr_e g φ tys o E) ∧ ∀ (k : Nat) (o : xv_O V), M[k]? = some o → o.1 = 3 → C k o
def xv_semI : Nat → Int32 → Int32 → Option Int32
  | 0, x, y => some (x + y)
  | 1, x, y => some (x - y)
  | 2, x, y => some (x * y)
  | 3, x, y => some (x &&& y)
  | 4, x, y => some (x ||| y)
  | 5, x, y => some (x <<< (y &&& 31))
  | 6, x, y => some (x >>> (y &&& 31))
  | 7, x, y => some ((x.toUInt32 >>> (y.toUInt32 &&& Int32.toUInt32 31)).toInt32)
  | 8, x, y => if y = 0 then none else some (x / y)
  | 9, x, y => if y = 0 then none else some (x - x / y * y)
  | 10, x, _ => some (-x)
  | _, _, _ => none
def xv_semL : Nat → Int64 → Int64 → Option Int64
  | 0, x, y => some (x + y)
  | 1, x, y => some (x - y)
  | 2, x, y => some (x * y)
  | 3, x, y => some (x &&& y)
  | 4, x, y => some (x ||| y)
  | 5, x, y => if y = 0 then none else some (x / y)
  | 6, x, y => if y = 0 then none else some (x - x / y * y)
  | 7, x, _ => some (-x)
  | _, _, _ => none
def xv_cmp : Nat → Int32 → Int32 → Bool
  | 0, x, y => decide (x = y)
  | 1, x, y => !decide (x = y)
  | 2, x, y => decide (x < y)
  | 3, x, y => decide (y ≤ x)
  | 4, x, y => decide (y < x)
  | _, x, y => decide (x ≤ y)
/-- the domain's operations are right -/
def xv_ok {V : Type} (D : xv_D V) (g : V → Value → Prop) : Prop :=
  (∀ n : Int32, g (D.1 n) (.int n)) ∧ (∀ n : Int64, g (D.2.1 n) (.long n)) ∧
  (∀ (o : Nat) (a b r : V) (x y : Int32), o < 20 → D.2.2.1 o a b = some r → g a (.int x) → g b (.int y) → ∃ z, xv_semI o x y = some z ∧ g r (.int z)) ∧
  (∀ (o : Nat) (a b r : V) (x y : Int64), o < 10 → D.2.2.1 (o + 20) a b = some r → g a (.long x) → g b (.long y) → ∃ z, xv_semL o x y = some z ∧ g r (.long z)) ∧
  (∀ (a b r : V) (x : Int64) (y : Int32), D.2.2.1 30 a b = some r → g a (.long x) → g b (.int y) → g r (.long (x <<< (y.toInt64 &&& 63)))) ∧
  (∀ (a b r : V) (x : Int64) (y : Int32), D.2.2.1 31 a b = some r → g a (.long x) → g b (.int y) → g r (.long (x >>> (y.toInt64 &&& 63)))) ∧
  (∀ (a b r : V) (x : Int32), D.2.2.1 40 a b = some r → g a (.int x) → g r (.long x.toInt64)) ∧
  (∀ (a b r : V) (x : Int64), D.2.2.1 41 a b = some r → g a (.long x) → g r (.int x.toInt32)) ∧
  (∀ (a b r : V) (x y : Int64), D.2.2.1 42 a b = some r → g a (.long x) → g b (.long y) → g r (.int (lg_cmp x y))) ∧
  (∀ (o : Nat) (a b : V) (t : Bool) (x y : Int32), D.2.2.2.1 o a b = some t → g a (.int x) → g b (.int y) → xv_cmp o x y = t) ∧
  (∀ (a : V) (n : Int) (x : Int32), D.2.2.2.2.1 a = some n → g a (.int x) → x.toInt = n) ∧
  (∀ (a : V) (x : Int32), D.2.2.2.2.2 a = true → g a (.int x) → x = 0 ∨ x = 1)
section XRM
variable {V : Type} {g : V → Value → Prop} {φ : List Nat}
theorem xr_v_mono {t : List Nat} : ∀ {v : xv_V V} {x : Value}, xr_v g φ v x → xr_v g (φ ++ t) v x
  | .inl _, _, h => h
  | .inr (.inl _), _, h => h
  | .inr (.inr none), _, h => h
  | .inr (.inr (some k)), _, ⟨q, hq, hx⟩ => ⟨q, by
      have hk : k < φ.length := (List.getElem?_eq_some_iff.mp hq).1
      rw [List.getElem?_append_left hk]; exact hq, hx⟩
theorem xr_s_mono {t : List Nat} : ∀ {S : List (xv_V V)} {st : List Value}, xr_s g φ S st → xr_s g (φ ++ t) S st
  | [], _, h => h
  | _ :: _, _, ⟨x, r, e, h, k⟩ => ⟨x, r, e, xr_v_mono h, xr_s_mono k⟩
theorem xr_l_mono {t : List Nat} {L : xv_L V} {ls : Array Slot} {nL : Nat} (h : xr_l g φ L ls nL) : xr_l g (φ ++ t) L ls nL :=
  ⟨h.1, h.2.choose, h.2.choose_spec.1, fun i v hv => by
    obtain ⟨x, hx, hr⟩ := h.2.choose_spec.2 i v hv
    exact ⟨x, hx, xr_v_mono hr⟩⟩
theorem xr_v_cat : ∀ {v : xv_V V} {x : Value}, xr_v g φ v x → x.category = xv_cat v
  | .inl _, _, ⟨_, h, _⟩ => by rw [h]; rfl
  | .inr (.inl _), _, ⟨_, h, _⟩ => by rw [h]; rfl
  | .inr (.inr none), _, h => by rw [show _ = Value.null from h]; rfl
  | .inr (.inr (some _)), _, ⟨_, _, h⟩ => by rw [h]; rfl
theorem xr_s_cats : ∀ {S : List (xv_V V)} {st : List Value}, xr_s g φ S st → (st.map fun v => v.category).sum = xv_cats S
  | [], _, h => by rw [show _ = ([] : List Value) from h]; rfl
  | _ :: _, _, ⟨x, r, e, h, k⟩ => by rw [e, List.map_cons, List.sum_cons, xr_v_cat h, xr_s_cats k]; rfl
theorem xr_l_at {L : xv_L V} {ls : Array Slot} {nL i : Nat} {v : xv_V V} (h : xr_l g φ L ls nL) (hi : L[i]? = some (some v)) : ∃ x : Value, ls[i]? = some (.val x) ∧ xr_v g φ v x := by
  obtain ⟨-, lv, h1, h2⟩ := h
  obtain ⟨x, hx, hr⟩ := h2 i v hi
  exact ⟨x, h1.2.2 (i, x) hx, hr⟩
theorem xv_kill_len (L : xv_L V) (i : Nat) : (xv_kill L i).length = L.length := by
  cases i with
  | zero => rfl
  | succ j =>
    simp only [xv_kill]
    split
    · rw [List.length_set]
    · rfl
/-- what is left behind a store at i -/
theorem xv_kill_at {L : xv_L V} {i j : Nat} {w : xv_V V} (h : (xv_kill L i)[j]? = some (some w)) : L[j]? = some (some w) ∧ (j + 1 = i → xv_cat w = 1) := by
  cases i with
  | zero => exact ⟨h, fun q => by omega⟩
  | succ k =>
    simp only [xv_kill] at h
    split at h
    · rename_i a hk
      rw [List.getElem?_set] at h
      split at h
      · split at h <;> simp at h
      · rename_i hne
        exact ⟨h, fun q => absurd (by omega : k = j) hne⟩
    · rename_i hk
      refine ⟨h, fun q => ?_⟩
      have e : j = k := by omega
      subst e
      match w, h with
      | .inl _, _ => rfl
      | .inr (.inr _), _ => rfl
      | .inr (.inl a), h => exact absurd h (hk a)
theorem xr_l_put1 {L : xv_L V} {nL i : Nat} {v : xv_V V} {x : Value} {lv : List (Nat × Value)} {ls' : Array Slot} (hL : L.length = nL) (h2 : ∀ (i : Nat) (v : xv_V V), L[i]? = some (some v) → ∃ x : Value, (i, x) ∈ lv ∧ xr_v g φ v x) (hv : xr_v g φ v x)
    (h' : lv_has ls' nL ((i, x) :: lv.filter (fun q => !(q.1 == i) && !(q.1 + 1 == i && q.2.category == 2)))) : xr_l g φ (xv_put1 L i v) ls' nL := by
  refine ⟨by rw [xv_put1, List.length_set, xv_kill_len, hL], _, h', fun j w hw => ?_⟩
  rw [xv_put1, List.getElem?_set] at hw
  split at hw
  · rename_i e
    subst e
    split at hw
    · have e2 : v = w := by simpa using hw
      subst e2
      exact ⟨x, List.mem_cons_self, hv⟩
    · simp at hw
  · rename_i hne
    obtain ⟨hw, hc⟩ := xv_kill_at hw
    obtain ⟨y, hy, hr⟩ := h2 j w hw
    refine ⟨y, List.mem_cons_of_mem _ (List.mem_filter.mpr ⟨hy, ?_⟩), hr⟩
    have hcat := xr_v_cat hr
    by_cases hj : j + 1 = i
    · have h1 := hc hj
      have : ¬ j = i := fun q => hne q.symm
      simp [this, hcat, h1]
    · have : ¬ j = i := fun q => hne q.symm
      simp [this, hj]
theorem xr_l_put2 {L : xv_L V} {nL i : Nat} {v : xv_V V} {x : Value} {lv : List (Nat × Value)} {ls' : Array Slot} (hL : L.length = nL) (h2 : ∀ (i : Nat) (v : xv_V V), L[i]? = some (some v) → ∃ x : Value, (i, x) ∈ lv ∧ xr_v g φ v x) (hv : xr_v g φ v x)
    (h' : lv_has ls' nL ((i, x) :: lv.filter (fun q => !(q.1 == i) && (!(q.1 == i + 1) && !(q.1 + 1 == i && q.2.category == 2))))) : xr_l g φ (xv_put2 L i v) ls' nL := by
  refine ⟨by rw [xv_put2, List.length_set, List.length_set, xv_kill_len, hL], _, h', fun j w hw => ?_⟩
  rw [xv_put2, List.getElem?_set] at hw
  split at hw
  · rename_i e
    subst e
    split at hw
    · have e2 : v = w := by simpa using hw
      subst e2
      exact ⟨x, List.mem_cons_self, hv⟩
    · simp at hw
  · rename_i hne
    rw [List.getElem?_set] at hw
    split at hw
    · split at hw <;> simp at hw
    · rename_i hne2
      obtain ⟨hw, hc⟩ := xv_kill_at hw
      obtain ⟨y, hy, hr⟩ := h2 j w hw
      refine ⟨y, List.mem_cons_of_mem _ (List.mem_filter.mpr ⟨hy, ?_⟩), hr⟩
      have hcat := xr_v_cat hr
      have n1 : ¬ j = i := fun q => hne q.symm
      have n2 : ¬ j = i + 1 := fun q => hne2 q.symm
      by_cases hj : j + 1 = i
      · have h1 := hc hj
        simp [n1, n2, hcat, h1]
      · simp [n1, n2, hj]
end XRM
end
section
section XSP
variable {p : Program} {l : Launch} {e : Env} {R : Room} {s : State} {m : MethodId} {args : Array Value} {below : List Frame} {meth : Method} {c : Code} {H : Heap} {locs : List Loc} {cells slots : Nat} {Q : State → Prop}
variable {cc : ByteArray} {pc : Nat} {V : Type} {D : xv_D V} {g : V → Value → Prop} {φ : List Nat} {nL : Nat} {L L' : xv_L V} {S S' : List (xv_V V)} {ls : Array Slot} {st : List Value}
theorem xs_ld {t i : Nat} (h : xv_ld L S t i = some (L', S')) (hl : xr_l g φ L ls nL) : L' = L ∧ ∃ (v : xv_V V) (x : Value), S' = v :: S ∧ ls[i]? = some (.val x) ∧ xr_v g φ v x ∧ ((t = 0 → ∃ a, v = .inl a) ∧ (t = 1 → ∃ a, v = .inr (.inl a)) ∧ (t = 2 → ∃ k, v = .inr (.inr (some k)))) := by
  unfold xv_ld at h
  split at h
  · rename_i a ha
    obtain ⟨x, h1, h2⟩ := xr_l_at hl ha
    cases ht : Nat.beq t 0 <;> simp [ht] at h
    obtain ⟨rfl, rfl⟩ := h
    have e := Nat.eq_of_beq_eq_true ht
    exact ⟨rfl, _, x, rfl, h1, h2, fun _ => ⟨a, rfl⟩, fun q => by omega, fun q => by omega⟩
  · rename_i a ha
    obtain ⟨x, h1, h2⟩ := xr_l_at hl ha
    cases ht : Nat.beq t 1 <;> simp [ht] at h
    obtain ⟨rfl, rfl⟩ := h
    have e := Nat.eq_of_beq_eq_true ht
    exact ⟨rfl, _, x, rfl, h1, h2, fun q => by omega, fun _ => ⟨a, rfl⟩, fun q => by omega⟩
  · rename_i a ha
    obtain ⟨x, h1, h2⟩ := xr_l_at hl ha
    cases ht : Nat.beq t 2 <;> simp [ht] at h
    obtain ⟨rfl, rfl⟩ := h
    have e := Nat.eq_of_beq_eq_true ht
    exact ⟨rfl, _, x, rfl, h1, h2, fun q => by omega, fun q => by omega, fun _ => ⟨a, rfl⟩⟩
  · cases h
theorem xs_sto0 {i : Nat} (h : xv_sto L S 0 i = some (L', S')) : ∃ a, S = .inl a :: S' ∧ i < L.length ∧ L' = xv_put1 L i (.inl a) := by
  unfold xv_sto at h
  split at h
  · rename_i a S1
    cases ht : Nat.blt i L.length <;> simp [ht, show Nat.beq 0 0 = true from rfl] at h
    obtain ⟨rfl, rfl⟩ := h
    exact ⟨a, rfl, Nat.le_of_ble_eq_true ht, rfl⟩
  · simp [show Nat.beq 0 1 = false from rfl] at h
  · simp [show Nat.beq 0 2 = false from rfl] at h
  · cases h
theorem xs_sto1 {i : Nat} (h : xv_sto L S 1 i = some (L', S')) : ∃ a, S = .inr (.inl a) :: S' ∧ i + 1 < L.length ∧ L' = xv_put2 L i (.inr (.inl a)) := by
  unfold xv_sto at h
  split at h
  · simp [show Nat.beq 1 0 = false from rfl] at h
  · rename_i a S1
    cases ht : Nat.blt (i + 1) L.length <;> simp [ht, show Nat.beq 1 1 = true from rfl] at h
    obtain ⟨rfl, rfl⟩ := h
    exact ⟨a, rfl, Nat.le_of_ble_eq_true ht, rfl⟩
  · simp [show Nat.beq 1 2 = false from rfl] at h
  · cases h
theorem xs_sto2 {i : Nat} (h : xv_sto L S 2 i = some (L', S')) : ∃ a, S = .inr (.inr (some a)) :: S' ∧ i < L.length ∧ L' = xv_put1 L i (.inr (.inr (some a))) := by
  unfold xv_sto at h
  split at h
  · simp [show Nat.beq 2 0 = false from rfl] at h
  · simp [show Nat.beq 2 1 = false from rfl] at h
  · rename_i a S1
    cases ht : Nat.blt i L.length <;> simp [ht, show Nat.beq 2 2 = true from rfl] at h
    obtain ⟨rfl, rfl⟩ := h
    exact ⟨a, rfl, Nat.le_of_ble_eq_true ht, rfl⟩
  · cases h
theorem xs_i2 (hD : xv_ok D g) {o : Nat} (ho : o < 20) (h : xv_i2 D o L S = some (L', S')) (hs : xr_s g φ S st) : L' = L ∧ ∃ (r : V) (S1 : List (xv_V V)) (x y z : Int32) (rest : List Value), S' = .inl r :: S1 ∧ st = .int y :: .int x :: rest ∧ xr_s g φ S1 rest ∧ xv_semI o x y = some z ∧ g r (.int z) := by
  unfold xv_i2 at h
  split at h
  · rename_i b a S1
    obtain ⟨_, r1, rfl, ⟨y, rfl, hy⟩, _, r2, rfl, ⟨x, rfl, hx⟩, hr⟩ := hs
    split at h
    · rename_i r hr2
      obtain ⟨rfl, rfl⟩ := by simpa using h
      obtain ⟨z, hz, hg⟩ := hD.2.2.1 o a b r x y ho hr2 hx hy
      exact ⟨rfl, r, S1, x, y, z, r2, rfl, rfl, hr, hz, hg⟩
    · cases h
  · cases h
theorem xs_l2 (hD : xv_ok D g) {o : Nat} (ho : o < 10) (h : xv_l2 D (o + 20) L S = some (L', S')) (hs : xr_s g φ S st) : L' = L ∧ ∃ (r : V) (S1 : List (xv_V V)) (x y z : Int64) (rest : List Value), S' = .inr (.inl r) :: S1 ∧ st = .long y :: .long x :: rest ∧ xr_s g φ S1 rest ∧ xv_semL o x y = some z ∧ g r (.long z) := by
  unfold xv_l2 at h
  split at h
  · rename_i b a S1
    obtain ⟨_, r1, rfl, ⟨y, rfl, hy⟩, _, r2, rfl, ⟨x, rfl, hx⟩, hr⟩ := hs
    split at h
    · rename_i r hr2
      obtain ⟨rfl, rfl⟩ := by simpa using h
      obtain ⟨z, hz, hg⟩ := hD.2.2.2.1 o a b r x y ho hr2 hx hy
      exact ⟨rfl, r, S1, x, y, z, r2, rfl, rfl, hr, hz, hg⟩
    · cases h
  · cases h
theorem xs_s2 {o : Nat} (h : xv_s2 D o L S = some (L', S')) (hs : xr_s g φ S st) : L' = L ∧ ∃ (a b r : V) (S1 : List (xv_V V)) (x : Int64) (y : Int32) (rest : List Value), S' = .inr (.inl r) :: S1 ∧ st = .int y :: .long x :: rest ∧ xr_s g φ S1 rest ∧ D.2.2.1 o a b = some r ∧ g a (.long x) ∧ g b (.int y) := by
  unfold xv_s2 at h
  split at h
  · rename_i b a S1
    obtain ⟨_, r1, rfl, ⟨y, rfl, hy⟩, _, r2, rfl, ⟨x, rfl, hx⟩, hr⟩ := hs
    split at h
    · rename_i r hr2
      obtain ⟨rfl, rfl⟩ := by simpa using h
      exact ⟨rfl, a, b, r, S1, x, y, r2, rfl, rfl, hr, hr2, hx, hy⟩
    · cases h
  · cases h
end XSP
end
section
section XSQ
variable {p : Program} {l : Launch} {e : Env} {R : Room} {s : State} {m : MethodId} {args : Array Value} {below : List Frame} {meth : Method} {c : Code} {H : Heap} {locs : List Loc} {cells slots : Nat} {Q : State → Prop}
variable {cc : ByteArray} {pc : Nat} {V : Type} {D : xv_D V} {g : V → Value → Prop} {φ : List Nat} {nL : Nat} {L L' : xv_L V} {S S' : List (xv_V V)} {ls : Array Slot} {st : List Value}
set_option maxHeartbeats 4000000 in
/-- THE INSTRUCTIONS OF LOCALS AND STACK -/
theorem xs_pure (hx : p.tables.exec = Jvm.exec) (hb : c.code = cc) {own : String} (hown : s.vm.findClass own = some m.cls) (hD : xv_ok D g) {K : xv_K}
    (hKi : ∀ (i : Nat) (v : Int32), xv_find K.2.2.2.1 i = some v → (Jvm.Cond.constant own i v).before args s = true) (hKl : ∀ (i : Nat) (v : Int64), xv_find K.2.2.2.2 i = some v → (Jvm.Cond.constantLong own i v).before args s = true)
    (hKs : ∀ (i n : Nat), xv_find K.2.2.1 i = some n → 2000 ≤ n → ∃ (tx : String) (q : Nat), vk_R own i tx q s ∧ φ[n - 2000]? = some q)
    {i : Instr} (h : xv_pure D K L S i = some (L', S')) (hdg : decode cc pc = .ok (i, xv_len i)) (hl : xr_l g φ L ls nL) (hs : xr_s g φ S st)
    (kk : ∀ (ls' : Array Slot) (st' : List Value), xr_l g φ L' ls' nL → xr_s g φ S' st' → W p l e R s m args below meth c H locs cells slots Q (F0 m (pc + xv_len i) ls' st')) :
    W p l e R s m args below meth c H locs cells slots Q (F0 m pc ls st) := by
  cases i
  all_goals (first | (simp only [xv_pure, reduceCtorEq] at h; done) | skip)

  case bipush n =>
    obtain ⟨rfl, rfl⟩ := by simpa [xv_pure] using h
    exact lv_bipush hx hb hdg rfl (kk _ _ hl ⟨_, _, rfl, ⟨_, rfl, hD.1 _⟩, hs⟩)
  case iconst n =>
    obtain ⟨rfl, rfl⟩ := by simpa [xv_pure] using h
    exact lv_iconst hx hb hdg rfl (kk _ _ hl ⟨_, _, rfl, ⟨_, rfl, hD.1 _⟩, hs⟩)
  case sipush n =>
    obtain ⟨rfl, rfl⟩ := by simpa [xv_pure] using h
    exact lv_sipush hx hb hdg rfl (kk _ _ hl ⟨_, _, rfl, ⟨_, rfl, hD.1 _⟩, hs⟩)
  case lconst n =>
    obtain ⟨rfl, rfl⟩ := by simpa [xv_pure] using h
    exact lv_lconst hx hb hdg rfl (kk _ _ hl ⟨_, _, rfl, ⟨_, rfl, hD.2.1 _⟩, hs⟩)
  case ldc n =>
    simp only [xv_pure] at h
    split at h
    · rename_i v hv
      obtain ⟨rfl, rfl⟩ := by simpa using h
      exact lv_ldc hx hb hown (hKi _ _ hv) hdg (kk _ _ hl ⟨_, _, rfl, ⟨_, rfl, hD.1 _⟩, hs⟩)
    · split at h
      · rename_i k hk
        cases h2 : Nat.ble 2000 k <;> simp only [h2, cond_true, cond_false] at h
        · cases h
        obtain ⟨rfl, rfl⟩ := by simpa using h
        obtain ⟨tx, q, hR, hq⟩ := hKs _ _ hk (Nat.le_of_ble_eq_true h2)
        exact va_ldcS hx hb hown hR hdg (kk _ _ hl ⟨_, _, rfl, ⟨q, hq, rfl⟩, hs⟩)
      · cases h
  case ldc2_w n =>
    simp only [xv_pure] at h
    split at h
    · rename_i v hv
      obtain ⟨rfl, rfl⟩ := by simpa using h
      exact lv_ldc2 hx hb hown (hKl _ _ hv) hdg (kk _ _ hl ⟨_, _, rfl, ⟨_, rfl, hD.2.1 _⟩, hs⟩)
    · cases h
  case iload_n k =>
    simp only [xv_pure] at h
    obtain ⟨rfl, v, x, rfl, h1, h2, hv⟩ := xs_ld h hl
    obtain ⟨a, rfl⟩ := hv.1 rfl
    obtain ⟨n, rfl, hn⟩ := h2
    exact lv_iload_n hx hb hdg rfl h1 (kk _ _ hl ⟨_, _, rfl, ⟨n, rfl, hn⟩, hs⟩)
  case iload k =>
    simp only [xv_pure] at h
    obtain ⟨rfl, v, x, rfl, h1, h2, hv⟩ := xs_ld h hl
    obtain ⟨a, rfl⟩ := hv.1 rfl
    obtain ⟨n, rfl, hn⟩ := h2
    exact lv_iload hx hb hdg h1 (kk _ _ hl ⟨_, _, rfl, ⟨n, rfl, hn⟩, hs⟩)
  case lload_n k =>
    simp only [xv_pure] at h
    obtain ⟨rfl, v, x, rfl, h1, h2, hv⟩ := xs_ld h hl
    obtain ⟨a, rfl⟩ := hv.2.1 rfl
    obtain ⟨n, rfl, hn⟩ := h2
    exact lv_lload_n hx hb hdg rfl h1 (kk _ _ hl ⟨_, _, rfl, ⟨n, rfl, hn⟩, hs⟩)
  case lload k =>
    simp only [xv_pure] at h
    obtain ⟨rfl, v, x, rfl, h1, h2, hv⟩ := xs_ld h hl
    obtain ⟨a, rfl⟩ := hv.2.1 rfl
    obtain ⟨n, rfl, hn⟩ := h2
    exact lv_lload hx hb hdg h1 (kk _ _ hl ⟨_, _, rfl, ⟨n, rfl, hn⟩, hs⟩)
  case aload_n k =>
    simp only [xv_pure] at h
    obtain ⟨rfl, v, x, rfl, h1, h2, hv⟩ := xs_ld h hl
    obtain ⟨a, rfl⟩ := hv.2.2 rfl
    obtain ⟨q, hq, rfl⟩ := h2
    exact lv_aload_n hx hb hdg rfl h1 (kk _ _ hl ⟨_, _, rfl, ⟨q, hq, rfl⟩, hs⟩)
  case aload k =>
    simp only [xv_pure] at h
    obtain ⟨rfl, v, x, rfl, h1, h2, hv⟩ := xs_ld h hl
    obtain ⟨a, rfl⟩ := hv.2.2 rfl
    obtain ⟨q, hq, rfl⟩ := h2
    exact lv_aload hx hb hdg h1 (kk _ _ hl ⟨_, _, rfl, ⟨q, hq, rfl⟩, hs⟩)
  case istore_n k =>
    simp only [xv_pure] at h
    obtain ⟨a, rfl, hi, rfl⟩ := xs_sto0 h
    obtain ⟨_, r, rfl, ⟨n, rfl, hn⟩, hr⟩ := hs
    obtain ⟨hL, lv, h1, h2⟩ := hl
    exact lv_istore_n hx hb hdg rfl h1 (by rw [← hL]; exact hi) rfl (fun ls' h3 => kk _ _ (xr_l_put1 hL h2 ⟨n, rfl, hn⟩ h3) hr)
  case istore k =>
    simp only [xv_pure] at h
    obtain ⟨a, rfl, hi, rfl⟩ := xs_sto0 h
    obtain ⟨_, r, rfl, ⟨n, rfl, hn⟩, hr⟩ := hs
    obtain ⟨hL, lv, h1, h2⟩ := hl
    exact lv_istore hx hb hdg h1 (by rw [← hL]; exact hi) rfl (fun ls' h3 => kk _ _ (xr_l_put1 hL h2 ⟨n, rfl, hn⟩ h3) hr)
  case lstore_n k =>
    simp only [xv_pure] at h
    obtain ⟨a, rfl, hi, rfl⟩ := xs_sto1 h
    obtain ⟨_, r, rfl, ⟨n, rfl, hn⟩, hr⟩ := hs
    obtain ⟨hL, lv, h1, h2⟩ := hl
    exact lv_lstore_n hx hb hdg rfl h1 (by rw [← hL]; exact hi) rfl (fun ls' h3 => kk _ _ (xr_l_put2 hL h2 ⟨n, rfl, hn⟩ h3) hr)
  case lstore k =>
    simp only [xv_pure] at h
    obtain ⟨a, rfl, hi, rfl⟩ := xs_sto1 h
    obtain ⟨_, r, rfl, ⟨n, rfl, hn⟩, hr⟩ := hs
    obtain ⟨hL, lv, h1, h2⟩ := hl
    exact lv_lstore hx hb hdg h1 (by rw [← hL]; exact hi) rfl (fun ls' h3 => kk _ _ (xr_l_put2 hL h2 ⟨n, rfl, hn⟩ h3) hr)
  case astore_n k =>
    simp only [xv_pure] at h
    obtain ⟨a, rfl, hi, rfl⟩ := xs_sto2 h
    obtain ⟨_, r, rfl, ⟨q, hq, rfl⟩, hr⟩ := hs
    obtain ⟨hL, lv, h1, h2⟩ := hl
    exact lv_astore_n hx hb hdg rfl h1 (by rw [← hL]; exact hi) rfl (fun ls' h3 => kk _ _ (xr_l_put1 hL h2 ⟨q, hq, rfl⟩ h3) hr)
  case astore k =>
    simp only [xv_pure] at h
    obtain ⟨a, rfl, hi, rfl⟩ := xs_sto2 h
    obtain ⟨_, r, rfl, ⟨q, hq, rfl⟩, hr⟩ := hs
    obtain ⟨hL, lv, h1, h2⟩ := hl
    exact lv_astore hx hb hdg h1 (by rw [← hL]; exact hi) rfl (fun ls' h3 => kk _ _ (xr_l_put1 hL h2 ⟨q, hq, rfl⟩ h3) hr)
  case iinc k n =>
    simp only [xv_pure] at h
    unfold xv_iinc at h
    split at h
    · rename_i a ha
      split at h
      · rename_i r hr
        obtain ⟨rfl, rfl⟩ := by simpa using h
        obtain ⟨hL, lv, h1, h2⟩ := hl
        obtain ⟨_, hm, n0, rfl, hn⟩ := h2 k _ ha
        obtain ⟨z, hz, hg⟩ := hD.2.2.1 0 _ _ _ n0 (Int32.ofInt n) (by decide) hr hn (hD.1 _)
        obtain rfl : n0 + Int32.ofInt n = z := by simpa [xv_semI] using hz
        obtain ⟨j, hj⟩ := List.getElem?_of_mem hm
        have hk : k < nL := by rw [← hL]; exact (List.getElem?_eq_some_iff.mp ha).1
        exact lv_iinc hx hb hdg h1 hj rfl hk rfl (fun ls' h3 => kk _ _ (xr_l_put1 hL h2 ⟨_, rfl, hg⟩ h3) hs)
      · cases h
    · cases h
  case iadd =>
    simp only [xv_pure] at h
    obtain ⟨rfl, r, S1, x, y, z, rest, rfl, rfl, hr, hz, hg⟩ := xs_i2 hD (by decide) h hs
    cases Option.some.inj hz
    exact lv_iadd hx hb hdg (kk _ _ hl ⟨_, _, rfl, ⟨_, rfl, hg⟩, hr⟩)
  case isub =>
    simp only [xv_pure] at h
    obtain ⟨rfl, r, S1, x, y, z, rest, rfl, rfl, hr, hz, hg⟩ := xs_i2 hD (by decide) h hs
    cases Option.some.inj hz
    exact lv_isub hx hb hdg (kk _ _ hl ⟨_, _, rfl, ⟨_, rfl, hg⟩, hr⟩)
  case imul =>
    simp only [xv_pure] at h
    obtain ⟨rfl, r, S1, x, y, z, rest, rfl, rfl, hr, hz, hg⟩ := xs_i2 hD (by decide) h hs
    cases Option.some.inj hz
    exact lv_imul hx hb hdg (kk _ _ hl ⟨_, _, rfl, ⟨_, rfl, hg⟩, hr⟩)
  case iand =>
    simp only [xv_pure] at h
    obtain ⟨rfl, r, S1, x, y, z, rest, rfl, rfl, hr, hz, hg⟩ := xs_i2 hD (by decide) h hs
    cases Option.some.inj hz
    exact lv_iand hx hb hdg (kk _ _ hl ⟨_, _, rfl, ⟨_, rfl, hg⟩, hr⟩)
  case ior =>
    simp only [xv_pure] at h
    obtain ⟨rfl, r, S1, x, y, z, rest, rfl, rfl, hr, hz, hg⟩ := xs_i2 hD (by decide) h hs
    cases Option.some.inj hz
    exact lv_ior hx hb hdg (kk _ _ hl ⟨_, _, rfl, ⟨_, rfl, hg⟩, hr⟩)
  case ishl =>
    simp only [xv_pure] at h
    obtain ⟨rfl, r, S1, x, y, z, rest, rfl, rfl, hr, hz, hg⟩ := xs_i2 hD (by decide) h hs
    cases Option.some.inj hz
    exact lv_ishl hx hb hdg (kk _ _ hl ⟨_, _, rfl, ⟨_, rfl, hg⟩, hr⟩)
  case ishr =>
    simp only [xv_pure] at h
    obtain ⟨rfl, r, S1, x, y, z, rest, rfl, rfl, hr, hz, hg⟩ := xs_i2 hD (by decide) h hs
    cases Option.some.inj hz
    exact lv_ishr hx hb hdg (kk _ _ hl ⟨_, _, rfl, ⟨_, rfl, hg⟩, hr⟩)
  case iushr =>
    simp only [xv_pure] at h
    obtain ⟨rfl, r, S1, x, y, z, rest, rfl, rfl, hr, hz, hg⟩ := xs_i2 hD (by decide) h hs
    cases Option.some.inj hz
    exact lv_iushr hx hb hdg rfl (kk _ _ hl ⟨_, _, rfl, ⟨_, rfl, hg⟩, hr⟩)
  case idiv =>
    simp only [xv_pure] at h
    obtain ⟨rfl, r, S1, x, y, z, rest, rfl, rfl, hr, hz, hg⟩ := xs_i2 hD (by decide) h hs
    by_cases hy : y = 0
    · simp [xv_semI, hy] at hz
    · simp [xv_semI, hy] at hz
      subst hz
      exact lv_idiv hx hb hdg hy (kk _ _ hl ⟨_, _, rfl, ⟨_, rfl, hg⟩, hr⟩)
  case irem =>
    simp only [xv_pure] at h
    obtain ⟨rfl, r, S1, x, y, z, rest, rfl, rfl, hr, hz, hg⟩ := xs_i2 hD (by decide) h hs
    by_cases hy : y = 0
    · simp [xv_semI, hy] at hz
    · simp [xv_semI, hy] at hz
      subst hz
      exact lv_irem hx hb hdg hy (kk _ _ hl ⟨_, _, rfl, ⟨_, rfl, hg⟩, hr⟩)
  case ladd =>
    simp only [xv_pure] at h
    obtain ⟨rfl, r, S1, x, y, z, rest, rfl, rfl, hr, hz, hg⟩ := xs_l2 (o := 0) hD (by decide) h hs
    cases Option.some.inj hz
    exact lv_ladd hx hb hdg (kk _ _ hl ⟨_, _, rfl, ⟨_, rfl, hg⟩, hr⟩)
  case lsub =>
    simp only [xv_pure] at h
    obtain ⟨rfl, r, S1, x, y, z, rest, rfl, rfl, hr, hz, hg⟩ := xs_l2 (o := 1) hD (by decide) h hs
    cases Option.some.inj hz
    exact lv_lsub hx hb hdg (kk _ _ hl ⟨_, _, rfl, ⟨_, rfl, hg⟩, hr⟩)
  case lmul =>
    simp only [xv_pure] at h
    obtain ⟨rfl, r, S1, x, y, z, rest, rfl, rfl, hr, hz, hg⟩ := xs_l2 (o := 2) hD (by decide) h hs
    cases Option.some.inj hz
    exact lv_lmul hx hb hdg (kk _ _ hl ⟨_, _, rfl, ⟨_, rfl, hg⟩, hr⟩)
  case land =>
    simp only [xv_pure] at h
    obtain ⟨rfl, r, S1, x, y, z, rest, rfl, rfl, hr, hz, hg⟩ := xs_l2 (o := 3) hD (by decide) h hs
    cases Option.some.inj hz
    exact lv_land hx hb hdg (kk _ _ hl ⟨_, _, rfl, ⟨_, rfl, hg⟩, hr⟩)
  case lor =>
    simp only [xv_pure] at h
    obtain ⟨rfl, r, S1, x, y, z, rest, rfl, rfl, hr, hz, hg⟩ := xs_l2 (o := 4) hD (by decide) h hs
    cases Option.some.inj hz
    exact lv_lor hx hb hdg (kk _ _ hl ⟨_, _, rfl, ⟨_, rfl, hg⟩, hr⟩)
  case ldiv =>
    simp only [xv_pure] at h
    obtain ⟨rfl, r, S1, x, y, z, rest, rfl, rfl, hr, hz, hg⟩ := xs_l2 (o := 5) hD (by decide) h hs
    by_cases hy : y = 0
    · simp [xv_semL, hy] at hz
    · simp [xv_semL, hy] at hz
      subst hz
      exact lv_ldiv hx hb hdg hy (kk _ _ hl ⟨_, _, rfl, ⟨_, rfl, hg⟩, hr⟩)
  case lrem =>
    simp only [xv_pure] at h
    obtain ⟨rfl, r, S1, x, y, z, rest, rfl, rfl, hr, hz, hg⟩ := xs_l2 (o := 6) hD (by decide) h hs
    by_cases hy : y = 0
    · simp [xv_semL, hy] at hz
    · simp [xv_semL, hy] at hz
      subst hz
      exact lv_lrem hx hb hdg hy (kk _ _ hl ⟨_, _, rfl, ⟨_, rfl, hg⟩, hr⟩)
  case ineg =>
    simp only [xv_pure] at h
    split at h
    · rename_i a S1
      obtain ⟨_, r1, rfl, ⟨x, rfl, hx1⟩, hr⟩ := hs
      split at h
      · rename_i r hr2
        obtain ⟨rfl, rfl⟩ := by simpa using h
        obtain ⟨z, hz, hg⟩ := hD.2.2.1 10 a a r x x (by decide) hr2 hx1 hx1
        cases Option.some.inj hz
        exact lv_ineg hx hb hdg (kk _ _ hl ⟨_, _, rfl, ⟨_, rfl, hg⟩, hr⟩)
      · cases h
    · cases h
  case lneg =>
    simp only [xv_pure] at h
    split at h
    · rename_i a S1
      obtain ⟨_, r1, rfl, ⟨x, rfl, hx1⟩, hr⟩ := hs
      split at h
      · rename_i r hr2
        obtain ⟨rfl, rfl⟩ := by simpa using h
        obtain ⟨z, hz, hg⟩ := hD.2.2.2.1 7 a a r x x (by decide) hr2 hx1 hx1
        cases Option.some.inj hz
        exact lv_lneg hx hb hdg (kk _ _ hl ⟨_, _, rfl, ⟨_, rfl, hg⟩, hr⟩)
      · cases h
    · cases h
  case lshl =>
    simp only [xv_pure] at h
    obtain ⟨rfl, a, b, r, S1, x, y, rest, rfl, rfl, hr, hz, hga, hgb⟩ := xs_s2 h hs
    exact lv_lshl hx hb hdg rfl (kk _ _ hl ⟨_, _, rfl, ⟨_, rfl, hD.2.2.2.2.1 _ _ _ _ _ hz hga hgb⟩, hr⟩)
  case lshr =>
    simp only [xv_pure] at h
    obtain ⟨rfl, a, b, r, S1, x, y, rest, rfl, rfl, hr, hz, hga, hgb⟩ := xs_s2 h hs
    exact lv_lshr hx hb hdg rfl (kk _ _ hl ⟨_, _, rfl, ⟨_, rfl, hD.2.2.2.2.2.1 _ _ _ _ _ hz hga hgb⟩, hr⟩)
  case i2l =>
    simp only [xv_pure] at h
    split at h
    · rename_i a S1
      obtain ⟨_, r1, rfl, ⟨x, rfl, hx1⟩, hr⟩ := hs
      split at h
      · rename_i r hr2
        obtain ⟨rfl, rfl⟩ := by simpa using h
        exact lv_i2l hx hb hdg rfl (kk _ _ hl ⟨_, _, rfl, ⟨_, rfl, hD.2.2.2.2.2.2.1 _ _ _ _ hr2 hx1⟩, hr⟩)
      · cases h
    · cases h
  case l2i =>
    simp only [xv_pure] at h
    split at h
    · rename_i a S1
      obtain ⟨_, r1, rfl, ⟨x, rfl, hx1⟩, hr⟩ := hs
      split at h
      · rename_i r hr2
        obtain ⟨rfl, rfl⟩ := by simpa using h
        exact lv_l2i hx hb hdg rfl (kk _ _ hl ⟨_, _, rfl, ⟨_, rfl, hD.2.2.2.2.2.2.2.1 _ _ _ _ hr2 hx1⟩, hr⟩)
      · cases h
    · cases h
  case lcmp =>
    simp only [xv_pure] at h
    split at h
    · rename_i b a S1
      obtain ⟨_, r1, rfl, ⟨y, rfl, hy1⟩, _, r2, rfl, ⟨x, rfl, hx1⟩, hr⟩ := hs
      split at h
      · rename_i r hr2
        obtain ⟨rfl, rfl⟩ := by simpa using h
        exact W.lcmp hx hb hdg (kk _ _ hl ⟨_, _, rfl, ⟨_, rfl, hD.2.2.2.2.2.2.2.2.1 _ _ _ _ _ hr2 hx1 hy1⟩, hr⟩)
      · cases h
    · cases h
  case dup =>
    simp only [xv_pure] at h
    split at h
    · rename_i v S1
      obtain ⟨x, r1, rfl, hv, hr⟩ := hs
      cases hc : Nat.beq (xv_cat v) 1 <;> simp [hc] at h
      obtain ⟨rfl, rfl⟩ := h
      exact lv_dup hx hb hdg ((xr_v_cat hv).trans (Nat.eq_of_beq_eq_true hc)) (kk _ _ hl ⟨_, _, rfl, hv, _, _, rfl, hv, hr⟩)
    · cases h
  case pop =>
    simp only [xv_pure] at h
    split at h
    · rename_i v S1
      obtain ⟨x, r1, rfl, hv, hr⟩ := hs
      cases hc : Nat.beq (xv_cat v) 1 <;> simp [hc] at h
      obtain ⟨rfl, rfl⟩ := h
      exact lv_pop hx hb hdg ((xr_v_cat hv).trans (Nat.eq_of_beq_eq_true hc)) (kk _ _ hl hr)
    · cases h
  case dup2 =>
    simp only [xv_pure] at h
    split at h
    · rename_i v w S1
      obtain ⟨x, r1, rfl, hv, y, r2, rfl, hw, hr⟩ := hs
      cases hc : Nat.beq (xv_cat v) 1 <;> simp [hc] at h
      cases hd : Nat.beq (xv_cat w) 1 <;> simp [hd] at h
      obtain ⟨rfl, rfl⟩ := h
      exact lv_dup2_11 hx hb hdg ((xr_v_cat hv).trans (Nat.eq_of_beq_eq_true hc)) ((xr_v_cat hw).trans (Nat.eq_of_beq_eq_true hd)) (kk _ _ hl ⟨_, _, rfl, hv, _, _, rfl, hw, _, _, rfl, hv, _, _, rfl, hw, hr⟩)
    · cases h
end XSQ
end
section
/-- a switch: its length is its own -/
def xv_sw : Instr → Bool
  | .tableswitch _ _ _ _ => true
  | .lookupswitch _ _ => true
  | _ => false
theorem xs_tgt {pc t : Nat} {off : Int} (h : xv_tgt pc off = some t) : (pc : Int) + off = (t : Int) := by
  unfold xv_tgt at h
  split at h
  · rename_i k hk
    rw [hk]
    cases h
    rfl
  · cases h
section XSB
variable {p : Program} {l : Launch} {e : Env} {R : Room} {s : State} {m : MethodId} {args : Array Value} {below : List Frame} {meth : Method} {c : Code} {H : Heap} {locs : List Loc} {cells slots : Nat} {Q : State → Prop}
variable {cc : ByteArray} {pc : Nat} {V : Type} {D : xv_D V} {g : V → Value → Prop} {φ : List Nat} {S S' : List (xv_V V)} {ls : Array Slot} {st : List Value}
theorem xs_cmp2 (hD : xv_ok D g) {o t : Nat} {off : Int} (h : xv_cmp2 D o pc off S = some (t, S')) (hs : xr_s g φ S st) : ∃ (x y : Int32) (rest : List Value) (tgt : Nat), st = .int y :: .int x :: rest ∧ xr_s g φ S' rest ∧ (pc : Int) + off = (tgt : Int) ∧ ((xv_cmp o x y = true ∧ t = tgt) ∨ (xv_cmp o x y = false ∧ t = pc + 3)) := by
  unfold xv_cmp2 at h
  split at h
  · rename_i b a S1
    obtain ⟨_, r1, rfl, ⟨y, rfl, hy⟩, _, r2, rfl, ⟨x, rfl, hx⟩, hr⟩ := hs
    split at h
    · rename_i r t' hc ht
      have h1 := hD.2.2.2.2.2.2.2.2.2.1 _ _ _ _ _ _ hc hx hy
      cases r
      · obtain ⟨rfl, rfl⟩ := by simpa using h
        exact ⟨x, y, r2, t', rfl, hr, xs_tgt ht, Or.inr ⟨h1, rfl⟩⟩
      · obtain ⟨rfl, rfl⟩ := by simpa using h
        exact ⟨x, y, r2, _, rfl, hr, xs_tgt ht, Or.inl ⟨h1, rfl⟩⟩
    · cases h
  · cases h
theorem xs_cmp1 (hD : xv_ok D g) {o t : Nat} {off : Int} (h : xv_cmp1 D o pc off S = some (t, S')) (hs : xr_s g φ S st) : ∃ (x : Int32) (rest : List Value) (tgt : Nat), st = .int x :: rest ∧ xr_s g φ S' rest ∧ (pc : Int) + off = (tgt : Int) ∧ ((xv_cmp o x 0 = true ∧ t = tgt) ∨ (xv_cmp o x 0 = false ∧ t = pc + 3)) := by
  unfold xv_cmp1 at h
  split at h
  · rename_i a S1
    obtain ⟨_, r2, rfl, ⟨x, rfl, hx⟩, hr⟩ := hs
    split at h
    · rename_i r t' hc ht
      have h1 := hD.2.2.2.2.2.2.2.2.2.1 _ _ _ _ _ _ hc hx (hD.1 0)
      cases r
      · obtain ⟨rfl, rfl⟩ := by simpa using h
        exact ⟨x, r2, t', rfl, hr, xs_tgt ht, Or.inr ⟨h1, rfl⟩⟩
      · obtain ⟨rfl, rfl⟩ := by simpa using h
        exact ⟨x, r2, _, rfl, hr, xs_tgt ht, Or.inl ⟨h1, rfl⟩⟩
    · cases h
  · cases h

set_option maxHeartbeats 4000000 in
/-- JUMPS -/
theorem xs_br (hx : p.tables.exec = Jvm.exec) (hb : c.code = cc) (hD : xv_ok D g) {i : Instr} {t len : Nat} (h : xv_br D pc S i = some (t, S')) (hdg : decode cc pc = .ok (i, len)) (hlen : xv_sw i = true ∨ len = xv_len i) (hs : xr_s g φ S st)
    (kk : ∀ st' : List Value, xr_s g φ S' st' → W p l e R s m args below meth c H locs cells slots Q (F0 m t ls st')) :
    W p l e R s m args below meth c H locs cells slots Q (F0 m pc ls st) := by
  cases i
  all_goals (first | (simp only [xv_br, reduceCtorEq] at h; done) | skip)
  case goto off =>
    obtain rfl : len = 3 := by simpa [xv_sw, xv_len] using hlen
    simp only [xv_br] at h
    split at h
    · rename_i t' ht
      obtain ⟨rfl, rfl⟩ := by simpa using h
      exact lv_goto hx hb hdg (xs_tgt ht) (kk _ hs)
    · cases h
  case if_icmp cd off =>
    obtain rfl : len = 3 := by simpa [xv_sw, xv_len] using hlen
    cases cd
    case eq =>
      simp only [xv_br] at h
      obtain ⟨x, y, rest, tgt, rfl, hr, ht, hc⟩ := xs_cmp2 hD h hs
      refine lv_icmp_eq hx hb hdg ht (fun q => ?_) (fun q => ?_)
      · rcases hc with ⟨hc, rfl⟩ | ⟨hc, rfl⟩
        · exact kk _ hr
        · exact absurd hc (by simp [xv_cmp, q])
      · rcases hc with ⟨hc, rfl⟩ | ⟨hc, rfl⟩
        · exact absurd hc (by simp [xv_cmp, q])
        · exact kk _ hr
    case ne =>
      simp only [xv_br] at h
      obtain ⟨x, y, rest, tgt, rfl, hr, ht, hc⟩ := xs_cmp2 hD h hs
      refine lv_icmp_ne hx hb hdg ht (fun q => ?_) (fun q => ?_)
      · rcases hc with ⟨hc, rfl⟩ | ⟨hc, rfl⟩
        · exact kk _ hr
        · exact absurd hc (by simp [xv_cmp, q])
      · rcases hc with ⟨hc, rfl⟩ | ⟨hc, rfl⟩
        · exact absurd hc (by simp [xv_cmp, q])
        · exact kk _ hr
    case lt =>
      simp only [xv_br] at h
      obtain ⟨x, y, rest, tgt, rfl, hr, ht, hc⟩ := xs_cmp2 hD h hs
      refine lv_icmp_lt hx hb hdg ht (fun q => ?_) (fun q => ?_)
      · rcases hc with ⟨hc, rfl⟩ | ⟨hc, rfl⟩
        · exact kk _ hr
        · exact absurd hc (by simp [xv_cmp, q])
      · rcases hc with ⟨hc, rfl⟩ | ⟨hc, rfl⟩
        · exact absurd hc (by simp [xv_cmp, q])
        · exact kk _ hr
    case ge =>
      simp only [xv_br] at h
      obtain ⟨x, y, rest, tgt, rfl, hr, ht, hc⟩ := xs_cmp2 hD h hs
      refine lv_icmp_ge hx hb hdg ht (fun q => ?_) (fun q => ?_)
      · rcases hc with ⟨hc, rfl⟩ | ⟨hc, rfl⟩
        · exact kk _ hr
        · exact absurd hc (by simp [xv_cmp, q])
      · rcases hc with ⟨hc, rfl⟩ | ⟨hc, rfl⟩
        · exact absurd hc (by simp [xv_cmp, q])
        · exact kk _ hr
    case gt =>
      simp only [xv_br] at h
      obtain ⟨x, y, rest, tgt, rfl, hr, ht, hc⟩ := xs_cmp2 hD h hs
      refine lv_icmp_gt hx hb hdg ht (fun q => ?_) (fun q => ?_)
      · rcases hc with ⟨hc, rfl⟩ | ⟨hc, rfl⟩
        · exact kk _ hr
        · exact absurd hc (by simp [xv_cmp, q])
      · rcases hc with ⟨hc, rfl⟩ | ⟨hc, rfl⟩
        · exact absurd hc (by simp [xv_cmp, q])
        · exact kk _ hr
    case le =>
      simp only [xv_br] at h
      obtain ⟨x, y, rest, tgt, rfl, hr, ht, hc⟩ := xs_cmp2 hD h hs
      refine lv_icmp_le hx hb hdg ht (fun q => ?_) (fun q => ?_)
      · rcases hc with ⟨hc, rfl⟩ | ⟨hc, rfl⟩
        · exact kk _ hr
        · exact absurd hc (by simp [xv_cmp, q])
      · rcases hc with ⟨hc, rfl⟩ | ⟨hc, rfl⟩
        · exact absurd hc (by simp [xv_cmp, q])
        · exact kk _ hr
  case ifCond cd off =>
    obtain rfl : len = 3 := by simpa [xv_sw, xv_len] using hlen
    cases cd
    case eq =>
      simp only [xv_br] at h
      obtain ⟨x, rest, tgt, rfl, hr, ht, hc⟩ := xs_cmp1 hD h hs
      refine lv_if_eq hx hb hdg ht (fun q => ?_) (fun q => ?_)
      · rcases hc with ⟨hc, rfl⟩ | ⟨hc, rfl⟩
        · exact kk _ hr
        · exact absurd hc (by simp [xv_cmp, q])
      · rcases hc with ⟨hc, rfl⟩ | ⟨hc, rfl⟩
        · exact absurd hc (by simp [xv_cmp, q])
        · exact kk _ hr
    case ne =>
      simp only [xv_br] at h
      obtain ⟨x, rest, tgt, rfl, hr, ht, hc⟩ := xs_cmp1 hD h hs
      refine lv_if_ne hx hb hdg ht (fun q => ?_) (fun q => ?_)
      · rcases hc with ⟨hc, rfl⟩ | ⟨hc, rfl⟩
        · exact kk _ hr
        · exact absurd hc (by simp [xv_cmp, q])
      · rcases hc with ⟨hc, rfl⟩ | ⟨hc, rfl⟩
        · exact absurd hc (by simp [xv_cmp, q])
        · exact kk _ hr
    case lt =>
      simp only [xv_br] at h
      obtain ⟨x, rest, tgt, rfl, hr, ht, hc⟩ := xs_cmp1 hD h hs
      refine lv_if_lt hx hb hdg ht (fun q => ?_) (fun q => ?_)
      · rcases hc with ⟨hc, rfl⟩ | ⟨hc, rfl⟩
        · exact kk _ hr
        · exact absurd hc (by simp [xv_cmp, q])
      · rcases hc with ⟨hc, rfl⟩ | ⟨hc, rfl⟩
        · exact absurd hc (by simp [xv_cmp, q])
        · exact kk _ hr
    case ge =>
      simp only [xv_br] at h
      obtain ⟨x, rest, tgt, rfl, hr, ht, hc⟩ := xs_cmp1 hD h hs
      refine lv_if_ge hx hb hdg ht (fun q => ?_) (fun q => ?_)
      · rcases hc with ⟨hc, rfl⟩ | ⟨hc, rfl⟩
        · exact kk _ hr
        · exact absurd hc (by simp [xv_cmp, q])
      · rcases hc with ⟨hc, rfl⟩ | ⟨hc, rfl⟩
        · exact absurd hc (by simp [xv_cmp, q])
        · exact kk _ hr
    case gt =>
      simp only [xv_br] at h
      obtain ⟨x, rest, tgt, rfl, hr, ht, hc⟩ := xs_cmp1 hD h hs
      refine lv_if_gt hx hb hdg ht (fun q => ?_) (fun q => ?_)
      · rcases hc with ⟨hc, rfl⟩ | ⟨hc, rfl⟩
        · exact kk _ hr
        · exact absurd hc (by simp [xv_cmp, q])
      · rcases hc with ⟨hc, rfl⟩ | ⟨hc, rfl⟩
        · exact absurd hc (by simp [xv_cmp, q])
        · exact kk _ hr
    case le =>
      simp only [xv_br] at h
      obtain ⟨x, rest, tgt, rfl, hr, ht, hc⟩ := xs_cmp1 hD h hs
      refine lv_if_le hx hb hdg ht (fun q => ?_) (fun q => ?_)
      · rcases hc with ⟨hc, rfl⟩ | ⟨hc, rfl⟩
        · exact kk _ hr
        · exact absurd hc (by simp [xv_cmp, q])
      · rcases hc with ⟨hc, rfl⟩ | ⟨hc, rfl⟩
        · exact absurd hc (by simp [xv_cmp, q])
        · exact kk _ hr
  case tableswitch dflt lo hi offs =>
    simp only [xv_br] at h
    split at h
    · rename_i a S1
      obtain ⟨_, r2, rfl, ⟨x, rfl, hx1⟩, hr⟩ := hs
      split at h
      · rename_i n hn
        have hxn := hD.2.2.2.2.2.2.2.2.2.2.1 _ _ _ hn hx1
        unfold xv_tab at h
        split at h
        · rename_i hout
          split at h
          · rename_i t' ht
            obtain ⟨rfl, rfl⟩ := by simpa using h
            exact lv_tableOut hx hb hdg (by rw [hxn]; exact hout) (xs_tgt ht) (kk _ hr)
          · cases h
        · rename_i hin
          split at h
          · rename_i off ho
            split at h
            · rename_i t' ht
              obtain ⟨rfl, rfl⟩ := by simpa using h
              exact lv_tableIn hx hb hdg (by rw [hxn]; exact fun q => hin (Or.inl q)) (by rw [hxn]; exact fun q => hin (Or.inr q)) (by rw [hxn]; exact ho) (xs_tgt ht) (kk _ hr)
            · cases h
          · cases h
      · cases h
    · cases h
  case lookupswitch dflt ps =>
    simp only [xv_br] at h
    split at h
    · rename_i a S1
      obtain ⟨_, r2, rfl, ⟨x, rfl, hx1⟩, hr⟩ := hs
      split at h
      · rename_i n hn
        have hxn := hD.2.2.2.2.2.2.2.2.2.2.1 _ _ _ hn hx1
        cases hp : (ps.toList.zip (ps.toList.drop 1)).all (fun q => decide (q.1.1 < q.2.1)) <;> simp only [hp, cond_true, cond_false] at h
        · cases h
        · split at h
          · rename_i t' ht
            obtain ⟨rfl, rfl⟩ := by simpa using h
            exact lv_lookup hx hb hdg hp (by rw [hxn]) (xs_tgt ht) (kk _ hr)
          · cases h
      · cases h
    · cases h
end XSB
end
section
/-- a type that a field here may have -/
def xv_tyok : FieldType → Bool
  | .int => true
  | .boolean => true
  | .long => true
  | .object _ => true
  | .array _ => true
  | _ => false
def xc_cls (tb : List Jvm.Cond) (cl : List vw_C) (ct : List (List (FieldType × Bool))) : Prop := ∀ (ci : Nat) (fs : List (FieldType × Bool)), ct[ci]? = some fs → ∃ (C : String) (T : u_T), cl[ci]? = some (C, T, fs.length) ∧ (∀ w ∈ u_ws C T fs.length, w ∈ tb) ∧
  (∀ (k : Nat) (f : FieldType × Bool), fs[k]? = some f → parseFieldDescriptor (T k).2.2.1 = some f.1 ∧ (T k).2.2.2 = f.2 ∧ (T k).1 = C ∧ xv_tyok f.1 = true) ∧ (∀ a, a < fs.length → ∀ b, b < fs.length → a ≠ b → (T a).2.1 ≠ (T b).2.1) ∧ Jvm.Cond.instantiable C fs.length ∈ tb ∧ Jvm.Cond.initialized C ∈ tb
def xc_fld (tb : List Jvm.Cond) (cl : List vw_C) (ct : List (List (FieldType × Bool))) (own : String) (K : xv_K) : Prop := ∀ (i : Nat) (ck : Nat × Nat), xv_find K.1 i = some ck → ∃ (fs : List (FieldType × Bool)) (f : FieldType × Bool) (C : String) (T : u_T), ct[ck.1]? = some fs ∧ fs[ck.2]? = some f ∧ cl[ck.1]? = some (C, T, fs.length) ∧ Jvm.Cond.fieldLink own i (T ck.2).1 (T ck.2).2.1 (T ck.2).2.2.1 ∈ tb
def xc_new (tb : List Jvm.Cond) (cl : List vw_C) (at_ : List Nat) (own : String) (K : xv_K) : Prop := ∀ (i ci : Nat), xv_find K.2.2.1 i = some ci →
  (ci < 1000 → ∃ (C : String) (T : u_T) (N : Nat), cl[ci]? = some (C, T, N) ∧ Jvm.Cond.classLink own i C ∈ tb) ∧ (1000 ≤ ci → ∃ (cj : Nat) (C : String) (T : u_T) (N : Nat), at_[ci - 1000]? = some cj ∧ cl[cj]? = some (C, T, N) ∧ Jvm.Cond.classLink own (i - 70000) C ∈ tb)
def xc_tys (cl : List vw_C) (at_ : List Nat) (tys : List (ClassId × FieldType)) : Prop := (∃ c0, tys[0]? = some (c0, .int)) ∧ (∃ c0, tys[1]? = some (c0, .long)) ∧ (∃ c0, tys[2]? = some (c0, .boolean)) ∧
  (∀ (n cj : Nat) (C : String) (T : u_T) (N : Nat), at_[n]? = some cj → cl[cj]? = some (C, T, N) → ∃ cA, tys[4 + n]? = some (cA, .object C)) ∧ ∀ (k : Nat) (q : ClassId × FieldType), 4 ≤ k → tys[k]? = some q → ∃ C, q.2 = .object C
def xc_ao (cl : List vw_C) (at_ : List Nat) (U : State) : Prop := ∀ (n cj : Nat) (C : String) (T : u_T) (N : Nat), at_[n]? = some cj → cl[cj]? = some (C, T, N) → va_AO C U
def xc_arr (tb : List Jvm.Cond) : Prop := Jvm.Cond.arrayClass .int ∈ tb ∧ Jvm.Cond.arrayClass .long ∈ tb ∧ Jvm.Cond.arrayClass .boolean ∈ tb
/-- a class by its number: all that is known of it -/
theorem xc_at {tb : List Jvm.Cond} {cl : List vw_C} {ct : List (List (FieldType × Bool))} (hC : xc_cls tb cl ct) {ci : Nat} {fs : List (FieldType × Bool)} {C : String} {T : u_T} {N : Nat} (h1 : ct[ci]? = some fs) (h2 : cl[ci]? = some (C, T, N)) : N = fs.length ∧ (∀ w ∈ u_ws C T N, w ∈ tb) ∧
    (∀ (k : Nat) (f : FieldType × Bool), fs[k]? = some f → parseFieldDescriptor (T k).2.2.1 = some f.1 ∧ (T k).2.2.2 = f.2 ∧ (T k).1 = C ∧ xv_tyok f.1 = true) ∧ (∀ a, a < N → ∀ b, b < N → a ≠ b → (T a).2.1 ≠ (T b).2.1) ∧ Jvm.Cond.instantiable C N ∈ tb ∧ Jvm.Cond.initialized C ∈ tb := by
  obtain ⟨C2, T2, hcl2, hu, hf, hn, hi, hj⟩ := hC ci fs h1
  have e2 : (C2, T2, fs.length) = (C, T, N) := Option.some.inj (hcl2.symm.trans h2)
  obtain ⟨rfl, e3⟩ := Prod.mk.inj e2
  obtain ⟨rfl, rfl⟩ := Prod.mk.inj e3
  exact ⟨rfl, hu, hf, hn, hi, hj⟩
section XSM
variable {V : Type} {C : Nat → xv_O V → Prop} {D : xv_D V} {g : V → Value → Prop} {φ : List Nat} {tys : List (ClassId × FieldType)} {M : xv_M V} {ws : va_W}
theorem xr_e_mono {t : List Nat} {o : xv_O V} {E : va_E} (h : xr_e g φ tys o E) : xr_e g (φ ++ t) tys o E := by
  rcases h with ⟨h8, fs, e, hl, h⟩ | ⟨cA, ty, ht, h | h | h⟩
  · exact Or.inl ⟨h8, fs, e, hl, fun j v hv => (h j v hv).imp fun x hx => ⟨hx.1, xr_v_mono hx.2⟩⟩
  · obtain ⟨h0, f, e, h⟩ := h
    exact Or.inr ⟨cA, ty, ht, Or.inl ⟨h0, f, e, fun j v hv => xr_v_mono (h j v hv)⟩⟩
  · obtain ⟨h0, f, e, h⟩ := h
    exact Or.inr ⟨cA, ty, ht, Or.inr (Or.inl ⟨h0, f, e, fun j v hv => xr_v_mono (h j v hv)⟩)⟩
  · obtain ⟨h0, f, e, h⟩ := h
    exact Or.inr ⟨cA, ty, ht, Or.inr (Or.inr ⟨h0, f, e, fun j v hv => xr_v_mono (h j v hv)⟩)⟩
/-- a place of a list is set -/
theorem xr_set {α : Type} {xs : List α} {k j : Nat} {v w : α} (h : (xs.set k v)[j]? = some w) : (j = k ∧ w = v) ∨ (j ≠ k ∧ xs[j]? = some w) := by
  rw [List.getElem?_set] at h
  split at h
  · rename_i e
    split at h
    · exact Or.inl ⟨e.symm, (Option.some.inj h).symm⟩
    · cases h
  · rename_i hne
    exact Or.inr ⟨fun q => hne q.symm, h⟩
theorem xr_e_tag {o : xv_O V} {E : va_E} (h : xr_e g φ tys o E) : o.1 ≠ 3 := by
  rcases h with ⟨h8, -⟩ | ⟨cA, ty, ht, h | h | h⟩
  · omega
  · obtain ⟨h0, -⟩ := h
    omega
  · obtain ⟨h0, -⟩ := h
    omega
  · obtain ⟨h0, -⟩ := h
    omega
theorem xr_m_len (h : xr_m C g φ tys M ws) : M.length = φ.length := by
  obtain ⟨pre, -, h2, -⟩ := h
  exact h2
theorem xr_m_cst (h : xr_m C g φ tys M ws) {k : Nat} {o : xv_O V} (hk : M[k]? = some o) (h3 : o.1 = 3) : C k o := by
  obtain ⟨pre, -, -, -, h4⟩ := h
  exact h4 k o hk h3
theorem xr_m_at (h : xr_m C g φ tys M ws) {k q : Nat} {o : xv_O V} (hk : M[k]? = some o) (hq : φ[k]? = some q) (h7 : o.1 ≠ 7) (h3 : o.1 ≠ 3) : ∃ (a : Nat) (E : va_E), ws[a]? = some (q, E) ∧ xr_e g φ tys o E ∧ ∀ (o' : xv_O V) (E' : va_E), xr_e g φ tys o' E' → xr_m C g φ tys (M.set k o') (ws.set a (q, E')) := by
  obtain ⟨pre, h1, h2, h4, h5⟩ := h
  obtain ⟨hle, q', E, e1, e2⟩ := h4 k o hk h7 h3
  have hqq : φ[k]? = some q' := by rw [← h1, List.getElem?_append_right hle, List.getElem?_map, e1]; rfl
  rw [hq] at hqq
  cases Option.some.inj hqq
  refine ⟨k - pre.length, E, e1, e2, fun o' E' he => ⟨pre, ?_, by rw [List.length_set]; exact h2, fun j o2 hj h72 h32 => ?_, fun j o2 hj h32 => ?_⟩⟩
  · rw [← h1]
    congr 1
    apply List.ext_getElem?
    intro j
    rw [List.getElem?_map, List.getElem?_map, List.getElem?_set]
    split
    · rename_i e
      subst e
      rw [if_pos (List.getElem?_eq_some_iff.mp e1).1, e1]
      rfl
    · rfl
  · rw [List.getElem?_set] at hj
    split at hj
    · rename_i e
      subst e
      rw [if_pos (List.getElem?_eq_some_iff.mp hk).1] at hj
      cases Option.some.inj hj
      exact ⟨hle, q, E', by rw [List.getElem?_set, if_pos rfl, if_pos (List.getElem?_eq_some_iff.mp e1).1], he⟩
    · rename_i hne
      obtain ⟨l1, q1, E1, f1, f2⟩ := h4 j o2 hj h72 h32
      exact ⟨l1, q1, E1, by rw [List.getElem?_set, if_neg (by omega)]; exact f1, f2⟩
  · rcases xr_set hj with ⟨rfl, rfl⟩ | ⟨hne, hj⟩
    · exact absurd h32 (xr_e_tag he)
    · exact h5 j o2 hj h32
theorem xr_m_push (h : xr_m C g φ tys M ws) {q : Nat} {o' : xv_O V} {E' : va_E} (he : xr_e g (φ ++ [q]) tys o' E') : xr_m C g (φ ++ [q]) tys (M ++ [o']) (ws ++ [(q, E')]) := by
  obtain ⟨pre, h1, h2, h4, h5⟩ := h
  have hl0 : φ.length = pre.length + ws.length := by rw [← h1, List.length_append, List.length_map]
  refine ⟨pre, by rw [List.map_append, ← List.append_assoc, h1]; rfl, by simp [h2], fun j o hj h7 h3 => ?_, fun j o hj h3 => ?_⟩
  · by_cases hl : j < M.length
    · rw [List.getElem?_append_left hl] at hj
      obtain ⟨l1, q', E1, e1, e2⟩ := h4 j o hj h7 h3
      exact ⟨l1, q', E1, by rw [List.getElem?_append_left (List.getElem?_eq_some_iff.mp e1).1]; exact e1, xr_e_mono e2⟩
    · rw [List.getElem?_append_right (by omega)] at hj
      have hz : j - M.length < 1 := (List.getElem?_eq_some_iff.mp hj).1
      have hj0 : j - M.length = 0 := by omega
      rw [hj0] at hj
      cases Option.some.inj hj
      have hj2 : j - pre.length - ws.length = 0 := by omega
      exact ⟨by omega, q, E', by rw [List.getElem?_append_right (by omega), hj2]; rfl, he⟩
  · by_cases hl : j < M.length
    · rw [List.getElem?_append_left hl] at hj
      exact h5 j o hj h3
    · rw [List.getElem?_append_right (by omega)] at hj
      have hz : j - M.length < 1 := (List.getElem?_eq_some_iff.mp hj).1
      have hj0 : j - M.length = 0 := by omega
      rw [hj0] at hj
      cases Option.some.inj hj
      exact absurd h3 (xr_e_tag he)
theorem xs_ix (hD : xv_ok D g) {a : V} {n k : Nat} {x : Int32} (h : xv_ix D a n = some k) (hg : g a (.int x)) : k < n ∧ vp_in x n ∧ x.toNatClampNeg = k ∧ ¬ x < 0 := by
  unfold xv_ix at h
  split at h
  · rename_i k' hk
    cases hb : Nat.blt k' n <;> simp [hb] at h
    subst h
    have hlt : k' < n := Nat.le_of_ble_eq_true hb
    have hx := hD.2.2.2.2.2.2.2.2.2.2.1 _ _ _ hk hg
    have hin : vp_in x n := vp_in_iff.mpr ⟨by rw [hx]; exact Int.natCast_nonneg k', by rw [hx]; exact Int.ofNat_lt.mpr hlt⟩
    exact ⟨hlt, hin, by show x.toInt.toNat = k'; rw [hx]; rfl, fun q => hin (Or.inl q)⟩
  · cases h
theorem xs_fit (hD : xv_ok D g) {ty : FieldType} : ∀ {v : xv_V V} {x : Value}, xv_fit D ty v = true → xr_v g φ v x → narrow ty x = x ∧ fits ty x = true := by
  intro v x h hv
  rcases v with a | a | (_ | k)
  · obtain ⟨n, rfl, hn⟩ := hv
    cases ty <;> first | (simp only [xv_fit, Bool.false_eq_true] at h; done) | exact ⟨rfl, rfl⟩ | skip
    rcases hD.2.2.2.2.2.2.2.2.2.2.2 a n h hn with rfl | rfl
    · exact ⟨rfl, rfl⟩
    · exact ⟨rfl, rfl⟩
  · obtain ⟨n, rfl, hn⟩ := hv
    cases ty <;> first | (simp only [xv_fit, Bool.false_eq_true] at h; done) | exact ⟨rfl, rfl⟩
  · obtain rfl : x = .null := hv
    cases ty <;> first | (simp only [xv_fit, Bool.false_eq_true] at h; done) | exact ⟨rfl, rfl⟩
  · obtain ⟨q, _, rfl⟩ := hv
    cases ty <;> first | (simp only [xv_fit, Bool.false_eq_true] at h; done) | exact ⟨rfl, rfl⟩
theorem xs_dflt (hD : xv_ok D g) (ty : FieldType) (h : xv_tyok ty = true) : xr_v g φ (xv_dflt D ty) (defaultValue ty) := by
  cases ty <;> first | (simp only [xv_tyok, Bool.false_eq_true] at h; done) | exact ⟨0, rfl, hD.1 0⟩ | exact ⟨0, rfl, hD.2.1 0⟩ | rfl
/-- the cell of an object -/
theorem xr_e_obj {o : xv_O V} {E : va_E} {ci : Nat} (h : xr_e g φ tys o E) (ho : o.1 = 8 + ci) : ∃ fs : List Value, E = .inr (ci, fs) ∧ fs.length = o.2.length ∧ ∀ (j : Nat) (v : xv_V V), o.2[j]? = some v → ∃ x : Value, fs[j]? = some x ∧ xr_v g φ v x := by
  rcases h with ⟨h8, fs, e, hl, h⟩ | ⟨cA, ty, ht, h | h | h⟩
  · exact ⟨fs, by rw [e, show o.1 - 8 = ci by omega], hl, h⟩
  · obtain ⟨h0, -⟩ := h
    omega
  · obtain ⟨h0, -⟩ := h
    omega
  · obtain ⟨h0, -⟩ := h
    omega
theorem xr_e_int {o : xv_O V} {E : va_E} (h : xr_e g φ tys o E) (ho : o.1 = 0 ∨ o.1 = 2) : ∃ (cA : ClassId) (ty : FieldType) (f : Nat → Int32), tys[o.1]? = some (cA, ty) ∧ E = .inl (cA, o.2.length, .inl f) ∧ ∀ (j : Nat) (v : xv_V V), o.2[j]? = some v → xr_v g φ v (.int (f j)) := by
  rcases h with ⟨h8, fs, e, hl, h⟩ | ⟨cA, ty, ht, h | h | h⟩
  · omega
  · obtain ⟨h0, f, e, h⟩ := h
    exact ⟨cA, ty, f, ht, e, h⟩
  · obtain ⟨h0, -⟩ := h
    omega
  · obtain ⟨h0, -⟩ := h
    omega
theorem xr_e_long {o : xv_O V} {E : va_E} (h : xr_e g φ tys o E) (ho : o.1 = 1) : ∃ (cA : ClassId) (ty : FieldType) (f : Nat → Int64), tys[o.1]? = some (cA, ty) ∧ E = .inl (cA, o.2.length, .inr (.inl f)) ∧ ∀ (j : Nat) (v : xv_V V), o.2[j]? = some v → xr_v g φ v (.long (f j)) := by
  rcases h with ⟨h8, fs, e, hl, h⟩ | ⟨cA, ty, ht, h | h | h⟩
  · omega
  · obtain ⟨h0, -⟩ := h
    omega
  · obtain ⟨h0, f, e, h⟩ := h
    exact ⟨cA, ty, f, ht, e, h⟩
  · obtain ⟨h0, -⟩ := h
    omega
theorem xr_e_ref {o : xv_O V} {E : va_E} (h : xr_e g φ tys o E) (ho : 4 ≤ o.1 ∧ o.1 < 7) : ∃ (cA : ClassId) (ty : FieldType) (f : Nat → Option Nat), tys[o.1]? = some (cA, ty) ∧ E = .inl (cA, o.2.length, .inr (.inr (.inr (.inr f)))) ∧ ∀ (j : Nat) (v : xv_V V), o.2[j]? = some v → xr_v g φ v (va_rf (f j)) := by
  rcases h with ⟨h8, fs, e, hl, h⟩ | ⟨cA, ty, ht, h | h | h⟩
  · omega
  · obtain ⟨h0, -⟩ := h
    omega
  · obtain ⟨h0, -⟩ := h
    omega
  · obtain ⟨h0, f, e, h⟩ := h
    exact ⟨cA, ty, f, ht, e, h⟩
theorem xs_rep {α : Type} {n j : Nat} {v w : α} (h : (List.replicate n v)[j]? = some w) : w = v := by
  have h2 := List.mem_of_getElem? h
  exact List.eq_of_mem_replicate h2
end XSM
end
section
section XSN
variable {p : Program} {l : Launch} {e : Env} {R : Room} {s : State} {m : MethodId} {args : Array Value} {below : List Frame} {meth : Method} {c : Code} {H : Heap} {locs : List Loc} {cells slots : Nat} {Q : State → Prop}
variable {cc : ByteArray} {pc : Nat} {V : Type} {C : Nat → xv_O V → Prop} {D : xv_D V} {g : V → Value → Prop} {φ : List Nat} {M M' : xv_M V} {S S' : List (xv_V V)} {ls : Array Slot} {st : List Value}
variable {Dg : va_G} {cl : List vw_C} {tys : List (ClassId × FieldType)} {A : Nat → Prop} {H0 : Heap} {ws : va_W} {dc ds : Nat}
theorem va_RA_one {U : State} {c1 c2 : ClassId} {ty : FieldType} (h1 : va_RA U c1 ty) (h2 : va_RA U c2 ty) : c1 = c2 := by
  cases ty with
  | object C =>
    obtain ⟨_, _, _, _, _, a⟩ := h1
    obtain ⟨_, _, _, _, _, b⟩ := h2
    exact Option.some.inj (a.symm.trans b)
  | _ => exact Option.some.inj (Eq.trans (Eq.symm h1) h2)
theorem xs_last {α : Type} (xs : List α) (x : α) : (xs ++ [x])[xs.length]? = some x := by simp
/-- loads out of arrays -/
theorem xs_ald (hD : xv_ok D g) {t0 t1 : Nat} (h6 : t1 < 3 ∨ (3 < t0 ∧ t1 < 7)) (h : xv_ald D M S t0 t1 = some (S', M', dc, ds)) (hs : xr_s g φ S st) (hm : xr_m C g φ tys M ws) : ∃ (a q k : Nat) (o : xv_O V) (E : va_E) (v : xv_V V) (S1 : List (xv_V V)) (x : Int32) (rest : List Value), S' = v :: S1 ∧ M' = M ∧ dc = 0 ∧ ds = 0 ∧ st = .int x :: .ref q :: rest ∧ xr_s g φ S1 rest ∧ (t0 ≤ o.1 ∧ o.1 ≤ t1) ∧ ws[a]? = some (q, E) ∧ xr_e g φ tys o E ∧ o.2[k]? = some v ∧ vp_in x o.2.length ∧ x.toNatClampNeg = k := by
  unfold xv_ald at h
  split at h
  · rename_i i a S1
    obtain ⟨_, r1, rfl, ⟨x, rfl, hx⟩, _, r2, rfl, ⟨q, hq, rfl⟩, hr⟩ := hs
    split at h
    · rename_i o ho
      cases hc : Nat.ble t0 o.1 <;> simp only [hc, Bool.true_and, Bool.false_and, cond_true, cond_false] at h
      · cases h
      cases hd : Nat.ble o.1 t1 <;> simp only [hd, cond_true, cond_false] at h
      · cases h
      split at h
      · rename_i k hk
        split at h
        · rename_i v hv
          obtain ⟨rfl, rfl, rfl, rfl⟩ := by simpa using h
          obtain ⟨b, E, hE, he, -⟩ := xr_m_at hm ho hq (by have := Nat.le_of_ble_eq_true hd; have := Nat.le_of_ble_eq_true hc; omega) (by have := Nat.le_of_ble_eq_true hd; have := Nat.le_of_ble_eq_true hc; omega)
          obtain ⟨-, hin, hcl, -⟩ := xs_ix hD hk hx
          exact ⟨b, q, k, o, E, v, S1, x, r2, rfl, rfl, rfl, rfl, rfl, hr, ⟨Nat.le_of_ble_eq_true hc, Nat.le_of_ble_eq_true hd⟩, hE, he, hv, hin, hcl⟩
        · cases h
      · cases h
    · cases h
  · cases h
/-- stores into arrays of numbers -/
theorem xs_ast (hD : xv_ok D g) {t : Nat} {ty : FieldType} (h6 : t < 3) (h : xv_ast D M S t ty = some (S', M', dc, ds)) (hs : xr_s g φ S st) (hm : xr_m C g φ tys M ws) : ∃ (a q k : Nat) (o : xv_O V) (E : va_E) (v : xv_V V) (y : Value) (x : Int32) (rest : List Value), (∀ E', xr_e g φ tys (o.1, o.2.set k v) E' → xr_m C g φ tys M' (ws.set a (q, E'))) ∧ dc = 0 ∧ ds = 0 ∧ st = y :: .int x :: .ref q :: rest ∧ xr_s g φ S' rest ∧ o.1 = t ∧ ws[a]? = some (q, E) ∧ xr_e g φ tys o E ∧ xv_fit D ty v = true ∧ xr_v g φ v y ∧ vp_in x o.2.length ∧ x.toNatClampNeg = k := by
  unfold xv_ast at h
  split at h
  · rename_i v i a S1
    obtain ⟨y, r0, rfl, hy, _, r1, rfl, ⟨x, rfl, hx⟩, _, r2, rfl, ⟨q, hq, rfl⟩, hr⟩ := hs
    split at h
    · rename_i o ho
      cases hc : Nat.beq o.1 t <;> simp only [hc, Bool.true_and, Bool.false_and, cond_true, cond_false] at h
      · cases h
      cases hd : xv_fit D ty v <;> simp only [hd, cond_true, cond_false] at h
      · cases h
      split at h
      · rename_i k hk
        obtain ⟨rfl, rfl, rfl, rfl⟩ := by simpa using h
        obtain ⟨b, E, hE, he, hset⟩ := xr_m_at hm ho hq (by have := Nat.eq_of_beq_eq_true hc; omega) (by have := Nat.eq_of_beq_eq_true hc; omega)
        obtain ⟨-, hin, hcl, -⟩ := xs_ix hD hk hx
        exact ⟨b, q, k, o, E, v, y, x, r2, fun E' => hset _ E', rfl, rfl, rfl, hr, Nat.eq_of_beq_eq_true hc, hE, he, hd, hy, hin, hcl⟩
      · cases h
    · cases h
  · cases h
theorem xs_newa (hD : xv_ok D g) {t : Nat} {v : xv_V V} (h : xv_newa D M S t v = some (S', M', dc, ds)) (hs : xr_s g φ S st) : ∃ (S1 : List (xv_V V)) (n : Int32) (rest : List Value), S' = .inr (.inr (some M.length)) :: S1 ∧ M' = M ++ [(t, List.replicate ds v)] ∧ dc = 1 ∧ ds < 4096 ∧ st = .int n :: rest ∧ xr_s g φ S1 rest ∧ ¬ n < 0 ∧ n.toNatClampNeg = ds := by
  unfold xv_newa at h
  split at h
  · rename_i a S1
    obtain ⟨_, r1, rfl, ⟨x, rfl, hx⟩, hr⟩ := hs
    split at h
    · rename_i k hk
      obtain ⟨rfl, rfl, rfl, rfl⟩ := by simpa using h
      obtain ⟨h1, -, h3, h4⟩ := xs_ix hD hk hx
      exact ⟨S1, x, r1, rfl, rfl, rfl, h1, rfl, hr, h4, h3⟩
    · cases h
  · cases h
end XSN
end
section
section XSO
variable {p : Program} {l : Launch} {e : Env} {R : Room} {s : State} {m : MethodId} {args : Array Value} {below : List Frame} {meth : Method} {c : Code} {H : Heap} {locs : List Loc} {cells slots : Nat} {Q : State → Prop}
variable {cc : ByteArray} {pc : Nat} {V : Type} {C : Nat → xv_O V → Prop} {D : xv_D V} {g : V → Value → Prop} {φ : List Nat} {M M' : xv_M V} {S S' : List (xv_V V)} {ls : Array Slot} {st : List Value}
variable {Dg : va_G} {cl : List vw_C} {tys : List (ClassId × FieldType)} {A : Nat → Prop} {H0 : Heap} {ws : va_W} {dc ds : Nat}
set_option maxHeartbeats 4000000 in
/-- THE INSTRUCTIONS OF THE MEMORY -/
theorem xs_mem (hx : p.tables.exec = Jvm.exec) (hb : c.code = cc) {own : String} (hown : s.vm.findClass own = some m.cls) {Ts tb : List Jvm.Cond} (hts : ∀ w ∈ Ts, w.before args s = true) (htb : ∀ w ∈ tb, w ∈ Ts) (hD : xv_ok D g) {K : xv_K} {ct : List (List (FieldType × Bool))} {at_ : List Nat} {wn ini : Nat}
    (hC : xc_cls tb cl ct) (hF : xc_fld tb cl ct own K) (hN : xc_new tb cl at_ own K) (hY : xc_tys cl at_ tys) (hO : xc_ao cl at_ s) (hR : xc_arr tb) (hin : ini = 1 → meth.name = "<init>") (hwn : ∀ (C : String) (T : u_T) (N : Nat), cl[wn]? = some (C, T, N) → C = own)
    (hK : va_K Dg cl tys s) (hA : ∀ q, H0.size ≤ q → A q)
    (hcst : ∀ (k q : Nat) (o : xv_O V), C k o → φ[k]? = some q → ∃ (L : Nat) (xs : Nat → Int32), va_X q L xs s H0 ∧ q < H0.size ∧ ¬ A q ∧ o.2.length = L ∧ ∀ (j : Nat) (v : xv_V V), o.2[j]? = some v → xr_v g φ v (.int (xs j))) {i : Instr} (h : xv_mem D ct at_ K wn ini M S i = some (S', M', dc, ds)) (hdg : decode cc pc = .ok (i, xv_len i))
    (hm : xr_m C g φ tys M ws) (hP : va_P Dg cl ws H) (hD0 : va_D A ws) (hS : va_S A H0 H locs) (hs : xr_s g φ S st) (hc1 : cells + dc ≤ R.cells) (hc2 : slots + ds ≤ R.slots)
    (kk : ∀ (t : List Nat) (ws' : va_W) (H' : Heap) (locs' : List Loc) (st' : List Value), xr_m C g (φ ++ t) tys M' ws' → va_P Dg cl ws' H' → va_D A ws' → va_S A H0 H' locs' → xr_s g (φ ++ t) S' st' → W p l e R s m args below meth c H' locs' (cells + dc) (slots + ds) Q (F0 m (pc + xv_len i) ls st')) :
    W p l e R s m args below meth c H locs cells slots Q (F0 m pc ls st) := by
  have hmlen : M.length = φ.length := xr_m_len hm
  have k0 : ∀ (ws' : va_W) (H' : Heap) (locs' : List Loc) (st' : List Value), xr_m C g φ tys M' ws' → va_P Dg cl ws' H' → va_D A ws' → va_S A H0 H' locs' → xr_s g φ S' st' → W p l e R s m args below meth c H' locs' (cells + dc) (slots + ds) Q (F0 m (pc + xv_len i) ls st') := fun ws' H' locs' st' a b c d f => by
    have q := kk [] ws' H' locs' st'
    rw [List.append_nil] at q
    exact q a b c d f
  cases i
  all_goals (first | (simp only [xv_mem, reduceCtorEq] at h; done) | skip)
  case getfield i =>
    simp only [xv_mem] at h
    split at h
    · rename_i ck hck
      split at h
      · rename_i a S1
        obtain ⟨_, r1, rfl, ⟨q, hq, rfl⟩, hr⟩ := hs
        split at h
        · rename_i o ho
          cases hc : Nat.beq o.1 (8 + ck.1) <;> simp only [hc, cond_true, cond_false] at h
          · cases h
          split at h
          · rename_i v hv
            obtain ⟨rfl, rfl, rfl, rfl⟩ := by simpa using h
            obtain ⟨b, E, hE, he, -⟩ := xr_m_at hm ho hq (by have := Nat.eq_of_beq_eq_true hc; omega) (by have := Nat.eq_of_beq_eq_true hc; omega)
            obtain ⟨fs, rfl, hl, hfs⟩ := xr_e_obj he (Nat.eq_of_beq_eq_true hc)
            obtain ⟨x, hx1, hx2⟩ := hfs _ _ hv
            obtain ⟨fd, f, C, T, hct, hf, hcl, hlink⟩ := hF i ck hck
            obtain ⟨-, hu, -⟩ := xc_at hC hct hcl
            exact va_get hx hb (ref := (T ck.2).1) hts (fun w hw => htb _ (hu w hw)) hown hK hP b hE hcl ck.2 (List.getElem?_eq_some_iff.mp hf).1 (hts _ (htb _ hlink)) (fun _ z => z) hx1 hdg (k0 _ _ _ _ hm hP hD0 hS ⟨_, _, rfl, hx2, hr⟩)
          · cases h
        · cases h
      · cases h
    · cases h
  case putfield i =>
    simp only [xv_mem] at h
    split at h
    · rename_i ck hck
      split at h
      · rename_i v a S1
        obtain ⟨y, r0, rfl, hy, _, r1, rfl, ⟨q, hq, rfl⟩, hr⟩ := hs
        split at h
        · rename_i o ho
          cases hc : Nat.beq o.1 (8 + ck.1) <;> simp only [hc, Bool.true_and, Bool.false_and, cond_true, cond_false] at h
          · cases h
          cases hlt : Nat.blt ck.2 o.2.length <;> simp only [hlt, cond_true, cond_false] at h
          · cases h
          split at h
          · rename_i fd hct
            split at h
            · rename_i f hf
              cases hfit : xv_fit D f.1 v <;> simp only [hfit, Bool.true_and, Bool.false_and, cond_true, cond_false] at h
              · cases h
              have ho8 := Nat.eq_of_beq_eq_true hc
              obtain ⟨b, E, hE, he, hset⟩ := xr_m_at hm ho hq (by omega) (by omega)
              obtain ⟨fs, rfl, hl, hfs⟩ := xr_e_obj he ho8
              obtain ⟨fd2, f2, C, T, hct2, hf2, hcl, hlink⟩ := hF i ck hck
              cases Option.some.inj (hct2.symm.trans hct)
              obtain ⟨-, hu, hfl, hnm, -, -⟩ := xc_at hC hct hcl
              obtain ⟨g1, g2, g3, g4⟩ := hfl _ _ hf
              obtain ⟨n1, n2⟩ := xs_fit hD hfit hy
              have hkN := (List.getElem?_eq_some_iff.mp hf).1
              have hklt : ck.2 < fs.length := by rw [hl]; exact Nat.le_of_ble_eq_true hlt
              have hty : ∀ k, k < fd.length → parseFieldDescriptor (T k).2.2.1 = some ((fun k => (fd.getD k (.int, false)).1) k) := fun k hk => by
                have e1 : fd[k]? = some (fd.getD k (.int, false)) := by simp [List.getD, hk]
                exact (hfl k _ e1).1
              have hnew : xr_e g φ tys (o.1, o.2.set ck.2 v) (.inr (ck.1, fs.set ck.2 y)) := by
                refine Or.inl ⟨by show 8 ≤ o.1; omega, _, by show _ = Sum.inr (o.1 - 8, _); rw [show o.1 - 8 = ck.1 by omega], by rw [List.length_set, List.length_set]; exact hl, fun j w hw => ?_⟩
                rcases xr_set hw with ⟨rfl, rfl⟩ | ⟨hne, hw⟩
                · exact ⟨y, by rw [List.getElem?_set, if_pos rfl, if_pos hklt], hy⟩
                · obtain ⟨x1, hx1, hx2⟩ := hfs _ _ hw
                  exact ⟨x1, by rw [List.getElem?_set, if_neg (fun z => hne z.symm)]; exact hx1, hx2⟩
              cases hfin : f.2
              · rw [hfin] at h
                obtain ⟨rfl, rfl, rfl, rfl⟩ := by simpa using h
                exact va_put hx hb (ref := (T ck.2).1) hts (fun w hw => htb _ (hu w hw)) _ hty hnm hown hK hP hD0 hS b hE hcl ck.2 hkN (hts _ (htb _ hlink)) (fun _ z => z) (g2.trans hfin) g1 n1 n2 hklt hdg (fun H1 locs1 hP1 hD1 hS1 => k0 _ _ _ _ (hset _ _ hnew) hP1 hD1 hS1 hr)
              · rw [hfin] at h
                cases hini : Nat.beq ini 1 <;> simp only [hini, Bool.not_true, Bool.false_or, Bool.true_and, Bool.false_and, cond_true, cond_false] at h
                · cases h
                cases hw1 : Nat.beq wn ck.1 <;> simp only [hw1, cond_true, cond_false] at h
                · cases h
                obtain ⟨rfl, rfl, rfl, rfl⟩ := by simpa using h
                have hdecl : (T ck.2).1 = own := g3.trans (hwn _ _ _ (by rw [Nat.eq_of_beq_eq_true hw1]; exact hcl))
                exact va_putF hx hb (ref := (T ck.2).1) hts (fun w hw => htb _ (hu w hw)) _ hty hnm hown hK hP hD0 hS b hE hcl ck.2 hkN (hts _ (htb _ hlink)) (fun _ z => z) (g2.trans hfin) (hin (Nat.eq_of_beq_eq_true hini)) hdecl g1 n1 n2 hklt hdg (fun H1 locs1 hP1 hD1 hS1 => k0 _ _ _ _ (hset _ _ hnew) hP1 hD1 hS1 hr)
            · cases h
          · cases h
        · cases h
      · cases h
    · cases h
  case new i =>
    simp only [xv_mem] at h
    split at h
    · rename_i ci hci
      split at h
      · rename_i fd hct
        cases hlt : Nat.blt ci 1000 <;> simp only [hlt, cond_true, cond_false] at h
        · cases h
        obtain ⟨rfl, rfl, rfl, rfl⟩ := by simpa using h
        obtain ⟨C, T, N, hcl, hlink⟩ := (hN i ci hci).1 (Nat.le_of_ble_eq_true hlt)
        obtain ⟨rfl, hu, hfl, -, hi1, hi2⟩ := xc_at hC hct hcl
        have hty : ∀ k, k < fd.length → parseFieldDescriptor (T k).2.2.1 = some ((fun k => (fd.getD k (.int, false)).1) k) := fun k hk => by
          have e1 : fd[k]? = some (fd.getD k (.int, false)) := by simp [List.getD, hk]
          exact (hfl k _ e1).1
        refine va_new (fs := fd.map (fun f => defaultValue f.1)) hx hb hts (fun w hw => htb _ (hu w hw)) _ hty hown (hts _ (htb _ hlink)) (hts _ (htb _ hi1)) (hts _ (htb _ hi2)) hK hP hD0 hS hA hcl (fun j hj => ?_) hc1 hc2 hdg (fun q H1 hP1 hD1 hS1 => ?_)
        · simp [vp_V, List.getD, hj]
        · refine kk [q] _ _ _ _ (xr_m_push hm ?_) hP1 hD1 hS1 ⟨_, _, rfl, ⟨q, by rw [hmlen]; exact xs_last φ q, rfl⟩, xr_s_mono hs⟩
          refine Or.inl ⟨by show 8 ≤ 8 + ci; omega, _, by show _ = Sum.inr (8 + ci - 8, _); rw [Nat.add_sub_cancel_left], by simp, fun j w hw => ?_⟩
          rw [List.getElem?_map] at hw
          cases hfj : fd[j]? with
          | none => rw [hfj] at hw; cases hw
          | some f =>
            rw [hfj] at hw
            cases Option.some.inj hw
            exact ⟨defaultValue f.1, by rw [List.getElem?_map, hfj]; rfl, xs_dflt hD _ (hfl _ _ hfj).2.2.2⟩
      · cases h
    · cases h
  case newarray at1 =>
    cases at1
    all_goals (first | (simp only [xv_mem, reduceCtorEq] at h; done) | skip)
    case int =>
      simp only [xv_mem] at h
      obtain ⟨S1, n, rest, rfl, rfl, rfl, hlt, rfl, hr, hn0, hn⟩ := xs_newa hD h hs
      obtain ⟨c0, ht0⟩ := hY.1
      refine va_newa (atype := .int) (a0 := (ds, .inl (fun _ => 0))) hx hb (hts _ (htb _ hR.1)) rfl hK hP hD0 hS hA (fun cA => rfl) hn0 hn (by show ds * 4 ≤ _; omega) hc1 hc2 hdg (fun q cA H1 hK1 hP1 hD1 hS1 => ?_)
      have e0 : cA = c0 := va_RA_one (hK1.2 tys.length _ (xs_last tys _)).2 (hK.2 0 _ ht0).2
      subst e0
      refine kk [q] _ _ _ _ (xr_m_push hm ?_) hP1 hD1 hS1 ⟨_, _, rfl, ⟨q, by rw [hmlen]; exact xs_last φ q, rfl⟩, xr_s_mono hr⟩
      refine Or.inr ⟨_, _, ht0, Or.inl ⟨Or.inl rfl, fun _ => 0, by show _ = Sum.inl (_, (List.replicate _ _).length, _); rw [List.length_replicate], fun j w hw => ?_⟩⟩
      cases xs_rep hw
      exact ⟨0, rfl, hD.1 0⟩
    case long =>
      simp only [xv_mem] at h
      obtain ⟨S1, n, rest, rfl, rfl, rfl, hlt, rfl, hr, hn0, hn⟩ := xs_newa hD h hs
      obtain ⟨c0, ht0⟩ := hY.2.1
      refine va_newa (atype := .long) (a0 := (ds, .inr (.inl (fun _ => 0)))) hx hb (hts _ (htb _ hR.2.1)) rfl hK hP hD0 hS hA (fun cA => rfl) hn0 hn (by show ds * 8 ≤ _; omega) hc1 hc2 hdg (fun q cA H1 hK1 hP1 hD1 hS1 => ?_)
      have e0 : cA = c0 := va_RA_one (hK1.2 tys.length _ (xs_last tys _)).2 (hK.2 1 _ ht0).2
      subst e0
      refine kk [q] _ _ _ _ (xr_m_push hm ?_) hP1 hD1 hS1 ⟨_, _, rfl, ⟨q, by rw [hmlen]; exact xs_last φ q, rfl⟩, xr_s_mono hr⟩
      refine Or.inr ⟨_, _, ht0, Or.inr (Or.inl ⟨rfl, fun _ => 0, by show _ = Sum.inl (_, (List.replicate _ _).length, _); rw [List.length_replicate], fun j w hw => ?_⟩)⟩
      cases xs_rep hw
      exact ⟨0, rfl, hD.2.1 0⟩
    case boolean =>
      simp only [xv_mem] at h
      obtain ⟨S1, n, rest, rfl, rfl, rfl, hlt, rfl, hr, hn0, hn⟩ := xs_newa hD h hs
      obtain ⟨c0, ht0⟩ := hY.2.2.1
      refine va_newa (atype := .boolean) (a0 := (ds, .inl (fun _ => 0))) hx hb (hts _ (htb _ hR.2.2)) rfl hK hP hD0 hS hA (fun cA => rfl) hn0 hn (by show ds * 1 ≤ _; omega) hc1 hc2 hdg (fun q cA H1 hK1 hP1 hD1 hS1 => ?_)
      have e0 : cA = c0 := va_RA_one (hK1.2 tys.length _ (xs_last tys _)).2 (hK.2 2 _ ht0).2
      subst e0
      refine kk [q] _ _ _ _ (xr_m_push hm ?_) hP1 hD1 hS1 ⟨_, _, rfl, ⟨q, by rw [hmlen]; exact xs_last φ q, rfl⟩, xr_s_mono hr⟩
      refine Or.inr ⟨_, _, ht0, Or.inl ⟨Or.inr rfl, fun _ => 0, by show _ = Sum.inl (_, (List.replicate _ _).length, _); rw [List.length_replicate], fun j w hw => ?_⟩⟩
      cases xs_rep hw
      exact ⟨0, rfl, hD.1 0⟩
  case anewarray i =>
    simp only [xv_mem] at h
    split at h
    · rename_i ci hci
      cases h1 : Nat.ble 1000 ci <;> simp only [h1, Bool.true_and, Bool.false_and, cond_true, cond_false] at h
      · cases h
      cases h2 : Nat.blt ci 1003 <;> simp only [h2, cond_true, cond_false] at h
      · cases h
      have g1 := Nat.le_of_ble_eq_true h1
      have g2 : ci < 1003 := Nat.le_of_ble_eq_true h2
      obtain ⟨S1, n, rest, rfl, rfl, rfl, hlt, rfl, hr, hn0, hn⟩ := xs_newa hD h hs
      obtain ⟨cj, C, T, N, hat, hcl, hlink⟩ := (hN _ ci hci).2 g1
      rw [Nat.add_sub_cancel_left] at hlink
      obtain ⟨c0, ht0⟩ := hY.2.2.2.1 _ _ _ _ _ hat hcl
      rw [show 4 + (ci - 1000) = ci - 996 by omega] at ht0
      refine va_newq hx hb hown (hts _ (htb _ hlink)) (hO _ _ _ _ _ hat hcl) hK hP hD0 hS hA hn0 hn (by omega) hc1 hc2 hdg (fun q cA H1 hK1 hP1 hD1 hS1 => ?_)
      have e0 : cA = c0 := va_RA_one (hK1.2 tys.length _ (xs_last tys _)).2 (hK.2 _ _ ht0).2
      subst e0
      refine kk [q] _ _ _ _ (xr_m_push hm ?_) hP1 hD1 hS1 ⟨_, _, rfl, ⟨q, by rw [hmlen]; exact xs_last φ q, rfl⟩, xr_s_mono hr⟩
      refine Or.inr ⟨_, _, ht0, Or.inr (Or.inr ⟨⟨by show 4 ≤ ci - 996; omega, by show ci - 996 < 7; omega⟩, fun _ => none, by show _ = Sum.inl (_, (List.replicate _ _).length, _); rw [List.length_replicate], fun j w hw => ?_⟩)⟩
      cases xs_rep hw
      exact rfl
    · cases h
  case arraylength =>
    simp only [xv_mem] at h
    split at h
    · rename_i a S1
      obtain ⟨_, r1, rfl, ⟨q, hq, rfl⟩, hr⟩ := hs
      split at h
      · rename_i o ho
        cases h1 : Nat.blt o.1 7 <;> simp only [h1, Bool.true_and, Bool.false_and, cond_true, cond_false] at h
        · cases h
        cases h2 : Nat.ble o.2.length 4096 <;> simp only [h2, cond_true, cond_false] at h
        · cases h
        obtain ⟨rfl, rfl, rfl, rfl⟩ := by simpa using h
        have g1 : o.1 < 7 := Nat.le_of_ble_eq_true h1
        have hx0 : xr_v g φ (Sum.inl (D.1 (Int32.ofNat o.2.length))) (.int (Int32.ofNat o.2.length)) := ⟨_, rfl, hD.1 _⟩
        by_cases h33 : o.1 = 3
        · obtain ⟨L, xs, g1, g2, g3, g4, -⟩ := hcst _ _ _ (xr_m_cst hm ho h33) hq
          rw [g4] at hx0 k0
          exact va_slen hx hb g1 g2 g3 hS hdg (k0 _ _ _ _ hm hP hD0 hS ⟨_, _, rfl, hx0, hr⟩)
        obtain ⟨b, E, hE, he, -⟩ := xr_m_at hm ho hq (by omega) h33
        rcases he with ⟨h8, -⟩ | ⟨cA, ty, ht, he | he | he⟩
        · omega
        · obtain ⟨-, f, rfl, -⟩ := he
          exact va_alen hx hb hK hP b o.1 hE ht rfl hdg (k0 _ _ _ _ hm hP hD0 hS ⟨_, _, rfl, hx0, hr⟩)
        · obtain ⟨-, f, rfl, -⟩ := he
          exact va_alen hx hb hK hP b o.1 hE ht rfl hdg (k0 _ _ _ _ hm hP hD0 hS ⟨_, _, rfl, hx0, hr⟩)
        · obtain ⟨-, f, rfl, -⟩ := he
          exact va_alen hx hb hK hP b o.1 hE ht rfl hdg (k0 _ _ _ _ hm hP hD0 hS ⟨_, _, rfl, hx0, hr⟩)
      · cases h
    · cases h
  case iaload =>
    simp only [xv_mem] at h
    split at h
    rotate_left
    · unfold xv_ald at h
      split at h
      · rename_i i a S1
        obtain ⟨_, r1, rfl, ⟨x, rfl, hx1⟩, _, r2, rfl, ⟨q, hq, rfl⟩, hr⟩ := hs
        split at h
        · rename_i o ho
          cases hc : Nat.ble 3 o.1 <;> simp only [hc, Bool.true_and, Bool.false_and, cond_true, cond_false] at h
          · cases h
          cases hd : Nat.ble o.1 3 <;> simp only [hd, cond_true, cond_false] at h
          · cases h
          split at h
          · rename_i k hk
            split at h
            · rename_i v hv
              obtain ⟨rfl, rfl, rfl, rfl⟩ := by simpa using h
              have l1 := Nat.le_of_ble_eq_true hc
              have l2 := Nat.le_of_ble_eq_true hd
              obtain ⟨L, xs, g1, g2, g3, g4, g5⟩ := hcst _ _ _ (xr_m_cst hm ho (by omega)) hq
              obtain ⟨-, hin1, rfl, -⟩ := xs_ix hD hk hx1
              rw [g4] at hin1
              exact va_sld hx hb g1 g2 g3 hS hin1 hdg (k0 _ _ _ _ hm hP hD0 hS ⟨_, _, rfl, g5 _ _ hv, hr⟩)
            · cases h
          · cases h
        · cases h
      · cases h
    rename_i r0 h0
    cases Option.some.inj h
    have h := h0
    obtain ⟨a, q, k, o, E, v, S1, x, rest, rfl, rfl, rfl, rfl, rfl, hr, ho, hE, he, hv, hin1, rfl⟩ := xs_ald hD (by decide) h hs hm
    have ho0 : o.1 = 0 := by omega
    obtain ⟨cA, ty, f, ht, rfl, hf⟩ := xr_e_int he (Or.inl ho0)
    obtain ⟨c0, ht0⟩ := hY.1
    rw [ho0] at ht
    cases Option.some.inj (ht.symm.trans ht0)
    exact va_iald hx hb hK hP a 0 hE ht0 hin1 hdg (k0 _ _ _ _ hm hP hD0 hS ⟨_, _, rfl, hf _ _ hv, hr⟩)
  case baload =>
    simp only [xv_mem] at h
    obtain ⟨a, q, k, o, E, v, S1, x, rest, rfl, rfl, rfl, rfl, rfl, hr, ho, hE, he, hv, hin1, rfl⟩ := xs_ald hD (by decide) h hs hm
    have ho0 : o.1 = 2 := by omega
    obtain ⟨cA, ty, f, ht, rfl, hf⟩ := xr_e_int he (Or.inr ho0)
    obtain ⟨c0, ht0⟩ := hY.2.2.1
    rw [ho0] at ht
    cases Option.some.inj (ht.symm.trans ht0)
    exact va_zald hx hb hK hP a 2 hE ht0 hin1 hdg (k0 _ _ _ _ hm hP hD0 hS ⟨_, _, rfl, hf _ _ hv, hr⟩)
  case laload =>
    simp only [xv_mem] at h
    obtain ⟨a, q, k, o, E, v, S1, x, rest, rfl, rfl, rfl, rfl, rfl, hr, ho, hE, he, hv, hin1, rfl⟩ := xs_ald hD (by decide) h hs hm
    have ho0 : o.1 = 1 := by omega
    obtain ⟨cA, ty, f, ht, rfl, hf⟩ := xr_e_long he ho0
    obtain ⟨c0, ht0⟩ := hY.2.1
    rw [ho0] at ht
    cases Option.some.inj (ht.symm.trans ht0)
    exact va_lald hx hb hK hP a 1 hE ht0 hin1 hdg (k0 _ _ _ _ hm hP hD0 hS ⟨_, _, rfl, hf _ _ hv, hr⟩)
  case aaload =>
    simp only [xv_mem] at h
    obtain ⟨a, q, k, o, E, v, S1, x, rest, rfl, rfl, rfl, rfl, rfl, hr, ho, hE, he, hv, hin1, rfl⟩ := xs_ald hD (by decide) h hs hm
    obtain ⟨cA, ty, f, ht, rfl, hf⟩ := xr_e_ref he ⟨ho.1, by omega⟩
    obtain ⟨C, rfl⟩ : ∃ C, ty = .object C := hY.2.2.2.2 _ _ ho.1 ht
    exact va_aldq hx hb hK hP a _ hE ht hin1 hdg (k0 _ _ _ _ hm hP hD0 hS ⟨_, _, rfl, hf _ _ hv, hr⟩)
  case iastore =>
    simp only [xv_mem] at h
    obtain ⟨a, q, k, o, E, v, y, x, rest, hset, rfl, rfl, rfl, hr, ho0, hE, he, hfit, hy, hin1, rfl⟩ := xs_ast hD (by decide) h hs hm
    obtain ⟨cA, ty, f, ht, rfl, hf⟩ := xr_e_int he (Or.inl ho0)
    obtain ⟨c0, ht0⟩ := hY.1
    rw [ho0] at ht
    cases Option.some.inj (ht.symm.trans ht0)
    rcases v with va | va | (_ | va) <;> first | (simp only [xv_fit, Bool.false_eq_true] at hfit; done) | skip
    obtain ⟨n, rfl, hn⟩ := hy
    refine va_iast hx hb hK hP hD0 hS a 0 hE ht0 hin1 hdg (fun H1 locs1 hP1 hD1 hS1 => k0 _ _ _ _ (hset _ ?_) hP1 hD1 hS1 hr)
    refine Or.inr ⟨_, _, by show tys[o.1]? = _; rw [ho0]; exact ht0, Or.inl ⟨Or.inl ho0, _, by show _ = Sum.inl (_, (List.set _ _ _).length, _); rw [List.length_set], fun j w hw => ?_⟩⟩
    rcases xr_set hw with ⟨rfl, rfl⟩ | ⟨hne, hw⟩
    · exact ⟨n, by rw [pk_us], hn⟩
    · rw [pk_un hne]
      exact hf _ _ hw
  case bastore =>
    simp only [xv_mem] at h
    obtain ⟨a, q, k, o, E, v, y, x, rest, hset, rfl, rfl, rfl, hr, ho0, hE, he, hfit, hy, hin1, rfl⟩ := xs_ast hD (by decide) h hs hm
    obtain ⟨cA, ty, f, ht, rfl, hf⟩ := xr_e_int he (Or.inr ho0)
    obtain ⟨c0, ht0⟩ := hY.2.2.1
    rw [ho0] at ht
    cases Option.some.inj (ht.symm.trans ht0)
    rcases v with va | va | (_ | va) <;> first | (simp only [xv_fit, Bool.false_eq_true] at hfit; done) | skip
    obtain ⟨n, rfl, hn⟩ := hy
    have hnar : vp_nar .boolean n = n := by
      rcases hD.2.2.2.2.2.2.2.2.2.2.2 va n hfit hn with rfl | rfl
      · rfl
      · rfl
    refine va_zast hx hb hK hP hD0 hS a 2 hE ht0 hin1 hdg (fun H1 locs1 hP1 hD1 hS1 => k0 _ _ _ _ (hset _ ?_) hP1 hD1 hS1 hr)
    refine Or.inr ⟨_, _, by show tys[o.1]? = _; rw [ho0]; exact ht0, Or.inl ⟨Or.inr ho0, _, by show _ = Sum.inl (_, (List.set _ _ _).length, _); rw [List.length_set], fun j w hw => ?_⟩⟩
    rcases xr_set hw with ⟨rfl, rfl⟩ | ⟨hne, hw⟩
    · exact ⟨n, by rw [pk_us, hnar], hn⟩
    · rw [pk_un hne]
      exact hf _ _ hw
  case lastore =>
    simp only [xv_mem] at h
    obtain ⟨a, q, k, o, E, v, y, x, rest, hset, rfl, rfl, rfl, hr, ho0, hE, he, hfit, hy, hin1, rfl⟩ := xs_ast hD (by decide) h hs hm
    obtain ⟨cA, ty, f, ht, rfl, hf⟩ := xr_e_long he ho0
    obtain ⟨c0, ht0⟩ := hY.2.1
    rw [ho0] at ht
    cases Option.some.inj (ht.symm.trans ht0)
    rcases v with va | va | (_ | va) <;> first | (simp only [xv_fit, Bool.false_eq_true] at hfit; done) | skip
    obtain ⟨n, rfl, hn⟩ := hy
    refine va_last hx hb hK hP hD0 hS a 1 hE ht0 hin1 hdg (fun H1 locs1 hP1 hD1 hS1 => k0 _ _ _ _ (hset _ ?_) hP1 hD1 hS1 hr)
    refine Or.inr ⟨_, _, by show tys[o.1]? = _; rw [ho0]; exact ht0, Or.inr (Or.inl ⟨ho0, _, by show _ = Sum.inl (_, (List.set _ _ _).length, _); rw [List.length_set], fun j w hw => ?_⟩)⟩
    rcases xr_set hw with ⟨rfl, rfl⟩ | ⟨hne, hw⟩
    · exact ⟨n, by rw [pk_uLs], hn⟩
    · rw [pk_uLn hne]
      exact hf _ _ hw
  case aastore =>
    simp only [xv_mem] at h
    split at h
    · rename_i v i a S1
      obtain ⟨_, r0, rfl, ⟨qv, hqv, rfl⟩, _, r1, rfl, ⟨x, rfl, hx1⟩, _, r2, rfl, ⟨q, hq, rfl⟩, hr⟩ := hs
      split at h
      · rename_i o ov ho hov
        split at h
        · rename_i ci hat
          cases h1 : Nat.ble 4 o.1 <;> simp only [h1, Bool.true_and, Bool.false_and, cond_true, cond_false] at h
          · cases h
          cases h2 : Nat.blt o.1 7 <;> simp only [h2, Bool.true_and, Bool.false_and, cond_true, cond_false] at h
          · cases h
          cases h3 : Nat.beq ov.1 (8 + ci) <;> simp only [h3, cond_true, cond_false] at h
          · cases h
          split at h
          · rename_i k hk
            obtain ⟨rfl, rfl, rfl, rfl⟩ := by simpa using h
            have g1 := Nat.le_of_ble_eq_true h1
            have g2 : o.1 < 7 := Nat.le_of_ble_eq_true h2
            obtain ⟨b, E, hE, he, hset⟩ := xr_m_at hm ho hq (by omega) (by omega)
            obtain ⟨bv, Ev, hEv, hev, -⟩ := xr_m_at hm hov hqv (by have := Nat.eq_of_beq_eq_true h3; omega) (by have := Nat.eq_of_beq_eq_true h3; omega)
            obtain ⟨fs, rfl, -⟩ := xr_e_obj hev (Nat.eq_of_beq_eq_true h3)
            obtain ⟨cA, ty, f, ht, rfl, hf⟩ := xr_e_ref he ⟨g1, g2⟩
            obtain ⟨-, hin1, rfl, -⟩ := xs_ix hD hk hx1
            obtain ⟨r, hr1, -⟩ := hP bv _ hEv
            obtain ⟨C, T, N⟩ := r
            obtain ⟨c0, ht0⟩ := hY.2.2.2.1 _ _ _ _ _ hat hr1
            rw [show 4 + (o.1 - 4) = o.1 by omega] at ht0
            cases Option.some.inj (ht.symm.trans ht0)
            refine va_astq hx hb hK hP hD0 hS b o.1 bv ci hE ht0 hEv hr1 hin1 hdg (fun H1 locs1 hP1 hD1 hS1 => k0 _ _ _ _ (hset _ _ ?_) hP1 hD1 hS1 hr)
            refine Or.inr ⟨_, _, ht0, Or.inr (Or.inr ⟨⟨g1, g2⟩, _, by show _ = Sum.inl (_, (List.set _ _ _).length, _); rw [List.length_set], fun j w hw => ?_⟩)⟩
            rcases xr_set hw with ⟨rfl, rfl⟩ | ⟨hne, hw⟩
            · exact ⟨qv, hqv, by simp [va_up, va_rf]⟩
            · have := hf _ _ hw
              simpa [va_up, hne] using this
          · cases h
        · cases h
      · cases h
    · cases h
end XSO
end
section
section XSR
variable {V : Type} {D : xv_D V} {g : V → Value → Prop} {φ : List Nat} {tys : List (ClassId × FieldType)}
theorem xr_s_len : ∀ {S : List (xv_V V)} {st : List Value}, xr_s g φ S st → st.length = S.length
  | [], _, h => by rw [show _ = ([] : List Value) from h]; rfl
  | _ :: _, _, ⟨_, _, e, _, k⟩ => by rw [e, List.length_cons, List.length_cons, xr_s_len k]
theorem xr_s_app : ∀ {S S2 : List (xv_V V)} {st st2 : List Value}, xr_s g φ S st → xr_s g φ S2 st2 → xr_s g φ (S ++ S2) (st ++ st2)
  | [], _, _, _, h, h2 => by rw [show _ = ([] : List Value) from h]; exact h2
  | _ :: _, _, _, _, ⟨x, r, e, hv, k⟩, h2 => by rw [e]; exact ⟨x, r ++ _, rfl, hv, xr_s_app k h2⟩
theorem xr_s_take : ∀ {S : List (xv_V V)} {st : List Value} (n : Nat), xr_s g φ S st → xr_s g φ (S.take n) (st.take n)
  | _, _, 0, _ => by rw [List.take_zero, List.take_zero]; exact rfl
  | [], _, n + 1, h => by rw [show _ = ([] : List Value) from h]; exact rfl
  | _ :: _, _, n + 1, ⟨x, r, e, hv, k⟩ => by rw [e, List.take_succ_cons, List.take_succ_cons]; exact ⟨x, _, rfl, hv, xr_s_take n k⟩
theorem xr_s_drop : ∀ {S : List (xv_V V)} {st : List Value} (n : Nat), xr_s g φ S st → xr_s g φ (S.drop n) (st.drop n)
  | _, _, 0, h => by rw [List.drop_zero, List.drop_zero]; exact h
  | [], _, n + 1, h => by rw [show _ = ([] : List Value) from h]; exact rfl
  | _ :: _, _, n + 1, ⟨x, r, e, hv, k⟩ => by rw [e, List.drop_succ_cons, List.drop_succ_cons]; exact xr_s_drop n k
theorem xr_s_rev : ∀ {S : List (xv_V V)} {st : List Value}, xr_s g φ S st → xr_s g φ S.reverse st.reverse
  | [], _, h => by rw [show _ = ([] : List Value) from h]; exact rfl
  | _ :: _, _, ⟨x, r, e, hv, k⟩ => by
    rw [e, List.reverse_cons, List.reverse_cons]
    exact xr_s_app (xr_s_rev k) ⟨x, [], rfl, hv, rfl⟩
theorem xr_s_sl : ∀ {S : List (xv_V V)} {st : List Value}, xr_s g φ S st → (lg_sl st).length = xv_cats S
  | [], _, h => by rw [show _ = ([] : List Value) from h]; rfl
  | v :: _, _, ⟨x, r, e, hv, k⟩ => by
    have hc := xr_v_cat hv
    have ih := xr_s_sl k
    rw [e]
    have h2 : lg_sl (x :: r) = (if x.category = 2 then [.val x, .second] else [.val x]) ++ lg_sl r := by simp [lg_sl]
    rw [h2, List.length_append, ih]
    show _ = xv_cat v + _
    rcases lv_cat x with q | q
    · rw [if_neg (by rw [q]; decide), ← hc, q]; rfl
    · rw [if_pos q, ← hc, q]; rfl
theorem xv_in_len : ∀ (as : List (xv_V V)) (n : Nat), xv_cats as ≤ n → (xv_in as n).length = n
  | [], n, _ => by simp [xv_in]
  | .inr (.inl a) :: r, n, h => by
    have h1 : 2 + xv_cats r ≤ n := h
    simp only [xv_in, List.length_cons]
    rw [xv_in_len r (n - 2) (by omega)]
    omega
  | .inl a :: r, n, h => by
    have h1 : 1 + xv_cats r ≤ n := h
    simp only [xv_in, List.length_cons]
    rw [xv_in_len r (n - 1) (by omega)]
    omega
  | .inr (.inr a) :: r, n, h => by
    have h1 : 1 + xv_cats r ≤ n := h
    simp only [xv_in, List.length_cons]
    rw [xv_in_len r (n - 1) (by omega)]
    omega
theorem xv_in_at : ∀ {as : List (xv_V V)} {vs : List Value} (k n i : Nat) {v : xv_V V}, xr_s g φ as vs → (xv_in as n)[i]? = some (some v) → ∃ x : Value, (k + i, x) ∈ lv_args k vs ∧ xr_v g φ v x
  | [], _, k, n, i, v, _, h => by
    simp only [xv_in] at h
    have := List.eq_of_mem_replicate (List.mem_of_getElem? h)
    cases this
  | .inr (.inl a) :: r, _, k, n, i, v, ⟨x, vr, e, hv, hr⟩, h => by
    have hc : x.category = 2 := xr_v_cat hv
    rw [e]
    simp only [lv_args, hc, if_true]
    simp only [xv_in] at h
    match i, h with
    | 0, h =>
      cases Option.some.inj (Option.some.inj h)
      exact ⟨x, List.mem_cons_self, hv⟩
    | 1, h => simp at h
    | j + 2, h =>
      obtain ⟨y, hy, hyv⟩ := xv_in_at (k + 2) (n - 2) j hr (by simpa using h)
      exact ⟨y, List.mem_cons_of_mem _ (by rw [show k + (j + 2) = k + 2 + j by omega]; exact hy), hyv⟩
  | .inl a :: r, _, k, n, i, v, ⟨x, vr, e, hv, hr⟩, h => by
    have hc : x.category = 1 := xr_v_cat hv
    rw [e]
    simp only [lv_args, hc]
    simp only [xv_in] at h
    match i, h with
    | 0, h =>
      cases Option.some.inj (Option.some.inj h)
      exact ⟨x, List.mem_cons_self, hv⟩
    | j + 1, h =>
      obtain ⟨y, hy, hyv⟩ := xv_in_at (k + 1) (n - 1) j hr (by simpa using h)
      exact ⟨y, List.mem_cons_of_mem _ (by rw [show k + (j + 1) = k + 1 + j by omega]; exact hy), hyv⟩
  | .inr (.inr a) :: r, _, k, n, i, v, ⟨x, vr, e, hv, hr⟩, h => by
    have hc : x.category = 1 := xr_v_cat hv
    rw [e]
    simp only [lv_args, hc]
    simp only [xv_in] at h
    match i, h with
    | 0, h =>
      cases Option.some.inj (Option.some.inj h)
      exact ⟨x, List.mem_cons_self, hv⟩
    | j + 1, h =>
      obtain ⟨y, hy, hyv⟩ := xv_in_at (k + 1) (n - 1) j hr (by simpa using h)
      exact ⟨y, List.mem_cons_of_mem _ (by rw [show k + (j + 1) = k + 1 + j by omega]; exact hy), hyv⟩
/-- what a copy lays -/
theorem xs_cpy {f h : Nat → Int32} {xa xb : List (xv_V V)} {sp dp n j : Nat} {v : xv_V V} (ha : ∀ (j : Nat) (v : xv_V V), xa[j]? = some v → xr_v g φ v (.int (f j))) (hb : ∀ (j : Nat) (v : xv_V V), xb[j]? = some v → xr_v g φ v (.int (h j))) (h1 : sp + n ≤ xa.length) (h2 : dp + n ≤ xb.length)
    (hv : (xb.take dp ++ ((xa.drop sp).take n ++ xb.drop (dp + n)))[j]? = some v) : xr_v g φ v (.int (va_cpy f h sp dp n j)) := by
  unfold va_cpy
  have l1 : (xb.take dp).length = dp := by rw [List.length_take]; omega
  have l2 : ((xa.drop sp).take n).length = n := by rw [List.length_take, List.length_drop]; omega
  by_cases q1 : j < dp
  · rw [List.getElem?_append_left (by omega), List.getElem?_take, if_pos q1] at hv
    rw [if_neg (by omega)]
    exact hb _ _ hv
  · rw [List.getElem?_append_right (by omega), l1] at hv
    by_cases q2 : j < dp + n
    · rw [List.getElem?_append_left (by omega), List.getElem?_take, if_pos (by omega), List.getElem?_drop] at hv
      rw [if_pos ⟨by omega, q2⟩]
      exact ha _ _ hv
    · rw [List.getElem?_append_right (by omega), l2, List.getElem?_drop] at hv
      rw [if_neg (by omega)]
      rw [show dp + n + (j - dp - n) = j by omega] at hv
      exact hb _ _ hv
end XSR
section XST
variable {p : Program} {l : Launch} {e : Env} {R : Room} {s : State} {m : MethodId} {args : Array Value} {below : List Frame} {meth : Method} {c : Code} {H : Heap} {locs : List Loc} {cells slots : Nat} {Q : State → Prop}
variable {cc : ByteArray} {pc : Nat} {V : Type} {C : Nat → xv_O V → Prop} {D : xv_D V} {g : V → Value → Prop} {φ : List Nat} {M M' : xv_M V} {S S' : List (xv_V V)} {ls : Array Slot} {st : List Value}
variable {Dg : va_G} {cl : List vw_C} {tys : List (ClassId × FieldType)} {A : Nat → Prop} {H0 : Heap} {ws : va_W}
set_option maxHeartbeats 4000000 in
/-- CALLS THAT ARE NO WALK -/
theorem xs_nat (hx : p.tables.exec = Jvm.exec) (hb : c.code = cc) (hml : c.maxLocals = ls.size) {own : String} (hown : s.vm.findClass own = some m.cls) (hD : xv_ok D g) {K : xv_K} {at_ : List Nat} (hY : xc_tys cl at_ tys)
    (h5 : ∀ i j : Nat, xv_find K.2.1 i = some (5, j) → (Jvm.Cond.methodLink own i Lib.objectInit).before args s = true) (h5i : (Jvm.Cond.instanceMethod Lib.objectInit).before args s = true) (h5c : (Jvm.Cond.code Lib.objectInit ⟨#[0xb1]⟩ 1 none).before args s = true)
    (h6 : ∀ i j : Nat, xv_find K.2.1 i = some (6, j) → (Jvm.Cond.methodLink own i arraycopyName).before args s = true) (h6n : (Jvm.Cond.native arraycopyName).before args s = true) (h6s : (Jvm.Cond.static arraycopyName).before args s = true) (h6i : (Jvm.Cond.initialized "java/lang/System").before args s = true)
    {sct : List (List Int32)}
    (hch : ∀ (i j n k : Nat) (cs : List Int32) (b x : Int32) (q : Nat) (rest : List Value), xv_find K.2.1 i = some (4, j) → sct[n]? = some cs → cs[k]? = some b → x.toNatClampNeg = k → ¬ x < 0 → φ[n]? = some q → (rest.map fun v => v.category).sum ≤ 8 → decode cc pc = .ok (.invokevirtual i, 3) → W p l e R s m args below meth c H locs cells slots Q (F0 m (pc + 3) ls (.int (b &&& 255) :: rest)) → W p l e R s m args below meth c H locs cells slots Q (F0 m pc ls (.int x :: .ref q :: rest)))
    (hRf : 1 ≤ R.frames) (hRl : 44 ≤ R.locals) (hK : va_K Dg cl tys s) {i : Instr} (h : xv_nat D sct K M S i = some (S', M')) (hdg : decode cc pc = .ok (i, xv_len i))
    (hm : xr_m C g φ tys M ws) (hP : va_P Dg cl ws H) (hD0 : va_D A ws) (hS : va_S A H0 H locs) (hs : xr_s g φ S st)
    (kk : ∀ (ws' : va_W) (H' : Heap) (locs' : List Loc) (st' : List Value), xr_m C g φ tys M' ws' → va_P Dg cl ws' H' → va_D A ws' → va_S A H0 H' locs' → xr_s g φ S' st' → W p l e R s m args below meth c H' locs' cells slots Q (F0 m (pc + 3) ls st')) :
    W p l e R s m args below meth c H locs cells slots Q (F0 m pc ls st) := by
  cases i
  all_goals (first | (simp only [xv_nat, reduceCtorEq] at h; done) | skip)
  case invokespecial i =>
    simp only [xv_nat] at h
    split at h
    · rename_i j hj
      split at h
      · rename_i a S1
        obtain ⟨_, r1, rfl, ⟨q, hq, rfl⟩, hr⟩ := hs
        cases hc : Nat.ble (xv_cats S1) 8 <;> simp only [hc, cond_true, cond_false] at h
        · cases h
        obtain ⟨rfl, rfl⟩ := by simpa using h
        have hcat := xr_s_cats hr
        have h8 := Nat.le_of_ble_eq_true hc
        refine W.objInit hx hb hown (h5 _ _ hj) h5i h5c rfl hml.symm rfl hdg hRf ?_ (kk _ _ _ _ hm hP hD0 hS hr)
        show 2 * 0 + _ + 12 ≤ R.locals
        rw [hcat]
        omega
      · cases h
    · cases h
  case invokestatic i =>
    simp only [xv_nat] at h
    split at h
    · rename_i j hj
      unfold xv_copy at h
      split at h
      · rename_i n dp b sp a S1
        obtain ⟨_, r0, rfl, ⟨xn, rfl, hn⟩, _, r1, rfl, ⟨xd, rfl, hd⟩, _, r2, rfl, ⟨qb, hqb, rfl⟩, _, r3, rfl, ⟨xsp, rfl, hsp⟩, _, r4, rfl, ⟨qa, hqa, rfl⟩, hr⟩ := hs
        split at h
        · rename_i oa ob hoa hob
          cases h1 : Nat.beq oa.1 0 <;> simp only [h1, Bool.true_and, Bool.false_and, cond_true, cond_false] at h
          · cases h
          cases h2 : Nat.beq ob.1 0 <;> simp only [h2, Bool.true_and, Bool.false_and, cond_true, cond_false] at h
          · cases h
          cases h3 : Nat.ble (xv_cats S1) 8 <;> simp only [h3, cond_true, cond_false] at h
          · cases h
          split at h
          · rename_i n' dp' sp' en ed es
            cases h4 : Nat.ble (sp' + n') oa.2.length <;> simp only [h4, Bool.true_and, Bool.false_and, cond_true, cond_false] at h
            · cases h
            cases h55 : Nat.ble (dp' + n') ob.2.length <;> simp only [h55, cond_true, cond_false] at h
            · cases h
            obtain ⟨rfl, rfl⟩ := by simpa using h
            obtain ⟨-, -, cn, nn⟩ := xs_ix hD en hn
            obtain ⟨-, -, cd, nd⟩ := xs_ix hD ed hd
            obtain ⟨-, -, csp, nsp⟩ := xs_ix hD es hsp
            have l4 := Nat.le_of_ble_eq_true h4
            have l5 := Nat.le_of_ble_eq_true h55
            have z1 := Nat.eq_of_beq_eq_true h1
            have z2 := Nat.eq_of_beq_eq_true h2
            obtain ⟨ia, Ea, hEa, hea, -⟩ := xr_m_at hm hoa hqa (by omega) (by omega)
            obtain ⟨ib, Eb, hEb, heb, hset⟩ := xr_m_at hm hob hqb (by omega) (by omega)
            obtain ⟨cA, ty, f, ht, rfl, hf⟩ := xr_e_int hea (Or.inl z1)
            obtain ⟨cB, tyb, f2, ht2, rfl, hf2⟩ := xr_e_int heb (Or.inl z2)
            obtain ⟨c0, ht0⟩ := hY.1
            rw [z1] at ht
            rw [z2] at ht2
            cases Option.some.inj (ht.symm.trans ht0)
            cases Option.some.inj (ht2.symm.trans ht0)
            have hcat := xr_s_cats hr
            have h8 := Nat.le_of_ble_eq_true h3
            refine va_copyi hx hb hml hown (h6 _ _ hj) h6n h6s h6i hK hP hD0 hS ia ib 0 0 hEa hEb ht0 ht0 rfl nsp nd nn (by rw [csp, cn]; exact l4) (by rw [cd, cn]; exact l5) (fun _ _ => rfl) hRf ?_ hdg (fun H1 locs1 hP1 hD1 hS1 => kk _ _ _ _ (hset _ _ ?_) hP1 hD1 hS1 hr)
            · rw [hcat, show nativeFrameWords "java/lang/System" "arraycopy" 5 = 7 by decide]
              omega
            · rw [cn, cd, csp]
              have hlen : (ob.2.take dp' ++ ((oa.2.drop sp').take n' ++ ob.2.drop (dp' + n'))).length = ob.2.length := by
                rw [List.length_append, List.length_append, List.length_take, List.length_take, List.length_drop, List.length_drop]
                omega
              refine Or.inr ⟨_, _, ht0, Or.inl ⟨Or.inl rfl, _, by rw [hlen], fun j w hw => ?_⟩⟩
              exact xs_cpy hf hf2 l4 l5 hw
          · cases h
        · cases h
      · cases h
    · cases h
  case invokevirtual i =>
    simp only [xv_nat] at h
    split at h
    · rename_i j hj
      split at h
      · rename_i a n S1
        obtain ⟨_, r0, rfl, ⟨x, rfl, hx1⟩, _, r1, rfl, ⟨q, hq, rfl⟩, hr⟩ := hs
        split at h
        · rename_i cs hcs
          split at h
          · rename_i k hk
            split at h
            · rename_i b hb1
              cases h3 : Nat.ble (xv_cats S1) 8 <;> simp only [h3, cond_true, cond_false] at h
              · cases h
              obtain ⟨rfl, rfl⟩ := by simpa using h
              obtain ⟨-, -, c1, c2⟩ := xs_ix hD hk hx1
              have hcat := xr_s_cats hr
              have h8 := Nat.le_of_ble_eq_true h3
              exact hch i j n k cs b x q r1 hj hcs hb1 c1 c2 hq (by rw [hcat]; exact h8) hdg (kk _ _ _ _ hm hP hD0 hS ⟨_, _, rfl, ⟨_, rfl, hD.1 _⟩, hr⟩)
            · cases h
          · cases h
        · cases h
      · cases h
    · cases h
end XST
end
section
abbrev xm_Z : Type := MethodName × ByteArray × Option FieldType
def xv_ret : Nat → Option FieldType
  | 0 => none
  | 1 => some .int
  | 2 => some .long
  | _ => some .boolean
/-- the constant texts: their bytes, their addresses, the addresses of their bytes, where they are named (class, entry, text, number); and then the constant arrays of ints: their numbers, lengths, contents -/
abbrev xk_C : Type := List (List Int32) × (Nat → Nat) × (Nat → Nat) × List (String × Nat × String × Nat) × List Nat × (Nat → Nat) × (Nat → Nat → Int32)
def xk_W (kx : xk_C) (A : Nat → Prop) (U : State) (H : Heap) : Prop := vk_S kx.1.length (kx.1.map List.length) kx.1 kx.2.1 kx.2.2.1 A U H ∧ ∀ k ∈ kx.2.2.2.2.1, va_X (kx.2.1 k) (kx.2.2.2.2.2.1 k) (kx.2.2.2.2.2.2 k) U H ∧ kx.2.1 k < H.size ∧ ¬ A (kx.2.1 k)
/-- a constant array's cell -/
def xk_c {V : Type} (g : V → Value → Prop) (kx : xk_C) (k : Nat) (o : xv_O V) : Prop := k ∈ kx.2.2.2.2.1 ∧ o.2.length = kx.2.2.2.2.2.1 k ∧ ∀ (j : Nat) (v : xv_V V), o.2[j]? = some v → ∃ a, v = .inl a ∧ g a (.int (kx.2.2.2.2.2.2 k j))
def xk_R (kx : xk_C) (U : State) : Prop := ∀ q ∈ kx.2.2.2.1, vk_R q.1 q.2.1 q.2.2.1 (kx.2.1 q.2.2.2) U
def xk_F (kx : xk_C) (φ : List Nat) : Prop := (∀ n, n < kx.1.length → φ[n]? = some (kx.2.1 n)) ∧ ∀ k ∈ kx.2.2.2.2.1, φ[k]? = some (kx.2.1 k)
def xk_y : MethodName := ⟨"java/lang/String", "charAt", "(I)C"⟩
def xk_rm : Room := { frames := 1, cells := 0, slots := 0, locals := 22 }
/-- charAt of a constant text -/
def xk_Ch (l : Launch) (tb : List Jvm.Cond) (kcc : ByteArray) (kx : xk_C) : Prop := ∀ (A : Nat → Prop) (n k : Nat) (cs : List Int32) (b x : Int32), kx.1[n]? = some cs → cs[k]? = some b → x.toNatClampNeg = k → ¬ x < 0 →
  Met l xk_y (.code xk_y kcc 2 (some .char) :: tb) xk_rm (va_Pc [.ref (kx.2.1 n), .int x] (fun U => vk_S kx.1.length (kx.1.map List.length) kx.1 kx.2.1 kx.2.2.1 A U U.heap)) (QcRead (b &&& 255)) 0 0 (fun _ => False)
theorem xk_F.mono {kx : xk_C} {φ t : List Nat} (h : xk_F kx φ) : xk_F kx (φ ++ t) := ⟨fun n hn => by
  have h1 := h.1 n hn
  rw [List.getElem?_append_left (List.getElem?_eq_some_iff.mp h1).1]
  exact h1, fun n hn => by
  have h1 := h.2 n hn
  rw [List.getElem?_append_left (List.getElem?_eq_some_iff.mp h1).1]
  exact h1⟩
theorem xk_W.moved {kx : xk_C} {A : Nat → Prop} {u U : State} {H : Heap} (hvm : u.vm.Alike U.vm) (h : xk_W kx A u H) : xk_W kx A U H := ⟨vk_S.moved hvm h.1, fun k hk => ⟨va_X.moved hvm (h.2 k hk).1, (h.2 k hk).2⟩⟩
theorem xk_W.kept {kx : xk_C} {A : Nat → Prop} {U : State} {H0 H : Heap} {locs : List Loc} (h : xk_W kx A U H0) (hS : va_S A H0 H locs) : xk_W kx A U H := ⟨vk_S.kept h.1 hS.2.1, fun k hk => ⟨va_X.kept (h.2 k hk).1 (hS.2.1 _ (h.2 k hk).2.1 (h.2 k hk).2.2), Nat.lt_of_lt_of_le (h.2 k hk).2.1 hS.1, (h.2 k hk).2.2⟩⟩
theorem xk_W.narrow {kx : xk_C} {A B : Nat → Prop} {U : State} {H : Heap} (h : xk_W kx A U H) (hAB : ∀ q, B q → A q) : xk_W kx B U H := ⟨vk_S.narrow h.1 hAB, fun k hk => ⟨(h.2 k hk).1, (h.2 k hk).2.1, fun z => (h.2 k hk).2.2 (hAB _ z)⟩⟩
def xm_K (Dg : va_G) (cl : List vw_C) (tys : List (ClassId × FieldType)) (at_ : List Nat) (nest : List (String × Nat × MethodName × String)) (kx : xk_C) (U : State) : Prop :=
  va_K Dg cl tys U ∧ xc_ao cl at_ U ∧ (∀ q ∈ nest, va_Nw (.methodLinkNest q.1 q.2.1 q.2.2.1 q.2.2.2) U) ∧ xk_R kx U
theorem xm_K.warm {Dg : va_G} {cl : List vw_C} {tys : List (ClassId × FieldType)} {at_ : List Nat} {nest : List (String × Nat × MethodName × String)} {kx : xk_C} {s U : State} (hW : s.WarmedH U.vm) (h : xm_K Dg cl tys at_ nest kx s) : xm_K Dg cl tys at_ nest kx U :=
  ⟨va_K.moved hW.alike h.1, fun n cj C T N h1 h2 => va_AO.moved hW.alike (h.2.1 n cj C T N h1 h2), fun q hq => va_Nw.warmM hW (h.2.2.1 q hq), fun q hq => vk_R.warm hW (h.2.2.2 q hq)⟩
theorem xm_K.calling {Dg : va_G} {cl : List vw_C} {tys : List (ClassId × FieldType)} {at_ : List Nat} {nest : List (String × Nat × MethodName × String)} {kx : xk_C} {U : State} {g : JFrame} {mk : MethodId} {a : Array Value} (h : xm_K Dg cl tys at_ nest kx U) : xm_K Dg cl tys at_ nest kx (U.calling g mk a) :=
  ⟨va_K.moved (u := U) (U := U.calling g mk a) (Vm.Alike.refl U.vm) h.1, fun n cj C T N h1 h2 => va_AO.moved (u := U) (U := U.calling g mk a) (Vm.Alike.refl U.vm) (h.2.1 n cj C T N h1 h2), fun q hq => va_Nw.same rfl rfl (h.2.2.1 q hq), fun q hq => vk_R.same rfl (h.2.2.2 q hq)⟩
def xm_rm (d : Nat) (y : xv_N) : Room := { frames := d + 1, cells := y.2.2.1.1, slots := y.2.2.1.2, locals := 44 * (d + 1) }
def xm_A {V : Type} (g : V → Value → Prop) (φ : List Nat) : Option (xv_V V) → Option Value → Prop
  | none, v => v = none
  | some a, v => ∃ x : Value, v = some x ∧ xr_v g φ a x
def xm_Q {V : Type} (C : Nat → xv_O V → Prop) (g : V → Value → Prop) (tys : List (ClassId × FieldType)) (Dg : va_G) (cl : List vw_C) (r : xv_R V) (φ : List Nat) (A : Nat → Prop) : Array Value → State → Outcome → State → Prop := fun _ st oc t =>
  (∃ (v : Option Value) (ts : List Nat) (ws' : va_W), oc = .returned v ∧ xm_A g (φ ++ ts) r.1 v ∧ xr_m C g (φ ++ ts) tys r.2 ws' ∧ va_P Dg cl ws' t.heap ∧ va_D A ws') ∧ va_F A st t
def xm_P (Dg : va_G) (cl : List vw_C) (tys : List (ClassId × FieldType)) (at_ : List Nat) (nest : List (String × Nat × MethodName × String)) (kx : xk_C) (ws : va_W) (sz : Nat) (vals : List Value) : Array Value → State → Prop :=
  va_Pc vals (fun U => U.heap.size = sz ∧ va_P Dg cl ws U.heap ∧ xm_K Dg cl tys at_ nest kx U ∧ va_D (fun _ => True) ws ∧ xk_W kx (va_A ws sz) U U.heap)
/-- THE CONTRACT of the method j out of the pure machine's run: at most d frames -/
def xm_Con (l : Launch) {V : Type} (g : V → Value → Prop) (tys : List (ClassId × FieldType)) (Dg : va_G) (cl : List vw_C) (at_ : List Nat) (nest : List (String × Nat × MethodName × String)) (kx : xk_C) (tb : List Jvm.Cond) (ms : List xv_N) (ys : List xm_Z) (d j : Nat) (as : List (xv_V V)) (M : xv_M V) (r : xv_R V) : Prop :=
  ∀ (y : xv_N) (z : xm_Z), ms[j]? = some y → ys[j]? = some z → ∀ (φ : List Nat) (ws : va_W) (vals : List Value) (sz : Nat), xr_m (xk_c g kx) g φ tys M ws → xr_s g φ as vals → xk_F kx φ →
    Met l z.1 (.code z.1 z.2.1 y.2.1.2.1 z.2.2 :: tb) (xm_rm d y) (xm_P Dg cl tys at_ nest kx ws sz vals) (xm_Q (xk_c g kx) g tys Dg cl r φ (va_A ws sz)) y.2.2.1.1 y.2.2.1.2 (va_A ws sz)
def xc_dec (cc : ByteArray) (q : xv_I) : Prop := ∃ len, decode cc q.1 = .ok (q.2, len) ∧ (xv_sw q.2 = true ∨ len = xv_len q.2)
def xc_mth (tb : List Jvm.Cond) (nest : List (String × Nat × MethodName × String)) (ys : List xm_Z) (own : String) (K : xv_K) : Prop := ∀ i k j : Nat, xv_find K.2.1 i = some (k, j) →
  (k = 0 → ∃ z, ys[j]? = some z ∧ Jvm.Cond.methodLink own i z.1 ∈ tb ∧ Jvm.Cond.instanceMethod z.1 ∈ tb ∧ Jvm.Cond.selects z.1.cls z.1 z.1 ∈ tb) ∧
  (k = 1 → ∃ z, ys[j]? = some z ∧ Jvm.Cond.methodLink own i z.1 ∈ tb ∧ Jvm.Cond.instanceMethod z.1 ∈ tb ∧ z.1.name = "<init>" ∧ z.2.2 = none) ∧
  (k = 2 → ∃ z host, ys[j]? = some z ∧ (own, i, z.1, host) ∈ nest ∧ Jvm.Cond.instanceMethod z.1 ∈ tb ∧ z.1.name = "<init>" ∧ z.2.2 = none) ∧
  (k = 3 → ∃ z, ys[j]? = some z ∧ Jvm.Cond.methodLink own i z.1 ∈ tb ∧ Jvm.Cond.static z.1 ∈ tb) ∧
  (k = 4 → Jvm.Cond.methodLink own i xk_y ∈ tb) ∧ (k = 5 → Jvm.Cond.methodLink own i Lib.objectInit ∈ tb) ∧ (k = 6 → Jvm.Cond.methodLink own i arraycopyName ∈ tb)
def xc_str (sct : List (List Int32)) (strs : List (String × Nat × String × Nat)) (own : String) (K : xv_K) : Prop := ∀ i n : Nat, xv_find K.2.2.1 i = some n → 2000 ≤ n → n - 2000 < sct.length ∧ ∃ tx, (own, i, tx, n - 2000) ∈ strs
def xc_cst (tb : List Jvm.Cond) (own : String) (K : xv_K) : Prop := (∀ (i : Nat) (v : Int32), xv_find K.2.2.2.1 i = some v → Jvm.Cond.constant own i v ∈ tb) ∧ ∀ (i : Nat) (v : Int64), xv_find K.2.2.2.2 i = some v → Jvm.Cond.constantLong own i v ∈ tb
def xc_nat (tb : List Jvm.Cond) (kcc : ByteArray) : Prop := (Jvm.Cond.instanceMethod xk_y ∈ tb ∧ Jvm.Cond.selects "java/lang/String" xk_y xk_y ∈ tb ∧ Jvm.Cond.initialized "java/lang/String" ∈ tb ∧ Jvm.Cond.code xk_y kcc 2 (some .char) ∈ tb) ∧ Jvm.Cond.instanceMethod Lib.objectInit ∈ tb ∧ Jvm.Cond.code Lib.objectInit ⟨#[0xb1]⟩ 1 none ∈ tb ∧ Jvm.Cond.native arraycopyName ∈ tb ∧ Jvm.Cond.static arraycopyName ∈ tb ∧ Jvm.Cond.initialized "java/lang/System" ∈ tb
/-- the body of a method: its instructions and links -/
def xc_bod (tb : List Jvm.Cond) (nest : List (String × Nat × MethodName × String)) (cl : List vw_C) (ct : List (List (FieldType × Bool))) (at_ : List Nat) (sct : List (List Int32)) (strs : List (String × Nat × String × Nat)) (ys : List xm_Z) (y : xv_N) (z : xm_Z) : Prop :=
  xv_ret y.2.1.2.2.1 = z.2.2 ∧ (y.2.1.2.2.2 = 1 → z.1.name = "<init>") ∧ (∀ (C : String) (T : u_T) (N : Nat), cl[y.1.1]? = some (C, T, N) → C = z.1.cls) ∧
  (∀ q ∈ y.2.2.2, xc_dec z.2.1 q) ∧ xc_fld tb cl ct z.1.cls y.1.2 ∧ xc_new tb cl at_ z.1.cls y.1.2 ∧ xc_cst tb z.1.cls y.1.2 ∧ xc_str sct strs z.1.cls y.1.2 ∧ xc_mth tb nest ys z.1.cls y.1.2
/-- a method of the table is what its row says -/
def xc_one (tb : List Jvm.Cond) (nest : List (String × Nat × MethodName × String)) (cl : List vw_C) (ct : List (List (FieldType × Bool))) (at_ : List Nat) (sct : List (List Int32)) (strs : List (String × Nat × String × Nat)) (ys : List xm_Z) (y : xv_N) (z : xm_Z) : Prop :=
  plainName z.1.cls = true ∧ Jvm.Cond.code z.1 z.2.1 y.2.1.2.1 z.2.2 ∈ tb ∧ Jvm.Cond.initialized z.1.cls ∈ tb ∧
  (z.1.cls ≠ "java/lang/invoke/MethodHandle" ∧ z.1.cls ≠ "java/lang/invoke/VarHandle" ∧ (parseMethodDescriptor z.1.desc).map (fun d => d.parameters.length) = some y.2.1.1) ∧
  y.2.1.2.1 ≤ 25 ∧ xc_bod tb nest cl ct at_ sct strs ys y z
/-- all tables -/
def xc_all (tb : List Jvm.Cond) (nest : List (String × Nat × MethodName × String)) (cl : List vw_C) (ct : List (List (FieldType × Bool))) (at_ : List Nat) (sct : List (List Int32)) (strs : List (String × Nat × String × Nat)) (kcc : ByteArray) (ms : List xv_N) (ys : List xm_Z) : Prop :=
  (∀ w ∈ tb, goodWord w = true) ∧ xc_cls tb cl ct ∧ xc_arr tb ∧ xc_nat tb kcc ∧ ∀ (j : Nat) (y : xv_N), ms[j]? = some y → ∃ z, ys[j]? = some z ∧ xc_one tb nest cl ct at_ sct strs ys y z
theorem xc_good {tb : List Jvm.Cond} (h : ∀ w ∈ tb, goodWord w = true) {w0 w1 : Jvm.Cond} (h1 : w1 ∈ tb) : GoodIn (w0 :: tb) (w1 :: tb) := by
  intro w hw
  have hm : w ∈ tb := by
    rcases List.mem_cons.mp hw with q | q
    · rw [q]; exact h1
    · exact q
  exact ⟨List.mem_cons_of_mem _ hm, good_of_word (h w hm)⟩
section XSU
variable {p : Program} {l : Launch} {e : Env} {R : Room} {s : State} {m : MethodId} {args : Array Value} {below : List Frame} {meth : Method} {c : Code} {H : Heap} {locs : List Loc} {cells slots : Nat} {Q : State → Prop}
variable {cc : ByteArray} {pc : Nat} {V : Type} {C : Nat → xv_O V → Prop} {D : xv_D V} {g : V → Value → Prop} {φ : List Nat} {M : xv_M V} {S : List (xv_V V)} {ls : Array Slot} {st : List Value}
variable {Dg : va_G} {cl : List vw_C} {tys : List (ClassId × FieldType)} {A : Nat → Prop} {H0 : Heap} {ws : va_W} {at_ : List Nat} {nest : List (String × Nat × MethodName × String)} {kx : xk_C} {kcc : ByteArray}
/-- behind a call -/
theorem xs_after {r : xv_R V} {rest st0 : List Value} {a : Array Value} {mc ms : Nat} (hr : va_Run p l e R s m args below meth c H locs cells slots mc ms (F0 m pc ls st0) rest (xm_Q C g tys Dg cl r φ (va_A ws H.size) a) (va_A ws H.size)) (hD0 : va_D A ws) (hS : va_S A H0 H locs) (hA : ∀ q, H0.size ≤ q → A q)
    (kk : ∀ (v : Option Value) (ts : List Nat) (ws' : va_W) (H1 : Heap) (locs1 : List Loc), xm_A g (φ ++ ts) r.1 v → xr_m C g (φ ++ ts) tys r.2 ws' → va_P Dg cl ws' H1 → va_D A ws' → va_S A H0 H1 locs1 → W p l e R s m args below meth c H1 locs1 (cells + mc) (slots + ms) Q (F0 m (pc + 3) ls (v.toList ++ rest))) :
    W p l e R s m args below meth c H locs cells slots Q (F0 m pc ls st0) := by
  have hAA : ∀ q, va_A ws H.size q → A q := fun q hq => by
    rcases hq with ⟨k, E, hk⟩ | hq
    · exact hD0.2 k _ hk
    · exact hA q (Nat.le_trans hS.1 hq)
  intro T hT X
  obtain ⟨v, st₀, t, T', L, h0, X', hL, e1, e2, ⟨⟨v', ts, ws', hv, h1, h2, h3, h4⟩, hz, hk⟩, st⟩ := hr T hT X
  cases hv
  rw [h0] at hz hk
  obtain ⟨t2, a1, b1⟩ := kk v ts ws' T'.heap (locs ++ L) h1 h2 (by rw [e1]; exact h3) (h4.weaken (fun _ _ _ z => hAA _ z))
    ⟨Nat.le_trans hS.1 (by rw [e1]; exact hz), fun q g1 g2 => by rw [e1, hk q (Nat.lt_of_lt_of_le g1 hS.1) (fun z => g2 (hAA q z))]; exact hS.2.1 q g1 g2, fun q hq => by
      rcases List.mem_append.mp hq with h | h
      · exact hS.2.2 q h
      · exact hAA _ (hL q h)⟩ T' rfl X'
  exact ⟨t2, st t2 a1, b1⟩
theorem xm_blind {ws : va_W} {sz : Nat} {vals : List Value} : FrameBlind (xm_P Dg cl tys at_ nest kx ws sz vals) := fun a U g mk q => ⟨q.1, q.2.1, q.2.2.1, q.2.2.2.1.calling, q.2.2.2.2.1, xk_W.moved (u := U) (U := U.calling g mk a) (Vm.Alike.refl U.vm) q.2.2.2.2.2⟩
theorem xm_pre {ws : va_W} {vals : List Value} (hK : xm_K Dg cl tys at_ nest kx s) (hkw : xk_W kx A s s.heap) (hP : va_P Dg cl ws H) (hD0 : va_D A ws) (hS : va_S A s.heap H locs) (hA : ∀ q, s.heap.size ≤ q → A q) : ∀ U : State, U.heap = H → s.WarmedH U.vm → xm_P Dg cl tys at_ nest kx ws H.size vals vals.toArray U := fun U hU hW =>
  ⟨rfl, by rw [hU], by rw [hU]; exact hP, hK.warm hW, hD0.weaken (fun _ _ _ _ => trivial), by
    rw [hU]
    refine xk_W.moved hW.alike (xk_W.narrow (xk_W.kept hkw hS) (fun q hq => ?_))
    rcases hq with ⟨k, E, hk⟩ | hq
    · exact hD0.2 k _ hk
    · exact hA q (Nat.le_trans hS.1 hq)⟩
set_option maxHeartbeats 4000000 in
/-- CALLS -/
theorem xs_call {own : String} {ys : List xm_Z} {ms : List xv_N} {K : xv_K} {tb : List Jvm.Cond} {ct : List (List (FieldType × Bool))} {w0 : Jvm.Cond} {d nL : Nat} (hx : p.tables.exec = Jvm.exec) (hb : c.code = cc) (hml : c.maxLocals = nL) (hls : ls.size = nL) (hown : s.vm.findClass own = some m.cls) (hts : ∀ w ∈ (w0 :: tb), w.before args s = true)
    {sct : List (List Int32)} {strs : List (String × Nat × String × Nat)} (hall : xc_all tb nest cl ct at_ sct strs kcc ms ys) (hMt : xc_mth tb nest ys own K) (hK : xm_K Dg cl tys at_ nest kx s) (hkw : xk_W kx A s s.heap) (hkF : xk_F kx φ) (hRf : d + 2 ≤ R.frames) (hRl : 44 * (d + 2) ≤ R.locals) (hA : ∀ q, s.heap.size ≤ q → A q)
    {i : Instr} {j : Nat} {as Rs : List (xv_V V)} (h : xv_arg ms K M S i = some (j, as, Rs)) {z : xv_N} (hz : ms[j]? = some z) {r : xv_R V} (hcon : xm_Con l g tys Dg cl at_ nest kx tb ms ys d j as M r) (hdg : decode cc pc = .ok (i, xv_len i))
    (hm : xr_m (xk_c g kx) g φ tys M ws) (hP : va_P Dg cl ws H) (hD0 : va_D A ws) (hS : va_S A s.heap H locs) (hs : xr_s g φ S st) (hc1 : cells + z.2.2.1.1 ≤ R.cells) (hc2 : slots + z.2.2.1.2 ≤ R.slots)
    (kk : ∀ (t : List Nat) (ws' : va_W) (H' : Heap) (locs' : List Loc) (st' : List Value), xr_m (xk_c g kx) g (φ ++ t) tys r.2 ws' → va_P Dg cl ws' H' → va_D A ws' → va_S A s.heap H' locs' → xr_s g (φ ++ t) (r.1.toList ++ Rs) st' → W p l e R s m args below meth c H' locs' (cells + z.2.2.1.1) (slots + z.2.2.1.2) Q (F0 m (pc + 3) ls st')) :
    W p l e R s m args below meth c H locs cells slots Q (F0 m pc ls st) := by
  have htb : ∀ w ∈ tb, w ∈ (w0 :: tb) := fun w hw => List.mem_cons_of_mem _ hw
  obtain ⟨y, hy, hp1, hcode, hini, hd, hml2, hret, -, hcn, -⟩ := hall.2.2.2.2 j z hz
  have hG : GoodIn (w0 :: tb) (Jvm.Cond.code y.1 y.2.1 z.2.1.2.1 y.2.2 :: tb) := xc_good hall.1 hcode
  have hroom : (xm_rm d z).frames + 1 ≤ R.frames ∧ 8 + (z.2.1.2.1 + 11) + (xm_rm d z).locals ≤ R.locals := ⟨hRf, by show 8 + (z.2.1.2.1 + 11) + 44 * (d + 1) ≤ R.locals; omega⟩
  have fin : ∀ {rest : List Value} {a : Array Value}, xr_s g φ Rs rest → va_Run p l e R s m args below meth c H locs cells slots z.2.2.1.1 z.2.2.1.2 (F0 m pc ls st) rest (xm_Q (xk_c g kx) g tys Dg cl r φ (va_A ws H.size) a) (va_A ws H.size) → W p l e R s m args below meth c H locs cells slots Q (F0 m pc ls st) := fun hrs hrun =>
    xs_after hrun hD0 hS hA (fun v ts ws' H1 locs1 h1 h2 h3 h4 h5 => by
      refine kk ts ws' H1 locs1 _ h2 h3 h4 h5 ?_
      cases hr1 : r.1 with
      | none =>
        rw [hr1] at h1
        rw [show v = none from h1]
        exact xr_s_mono hrs
      | some av =>
        rw [hr1] at h1
        obtain ⟨x, rfl, hxv⟩ := h1
        exact ⟨x, _, rfl, hxv, xr_s_mono hrs⟩)
  cases i
  all_goals (first | (simp only [xv_arg, reduceCtorEq] at h; done) | skip)
  case invokevirtual i =>
    simp only [xv_arg] at h
    split at h
    · rename_i j' hj
      split at h
      · rename_i y' hy'
        split at h
        · rename_i a R1 hdrop
          split at h
          · rename_i o ho
            cases h1 : Nat.beq o.1 (8 + y'.1.1) <;> simp only [h1, Bool.true_and, Bool.false_and, cond_true, cond_false] at h
            · cases h
            cases h2 : Nat.ble (xv_cats R1) 8 <;> simp only [h2, cond_true, cond_false] at h
            · cases h
            obtain ⟨rfl, rfl, rfl⟩ := by simpa using h
            cases Option.some.inj (hy'.symm.trans hz)
            obtain ⟨z2, hz2, hl1, hl2, hl3⟩ := (hMt i 0 _ hj).1 rfl
            cases Option.some.inj (hz2.symm.trans hy)
            have hsd := xr_s_drop z.2.1.1 hs
            rw [hdrop] at hsd
            obtain ⟨_, rest, hst, ⟨q, hq, rfl⟩, hrs⟩ := hsd
            have hlen : (st.take z.2.1.1).reverse.length = z.2.1.1 := by
              rw [List.length_reverse, List.length_take]
              have hl : (st.drop z.2.1.1).length = rest.length + 1 := by rw [hst]; rfl
              rw [List.length_drop] at hl
              omega
            have hstk : st = ((st.take z.2.1.1).reverse).reverse ++ .ref q :: rest := by rw [List.reverse_reverse, ← hst, List.take_append_drop]
            obtain ⟨ia, E, hE, he, -⟩ := xr_m_at hm ho hq (by have := Nat.eq_of_beq_eq_true h1; omega) (by have := Nat.eq_of_beq_eq_true h1; omega)
            obtain ⟨fs, rfl, -⟩ := xr_e_obj he (Nat.eq_of_beq_eq_true h1)
            obtain ⟨⟨C, T, N⟩, hr1, -⟩ := hP ia _ hE
            have hC := hcn C T N hr1
            subst hC
            have hcat := xr_s_cats hrs
            have h8 := Nat.le_of_ble_eq_true h2
            refine fin (a := (Value.ref q :: (st.take z.2.1.1).reverse).toArray) hrs (va_runV (C := y.1.cls) (As := (st.take z.2.1.1).reverse) (rest := rest) ⟨hx, hb, hml, hown, hts⟩ (hcon z y hz hy φ ws (.ref q :: (st.take z.2.1.1).reverse) H.size hm ⟨_, _, rfl, ⟨q, hq, rfl⟩, xr_s_rev (xr_s_take _ hs)⟩ hkF) ⟨callB_of z.2.1.1 hts hG rfl rfl rfl (hts _ (htb _ hini)) (hts _ (htb _ hl1)) hd hroom, hts _ (htb _ hl2), hts _ (htb _ hl3)⟩ ⟨xm_blind, va_recv hK.1 hP hr1 hE, xm_pre hK hkw hP hD0 hS hA⟩ rfl hlen hls hstk ?_ hdg ⟨hc1, hc2⟩)
            show 2 * 0 + _ ≤ 8
            rw [hcat]
            omega
          · cases h
        · cases h
      · cases h
    · cases h
  case invokespecial i =>
    simp only [xv_arg] at h
    split at h
    · rename_i k j' hj
      cases hk : (Nat.beq k 1 || Nat.beq k 2) <;> simp only [hk, cond_true, cond_false] at h
      · cases h
      split at h
      · rename_i y' hy'
        split at h
        · rename_i a R1 hdrop
          cases h2 : Nat.ble (xv_cats R1) 8 <;> simp only [h2, cond_true, cond_false] at h
          · cases h
          obtain ⟨rfl, rfl, rfl⟩ := by simpa using h
          cases Option.some.inj (hy'.symm.trans hz)
          have hsd := xr_s_drop z.2.1.1 hs
          rw [hdrop] at hsd
          obtain ⟨_, rest, hst, ⟨q, hq, rfl⟩, hrs⟩ := hsd
          have hlen : (st.take z.2.1.1).reverse.length = z.2.1.1 := by
            rw [List.length_reverse, List.length_take]
            have hl : (st.drop z.2.1.1).length = rest.length + 1 := by rw [hst]; rfl
            rw [List.length_drop] at hl
            omega
          have hstk : st = ((st.take z.2.1.1).reverse).reverse ++ .ref q :: rest := by rw [List.reverse_reverse, ← hst, List.take_append_drop]
          have hcat := xr_s_cats hrs
          have h8 := Nat.le_of_ble_eq_true h2
          rcases Bool.or_eq_true_iff.mp hk with hk1 | hk1
          · obtain ⟨z2, hz2, hl1, hl2, hl3, hl4⟩ := (hMt i k _ hj).2.1 (Nat.eq_of_beq_eq_true hk1)
            cases Option.some.inj (hz2.symm.trans hy)
            obtain ⟨zn, zb, zr⟩ := y
            obtain rfl : zr = none := hl4
            refine fin (a := (Value.ref q :: (st.take z.2.1.1).reverse).toArray) hrs (va_runI (As := (st.take z.2.1.1).reverse) (rest := rest) ⟨hx, hb, hml, hown, hts⟩ (hcon z (zn, zb, none) hz hy φ ws (.ref q :: (st.take z.2.1.1).reverse) H.size hm ⟨_, _, rfl, ⟨q, hq, rfl⟩, xr_s_rev (xr_s_take _ hs)⟩ hkF) ⟨callB_of z.2.1.1 hts hG rfl rfl rfl (hts _ (htb _ hini)) (hts _ (htb _ hl1)) hd hroom, hl3, hts _ (htb _ hl2)⟩ ⟨xm_blind, xm_pre hK hkw hP hD0 hS hA⟩ rfl hlen hls hstk ?_ hdg ⟨hc1, hc2⟩)
            show 2 * 0 + _ ≤ 8
            rw [hcat]
            omega
          · obtain ⟨z2, host, hz2, hl1, hl2, hl3, hl4⟩ := (hMt i k _ hj).2.2.1 (Nat.eq_of_beq_eq_true hk1)
            cases Option.some.inj (hz2.symm.trans hy)
            obtain ⟨zn, zb, zr⟩ := y
            obtain rfl : zr = none := hl4
            refine fin (a := (Value.ref q :: (st.take z.2.1.1).reverse).toArray) hrs (va_runIN (host := host) (As := (st.take z.2.1.1).reverse) (rest := rest) ⟨hx, hb, hml, hown, hts⟩ (hcon z (zn, zb, none) hz hy φ ws (.ref q :: (st.take z.2.1.1).reverse) H.size hm ⟨_, _, rfl, ⟨q, hq, rfl⟩, xr_s_rev (xr_s_take _ hs)⟩ hkF) ⟨va_cnB z.2.1.1 hts hG rfl rfl rfl (hK.2.2.1 _ hl1) (hts _ (htb _ hini)) hd hroom, hl3, hts _ (htb _ hl2)⟩ ⟨xm_blind, xm_pre hK hkw hP hD0 hS hA⟩ rfl hlen hls hstk ?_ hdg ⟨hc1, hc2⟩)
            show 2 * 0 + _ ≤ 8
            rw [hcat]
            omega
        · cases h
      · cases h
    · cases h
  case invokestatic i =>
    simp only [xv_arg] at h
    split at h
    · rename_i j' hj
      split at h
      · rename_i y' hy'
        cases h1 : Nat.ble y'.2.1.1 S.length <;> simp only [h1, Bool.true_and, Bool.false_and, cond_true, cond_false] at h
        · cases h
        cases h2 : Nat.ble (xv_cats (S.drop y'.2.1.1)) 8 <;> simp only [h2, cond_true, cond_false] at h
        · cases h
        obtain ⟨rfl, rfl, rfl⟩ := by simpa using h
        cases Option.some.inj (hy'.symm.trans hz)
        obtain ⟨z2, hz2, hl1, hl2⟩ := (hMt i 3 _ hj).2.2.2.1 rfl
        cases Option.some.inj (hz2.symm.trans hy)
        have hrs := xr_s_drop z.2.1.1 hs
        have hsl := xr_s_len hs
        have hle := Nat.le_of_ble_eq_true h1
        have hlen : (st.take z.2.1.1).reverse.length = z.2.1.1 := by
          rw [List.length_reverse, List.length_take]
          omega
        have hstk : st = ((st.take z.2.1.1).reverse).reverse ++ st.drop z.2.1.1 := by rw [List.reverse_reverse, List.take_append_drop]
        have hcat := xr_s_cats hrs
        have h8 := Nat.le_of_ble_eq_true h2
        refine fin (a := ((st.take z.2.1.1).reverse).toArray) hrs (va_runS (As := (st.take z.2.1.1).reverse) (rest := st.drop z.2.1.1) ⟨hx, hb, hml, hown, hts⟩ (hcon z y hz hy φ ws ((st.take z.2.1.1).reverse) H.size hm (xr_s_rev (xr_s_take _ hs)) hkF) ⟨callB_of z.2.1.1 hts hG rfl rfl rfl (hts _ (htb _ hini)) (hts _ (htb _ hl1)) hd hroom, hts _ (htb _ hl2)⟩ ⟨xm_blind, xm_pre hK hkw hP hD0 hS hA⟩ rfl hlen hls hstk ?_ hdg ⟨hc1, hc2⟩)
        show 2 * 0 + _ ≤ 8
        rw [hcat]
        omega
      · cases h
    · cases h
end XSU
end
section
section XSW
variable {l : Launch} {V : Type} {C : Nat → xv_O V → Prop} {D : xv_D V} {g : V → Value → Prop} {Dg : va_G} {cl : List vw_C} {tys : List (ClassId × FieldType)} {at_ : List Nat} {nest : List (String × Nat × MethodName × String)} {tb : List Jvm.Cond} {ct : List (List (FieldType × Bool))} {ms : List xv_N} {ys : List xm_Z} {kx : xk_C} {kcc : ByteArray}
theorem xv_to_mem : ∀ {cs : List xv_I} {i : Nat} {q : xv_I}, q ∈ xv_to cs i → q ∈ cs
  | [], _, _, h => h
  | c :: cs, i, q, h => by
    unfold xv_to at h
    cases hc : Nat.beq c.1 i <;> simp only [hc, cond_true, cond_false] at h
    · exact List.mem_cons_of_mem _ (xv_to_mem h)
    · exact h
/-- what stands fast in the body of a method -/
def xw_fix (Dg : va_G) (cl : List vw_C) (tys : List (ClassId × FieldType)) (at_ : List Nat) (nest : List (String × Nat × MethodName × String)) (kx : xk_C) (tb : List Jvm.Cond) (ct : List (List (FieldType × Bool))) (ys : List xm_Z) (d : Nat) (y : xv_N) (z : xm_Z) (p : Program) (R : Room) (s : State) (m : MethodId) (args : Array Value) (meth : Method) (c : Code) (A : Nat → Prop) : Prop :=
  p.tables.exec = Jvm.exec ∧ c.code = z.2.1 ∧ c.maxLocals = y.2.1.2.1 ∧ s.vm.findClass z.1.cls = some m.cls ∧ (∃ w0, ∀ w ∈ (w0 :: tb), w.before args s = true) ∧ xm_K Dg cl tys at_ nest kx s ∧ xk_W kx A s s.heap ∧ (d + 2 ≤ R.frames ∧ 44 * (d + 2) ≤ R.locals ∧ R.cells = y.2.2.1.1 ∧ R.slots = y.2.2.1.2) ∧ (∀ q, s.heap.size ≤ q → A q) ∧ meth.name = z.1.name ∧ xc_bod tb nest cl ct at_ kx.1 kx.2.2.2.1 ys y z
/-- from every state that stands so the machine comes to Q -/
def xw_st (p : Program) (l : Launch) (e : Env) (R : Room) (s : State) (m : MethodId) (args : Array Value) (below : List Frame) (meth : Method) (c : Code) (Q : State → Prop) {V : Type} (g : V → Value → Prop) (Dg : va_G) (cl : List vw_C) (tys : List (ClassId × FieldType)) (kx : xk_C) (A : Nat → Prop) (φ0 : List Nat) (y : xv_N) (pc : Nat) (L : xv_L V) (S : List (xv_V V)) (M : xv_M V) (cells slots : Nat) : Prop :=
  cells ≤ y.2.2.1.1 → slots ≤ y.2.2.1.2 → ∀ (t : List Nat) (ws : va_W) (H : Heap) (locs : List Loc) (ls : Array Slot) (st : List Value), xr_m (xk_c g kx) g (φ0 ++ t) tys M ws → va_P Dg cl ws H → va_D A ws → va_S A s.heap H locs → xr_l g (φ0 ++ t) L ls y.2.1.2.1 → xr_s g (φ0 ++ t) S st →
    W p l e R s m args below meth c H locs cells slots Q (F0 m pc ls st)
set_option maxHeartbeats 4000000 in
theorem xs_end {p : Program} {e : Env} {R : Room} {s : State} {m : MethodId} {args : Array Value} {below : List Frame} {meth : Method} {c : Code} {H : Heap} {locs : List Loc} {cells slots : Nat} {cc : ByteArray} {pc rc mc ms2 : Nat} {φ0 : List Nat} {M : xv_M V} {S : List (xv_V V)} {ls : Array Slot} {st : List Value} {A : Nat → Prop} {ws : va_W} {t : List Nat} {r : Option (xv_V V)}
    (hD : xv_ok D g) (hx : p.tables.exec = Jvm.exec) (hb : c.code = cc) (hr : meth.sig.returnType = xv_ret rc) (hlocks : meth.locks = false) {i : Instr} (h : xv_end D rc S i = some r) (hdg : decode cc pc = .ok (i, xv_len i))
    (hm : xr_m C g (φ0 ++ t) tys M ws) (hP : va_P Dg cl ws H) (hD0 : va_D A ws) (hS : va_S A s.heap H locs) (hs : xr_s g (φ0 ++ t) S st) (h1 : cells ≤ mc) (h2 : slots ≤ ms2) :
    W p l e R s m args below meth c H locs cells slots (MQ below (xm_Q C g tys Dg cl (r, M) φ0 A) args s mc ms2 A) (F0 m pc ls st) := by
  refine W.widen h1 h2 ?_
  cases i
  all_goals (first | (simp only [xv_end, reduceCtorEq] at h; done) | skip)
  case return_ =>
    simp only [xv_end] at h
    split at h
    · cases hc : Nat.beq rc 0 <;> simp only [hc, cond_true, cond_false] at h
      · cases h
      cases Option.some.inj h
      obtain rfl : st = [] := hs
      rw [Nat.eq_of_beq_eq_true hc] at hr
      exact W.vret hx hb hr (fun T hT _ => ⟨⟨none, t, ws, rfl, rfl, hm, by rw [hT]; exact hP, hD0⟩, hS.F hT⟩) hS.2.2 hdg hlocks
    · cases h
  case ireturn =>
    simp only [xv_end] at h
    split at h
    · rename_i a
      obtain ⟨_, r1, rfl, ⟨n, rfl, hn⟩, rfl⟩ := hs
      cases hc : (Nat.beq rc 1 || (Nat.beq rc 3 && D.2.2.2.2.2 a)) <;> simp only [hc, cond_true, cond_false] at h
      · cases h
      cases Option.some.inj h
      rcases Bool.or_eq_true_iff.mp hc with hc | hc
      · rw [Nat.eq_of_beq_eq_true hc] at hr
        exact W.iret hx hb hr (fun T hT _ => ⟨⟨some (.int n), t, ws, rfl, ⟨_, rfl, n, rfl, hn⟩, hm, by rw [hT]; exact hP, hD0⟩, hS.F hT⟩) hS.2.2 hdg hlocks
      · obtain ⟨c1, c2⟩ := Bool.and_eq_true_iff.mp hc
        rw [Nat.eq_of_beq_eq_true c1] at hr
        have hnar : narrow .boolean (.int n) = .int n := by
          rcases hD.2.2.2.2.2.2.2.2.2.2.2 a n c2 hn with rfl | rfl
          · rfl
          · rfl
        exact W.zret hx hb hr hnar (fun T hT _ => ⟨⟨some (.int n), t, ws, rfl, ⟨_, rfl, n, rfl, hn⟩, hm, by rw [hT]; exact hP, hD0⟩, hS.F hT⟩) hS.2.2 hdg hlocks
    · cases h
  case lreturn =>
    simp only [xv_end] at h
    split at h
    · rename_i a
      obtain ⟨_, r1, rfl, ⟨n, rfl, hn⟩, rfl⟩ := hs
      cases hc : Nat.beq rc 2 <;> simp only [hc, cond_true, cond_false] at h
      · cases h
      cases Option.some.inj h
      rw [Nat.eq_of_beq_eq_true hc] at hr
      exact W.lret hx hb hr (fun T hT _ => ⟨⟨some (.long n), t, ws, rfl, ⟨_, rfl, n, rfl, hn⟩, hm, by rw [hT]; exact hP, hD0⟩, hS.F hT⟩) hS.2.2 hdg hlocks
    · cases h
theorem xs_pure_sw {K : xv_K} {L : xv_L V} {S : List (xv_V V)} {i : Instr} {r : xv_L V × List (xv_V V)} (h : xv_pure D K L S i = some r) : xv_sw i = false := by
  cases i <;> first | rfl | (simp only [xv_pure, reduceCtorEq] at h; done)
theorem xs_mem_sw {K : xv_K} {w ini : Nat} {M : xv_M V} {S : List (xv_V V)} {i : Instr} {r : List (xv_V V) × xv_M V × Nat × Nat} (h : xv_mem D ct at_ K w ini M S i = some r) : xv_sw i = false := by
  cases i <;> first | rfl | (simp only [xv_mem, reduceCtorEq] at h; done)
theorem xs_arg_sw {K : xv_K} {M : xv_M V} {S : List (xv_V V)} {i : Instr} {r : Nat × List (xv_V V) × List (xv_V V)} (h : xv_arg ms K M S i = some r) : xv_sw i = false := by
  cases i <;> first | rfl | (simp only [xv_arg, reduceCtorEq] at h; done)
theorem xs_nat_sw {K : xv_K} {M : xv_M V} {S : List (xv_V V)} {i : Instr} {r : List (xv_V V) × xv_M V} (h : xv_nat D kx.1 K M S i = some r) : xv_sw i = false := by
  cases i <;> first | rfl | (simp only [xv_nat, reduceCtorEq] at h; done)
theorem xs_end_sw {rc : Nat} {S : List (xv_V V)} {i : Instr} {r : Option (xv_V V)} (h : xv_end D rc S i = some r) : xv_sw i = false := by
  cases i <;> first | rfl | (simp only [xv_end, reduceCtorEq] at h; done)
theorem xs_dec {cc : ByteArray} {q : xv_I} (h : xc_dec cc q) (hs : xv_sw q.2 = false) : decode cc q.1 = .ok (q.2, xv_len q.2) := by
  obtain ⟨len, h1, h2⟩ := h
  rcases h2 with h2 | h2
  · rw [hs] at h2; cases h2
  · rw [← h2]; exact h1
set_option maxHeartbeats 4000000 in
/-- ONE STEP in the body of a method -/
theorem xs_step {ρ : Type} (hD : xv_ok D g) (hall : xc_all tb nest cl ct at_ kx.1 kx.2.2.2.1 kcc ms ys) (hchar : xk_Ch l tb kcc kx) (hY : xc_tys cl at_ tys) {d : Nat} {call : Nat → List (xv_V V) → xv_M V → Option (xv_R V)} (hcall : ∀ (j : Nat) (as : List (xv_V V)) (M : xv_M V) (r : xv_R V), call j as M = some r → xm_Con l g tys Dg cl at_ nest kx tb ms ys d j as M r)
    {y : xv_N} {z : xm_Z} {p : Program} {e : Env} {R : Room} {s : State} {m : MethodId} {args : Array Value} {below : List Frame} {meth : Method} {c : Code} {A : Nat → Prop} {Q : State → Prop} {φ0 : List Nat} (hfix : xw_fix Dg cl tys at_ nest kx tb ct ys d y z p R s m args meth c A) (hkF : xk_F kx φ0)
    {fin : Option (xv_V V) → xv_M V → Option ρ} {ih : Nat → List xv_I → xv_L V → List (xv_V V) → xv_M V → Nat → Nat → Option ρ} {r : ρ} {pc : Nat} {cs : List xv_I} {L : xv_L V} {S : List (xv_V V)} {M : xv_M V} {cells slots : Nat}
    (h : xv_step D ct at_ kx.1 ms call y fin ih pc cs L S M cells slots = some r) (hcs : ∀ q ∈ cs, q ∈ y.2.2.2)
    (hih : ∀ (pc : Nat) (cs : List xv_I) (L : xv_L V) (S : List (xv_V V)) (M : xv_M V) (cells slots : Nat), ih pc cs L S M cells slots = some r → (∀ q ∈ cs, q ∈ y.2.2.2) → xw_st p l e R s m args below meth c Q g Dg cl tys kx A φ0 y pc L S M cells slots)
    (hfin : ∀ (i : Instr) (pc : Nat) (L : xv_L V) (S : List (xv_V V)) (M : xv_M V) (cells slots : Nat) (rv : Option (xv_V V)), xv_end D y.2.1.2.2.1 S i = some rv → fin rv M = some r → decode z.2.1 pc = .ok (i, xv_len i) → xw_st p l e R s m args below meth c Q g Dg cl tys kx A φ0 y pc L S M cells slots) :
    xw_st p l e R s m args below meth c Q g Dg cl tys kx A φ0 y pc L S M cells slots := by
  obtain ⟨hx, hb, hml, hown, ⟨w0, hts⟩, hK, hkw, ⟨r1, r2, r3, r4⟩, hA, hname, h6, h7, h8, h9, hF, hN, hcst, hstr, hMt⟩ := hfix
  have htb : ∀ w ∈ tb, w ∈ (w0 :: tb) := fun w hw => List.mem_cons_of_mem _ hw
  obtain ⟨⟨m1, m2, m3, m4⟩, n1, n2, n3, n4, n5⟩ := hall.2.2.2.1
  intro hc1 hc2 t ws H locs ls st hm hP hD0 hS hl hs
  cases cs with
  | nil => cases h
  | cons q cs =>
    unfold xv_step at h
    dsimp only at h
    have hcs' : ∀ q ∈ cs, q ∈ y.2.2.2 := fun q hq => hcs q (List.mem_cons_of_mem _ hq)
    have hdec := h9 q (hcs q List.mem_cons_self)
    cases hpc : Nat.beq q.1 pc <;> simp only [hpc, cond_true, cond_false] at h
    · cases h
    obtain rfl : q.1 = pc := Nat.eq_of_beq_eq_true hpc
    have hlsz : ls.size = y.2.1.2.1 := by obtain ⟨-, lv, hlv, -⟩ := hl; exact hlv.1
    split at h
    · rename_i LS hLS
      refine xs_pure hx hb hown hD (fun i v hv => hts _ (htb _ (hcst.1 i v hv))) (fun i v hv => hts _ (htb _ (hcst.2 i v hv))) (fun i n hn h2000 => ?_) hLS (xs_dec hdec (xs_pure_sw hLS)) hl hs (fun ls' st' hl' hs' => ?_)
      · obtain ⟨g1, tx, g2⟩ := hstr i n hn h2000
        exact ⟨tx, _, hK.2.2.2 _ g2, hkF.mono.1 _ g1⟩
      exact hih _ _ _ _ _ _ _ h hcs' hc1 hc2 t ws H locs ls' st' hm hP hD0 hS hl' hs'
    · split at h
      · rename_i tS htS
        obtain ⟨len, d1, d2⟩ := hdec
        refine xs_br hx hb hD htS d1 d2 hs (fun st' hs' => ?_)
        exact hih _ _ _ _ _ _ _ h (fun q hq => xv_to_mem hq) hc1 hc2 t ws H locs ls st' hm hP hD0 hS hl hs'
      · split at h
        · rename_i T hT
          cases hr1 : Nat.ble (cells + T.2.2.1) y.2.2.1.1 <;> simp only [hr1, Bool.true_and, Bool.false_and, cond_true, cond_false] at h
          · cases h
          cases hr2 : Nat.ble (slots + T.2.2.2) y.2.2.1.2 <;> simp only [hr2, cond_true, cond_false] at h
          · cases h
          have q1 := Nat.le_of_ble_eq_true hr1
          have q2 := Nat.le_of_ble_eq_true hr2
          refine xs_mem hx hb hown hts htb hD hall.2.1 hF hN hY hK.2.1 hall.2.2.1 (fun z => hname.trans (h7 z)) h8 hK.1 hA (fun k q o hC hq => ?_) hT (xs_dec hdec (xs_mem_sw hT)) hm hP hD0 hS hs (by rw [r3]; exact q1) (by rw [r4]; exact q2) (fun t' ws' H' locs' st' hm' hP' hD' hS' hs' => ?_)
          · obtain ⟨c1, c2, c3⟩ := hC
            cases Option.some.inj (hq.symm.trans (hkF.mono.2 k c1))
            exact ⟨_, _, (hkw.2 k c1).1, (hkw.2 k c1).2.1, (hkw.2 k c1).2.2, c2, fun j v hv => by
              obtain ⟨a, rfl, ha⟩ := c3 j v hv
              exact ⟨_, rfl, ha⟩⟩
          rw [List.append_assoc] at hm' hs'
          exact hih _ _ _ _ _ _ _ h hcs' q1 q2 (t ++ t') ws' H' locs' ls st' hm' hP' hD' hS' (by rw [← List.append_assoc]; exact xr_l_mono hl) hs'
        · split at h
          · rename_i Ar hAr
            split at h
            · rename_i zz hzz
              cases hr1 : Nat.ble (cells + zz.2.2.1.1) y.2.2.1.1 <;> simp only [hr1, Bool.true_and, Bool.false_and, cond_true, cond_false] at h
              · cases h
              cases hr2 : Nat.ble (slots + zz.2.2.1.2) y.2.2.1.2 <;> simp only [hr2, cond_true, cond_false] at h
              · cases h
              have q1 := Nat.le_of_ble_eq_true hr1
              have q2 := Nat.le_of_ble_eq_true hr2
              split at h
              · rename_i rr hrr
                refine xs_call hx hb hml hlsz hown hts hall hMt hK hkw hkF.mono r1 r2 hA hAr hzz (hcall _ _ _ _ hrr) (xs_dec hdec (xs_arg_sw hAr)) hm hP hD0 hS hs (by rw [r3]; exact q1) (by rw [r4]; exact q2) (fun t' ws' H' locs' st' hm' hP' hD' hS' hs' => ?_)
                rw [List.append_assoc] at hm' hs'
                exact hih _ _ _ _ _ _ _ h hcs' q1 q2 (t ++ t') ws' H' locs' ls st' hm' hP' hD' hS' (by rw [← List.append_assoc]; exact xr_l_mono hl) hs'
              · cases h
            · cases h
          · split at h
            · rename_i T hT
              refine xs_nat hx hb (by rw [hml, hlsz]) hown hD hY (fun i j hj => hts _ (htb _ ((hMt i 5 j hj).2.2.2.2.2.1 rfl))) (hts _ (htb _ n1)) (hts _ (htb _ n2)) (fun i j hj => hts _ (htb _ ((hMt i 6 j hj).2.2.2.2.2.2 rfl))) (hts _ (htb _ n3)) (hts _ (htb _ n4)) (hts _ (htb _ n5)) (fun i j n k cs b x q rest g1 g2 g3 g4 g5 g6 g7 g8 kk => ?_) (by omega) (by omega) hK.1 hT (xs_dec hdec (xs_nat_sw hT)) hm hP hD0 hS hs (fun ws' H' locs' st' hm' hP' hD' hS' hs' => ?_)
              · have hn : n < kx.1.length := (List.getElem?_eq_some_iff.mp g2).1
                cases Option.some.inj (g6.symm.trans (hkF.mono.1 n hn))
                refine W.callR (W.runV (C := "java/lang/String") (As := [.int x]) (rest := rest) ⟨hx, hb, hml, hown, hts⟩ (hchar A n k cs b x g2 g3 g4 g5) ⟨callB_of 1 hts (xc_good hall.1 m4) rfl rfl rfl (hts _ (htb _ m3)) (hts _ (htb _ ((hMt i 4 j g1).2.2.2.2.1 rfl))) (by decide +kernel) ⟨by show 1 + 1 ≤ R.frames; omega, by show 8 + (2 + 11) + 22 ≤ R.locals; omega⟩, hts _ (htb _ m1), hts _ (htb _ m2)⟩ ⟨fun a U g mk q => ⟨q.1, vk_S.moved (u := U) (U := U.calling g mk a) (Vm.Alike.refl U.vm) q.2⟩, vk_recv hkw.1 hn hS, fun U hU hW => ⟨rfl, by show vk_S _ _ _ _ _ A U U.heap; rw [hU]; exact vk_S.moved hW.alike (vk_S.kept hkw.1 hS.2.1)⟩⟩ rfl rfl hlsz rfl ?_ g8 ⟨by rw [r3]; exact hc1, by rw [r4]; exact hc2⟩) kk
                show 2 * 0 + _ ≤ 8
                omega
              exact hih _ _ _ _ _ _ _ h hcs' hc1 hc2 t ws' H' locs' ls st' hm' hP' hD' hS' hl hs'
            · split at h
              · rename_i rv hrv
                exact hfin _ _ _ _ _ _ _ _ hrv h (xs_dec hdec (xs_end_sw hrv)) hc1 hc2 t ws H locs ls st hm hP hD0 hS hl hs
              · cases h
/-- UP TO AN INSTRUCTION of the body -/
theorem xs_seg (hD : xv_ok D g) (hall : xc_all tb nest cl ct at_ kx.1 kx.2.2.2.1 kcc ms ys) (hchar : xk_Ch l tb kcc kx) (hY : xc_tys cl at_ tys) {d : Nat} {call : Nat → List (xv_V V) → xv_M V → Option (xv_R V)} (hcall : ∀ (j : Nat) (as : List (xv_V V)) (M : xv_M V) (r : xv_R V), call j as M = some r → xm_Con l g tys Dg cl at_ nest kx tb ms ys d j as M r)
    {y : xv_N} {z : xm_Z} {p : Program} {e : Env} {R : Room} {s : State} {m : MethodId} {args : Array Value} {below : List Frame} {meth : Method} {c : Code} {A : Nat → Prop} {Q : State → Prop} {φ0 : List Nat} (hfix : xw_fix Dg cl tys at_ nest kx tb ct ys d y z p R s m args meth c A) (hkF : xk_F kx φ0) {stop : Nat} {r : xv_L V × List (xv_V V) × xv_M V × Nat × Nat}
    (hr : xw_st p l e R s m args below meth c Q g Dg cl tys kx A φ0 y stop r.1 r.2.1 r.2.2.1 r.2.2.2.1 r.2.2.2.2) :
    ∀ (n pc : Nat) (cs : List xv_I) (L : xv_L V) (S : List (xv_V V)) (M : xv_M V) (cells slots : Nat), xv_seg D ct at_ kx.1 ms call y stop n pc cs L S M cells slots = some r → (∀ q ∈ cs, q ∈ y.2.2.2) → xw_st p l e R s m args below meth c Q g Dg cl tys kx A φ0 y pc L S M cells slots := by
  intro n
  induction n with
  | zero => intro pc cs L S M cells slots h; cases h
  | succ n ih =>
    intro pc cs L S M cells slots h hcs
    have h : xv_step D ct at_ kx.1 ms call y (fun _ _ => none) (fun pc cs L S M c s => bif Nat.beq pc stop then some (L, S, M, c, s) else xv_seg D ct at_ kx.1 ms call y stop n pc cs L S M c s) pc cs L S M cells slots = some r := h
    refine xs_step hD hall hchar hY hcall hfix hkF h hcs (fun pc cs L S M cells slots h hcs => ?_) (fun i pc L S M cells slots rv h1 h2 h3 => by cases h2)
    cases hpc : Nat.beq pc stop <;> simp only [hpc, cond_true, cond_false] at h
    · exact ih _ _ _ _ _ _ _ h hcs
    · cases Option.some.inj h
      rw [Nat.eq_of_beq_eq_true hpc]
      exact hr
/-- THE BODY of a method, by its steps; hend: what its end gives -/
theorem xs_loop (hD : xv_ok D g) (hall : xc_all tb nest cl ct at_ kx.1 kx.2.2.2.1 kcc ms ys) (hchar : xk_Ch l tb kcc kx) (hY : xc_tys cl at_ tys) {d : Nat} {call : Nat → List (xv_V V) → xv_M V → Option (xv_R V)} (hcall : ∀ (j : Nat) (as : List (xv_V V)) (M : xv_M V) (r : xv_R V), call j as M = some r → xm_Con l g tys Dg cl at_ nest kx tb ms ys d j as M r)
    {y : xv_N} {z : xm_Z} {p : Program} {e : Env} {R : Room} {s : State} {m : MethodId} {args : Array Value} {below : List Frame} {meth : Method} {c : Code} {A : Nat → Prop} {Q : State → Prop} {φ0 : List Nat} (hfix : xw_fix Dg cl tys at_ nest kx tb ct ys d y z p R s m args meth c A) (hkF : xk_F kx φ0) {r : xv_R V}
    (hend : ∀ (i : Instr) (pc : Nat) (L : xv_L V) (S : List (xv_V V)) (cells slots : Nat), xv_end D y.2.1.2.2.1 S i = some r.1 → decode z.2.1 pc = .ok (i, xv_len i) → xw_st p l e R s m args below meth c Q g Dg cl tys kx A φ0 y pc L S r.2 cells slots) :
    ∀ (n pc : Nat) (cs : List xv_I) (L : xv_L V) (S : List (xv_V V)) (M : xv_M V) (cells slots : Nat), xv_loop D ct at_ kx.1 ms call y n pc cs L S M cells slots = some r → (∀ q ∈ cs, q ∈ y.2.2.2) → xw_st p l e R s m args below meth c Q g Dg cl tys kx A φ0 y pc L S M cells slots := by
  intro n
  induction n with
  | zero => intro pc cs L S M cells slots h; cases h
  | succ n ih =>
    intro pc cs L S M cells slots h hcs
    have h : xv_step D ct at_ kx.1 ms call y (fun r M => some (r, M)) (xv_loop D ct at_ kx.1 ms call y n) pc cs L S M cells slots = some r := h
    refine xs_step hD hall hchar hY hcall hfix hkF h hcs (fun pc cs L S M cells slots h hcs => ih _ _ _ _ _ _ _ h hcs) (fun i pc L S M cells slots rv h1 h2 h3 => ?_)
    cases Option.some.inj h2
    exact hend i pc L S cells slots h1 h3
/-- a contract out of the walk of the body -/
theorem xm_of (hall : xc_all tb nest cl ct at_ kx.1 kx.2.2.2.1 kcc ms ys) {d j : Nat} {as : List (xv_V V)} {M : xv_M V} {r : xv_R V}
    (h : ∀ (y : xv_N) (z : xm_Z), ms[j]? = some y → ys[j]? = some z → ∀ {p : Program} {e : Env} {s : State} {m : MethodId} {args : Array Value} {below : List Frame} {meth : Method} {c : Code} {A : Nat → Prop} {φ0 : List Nat}, xw_fix Dg cl tys at_ nest kx tb ct ys d y z p (xm_rm (d + 1) y) s m args meth c A → xk_F kx φ0 → meth.sig.returnType = z.2.2 → meth.locks = false →
      xv_cats as ≤ y.2.1.2.1 ∧ xw_st p l e (xm_rm (d + 1) y) s m args below meth c (MQ below (xm_Q (xk_c g kx) g tys Dg cl r φ0 A) args s y.2.2.1.1 y.2.2.1.2 A) g Dg cl tys kx A φ0 y 0 (xv_in as y.2.1.2.1) [] M 0 0) :
    xm_Con l g tys Dg cl at_ nest kx tb ms ys (d + 1) j as M r := by
  intro y z hy hz φ ws vals sz hm hs hkF
  obtain ⟨z2, hz2, hone⟩ := hall.2.2.2.2 j y hy
  cases Option.some.inj (hz2.symm.trans hz)
  refine Met.ofW (cc := z.2.1) (maxL := y.2.1.2.1) (ret := z.2.2) hone.1 rfl ?_
  intro p e s m args below meth c s₁ B hml hv
  obtain ⟨rfl, hsz, hP, hK, hD0, hkw⟩ := hv
  subst hsz
  have hD1 := hD0.self (sz := s.heap.size)
  obtain ⟨hle, hst⟩ := h y z hy hz (p := p) (e := e) (below := below) (A := va_A ws s.heap.size) (φ0 := φ) ⟨B.exec, B.bytes, hml, findClass_of_methodNamed B.named, ⟨_, atoms_spec B.pre⟩, hK, hkw, ⟨Nat.le_refl _, Nat.le_refl _, rfl, rfl⟩, fun q hq => Or.inr hq, (name_of_methodNamed B.named B.method).1, hone.2.2.2.2.2⟩ hkF B.returns B.notSynchronized
  have hl := lv_entry vals (n := y.2.1.2.1) (by rw [xr_s_sl hs]; exact hle)
  rw [lg_entry_eq]
  refine hst (Nat.zero_le _) (Nat.zero_le _) [] ws s.heap [] _ _ (by rw [List.append_nil]; exact hm) hP hD1 va_S.rf ?_ rfl
  rw [List.append_nil]
  refine ⟨xv_in_len as _ hle, _, hl, fun i v hi => ?_⟩
  obtain ⟨x, hx1, hx2⟩ := xv_in_at 0 y.2.1.2.1 i hs hi
  exact ⟨x, by rw [Nat.zero_add] at hx1; exact hx1, hx2⟩
/-- THE PURE MACHINE IS RIGHT: what it runs, the method does -/
theorem xs_run (hD : xv_ok D g) (hall : xc_all tb nest cl ct at_ kx.1 kx.2.2.2.1 kcc ms ys) (hchar : xk_Ch l tb kcc kx) (hY : xc_tys cl at_ tys) {ext : Nat → Nat → List (xv_V V) → xv_M V → Option (xv_R V)} (hext : ∀ (d j : Nat) (as : List (xv_V V)) (M : xv_M V) (r : xv_R V), ext d j as M = some r → xm_Con l g tys Dg cl at_ nest kx tb ms ys d j as M r) (fuel : Nat) :
    ∀ (d j : Nat) (as : List (xv_V V)) (M : xv_M V) (r : xv_R V), xv_run D ct at_ kx.1 ms ext fuel d j as M = some r → xm_Con l g tys Dg cl at_ nest kx tb ms ys d j as M r := by
  intro d
  induction d with
  | zero => intro j as M r h; cases h
  | succ d ih =>
    intro j as M r h
    have h : (match ext (d + 1) j as M with
      | some r => some r
      | none => match ms[j]? with
        | some y => bif Nat.ble (xv_cats as) y.2.1.2.1 then xv_loop D ct at_ kx.1 ms (xv_run D ct at_ kx.1 ms ext fuel d) y fuel 0 y.2.2.2 (xv_in as y.2.1.2.1) [] M 0 0 else none
        | none => none) = some r := h
    split at h
    · rename_i r' hr'
      cases Option.some.inj h
      exact hext _ _ _ _ _ hr'
    · refine xm_of hall (fun y z hy hz => ?_)
      intro p e s m args below meth c A φ0 hfix hkF hret hlocks
      rw [hy] at h
      dsimp only at h
      cases hc : Nat.ble (xv_cats as) y.2.1.2.1 <;> simp only [hc, cond_true, cond_false] at h
      · cases h
      refine ⟨Nat.le_of_ble_eq_true hc, xs_loop hD hall hchar hY ih hfix hkF (fun i pc L S cells slots h1 h2 => ?_) fuel 0 _ _ _ _ 0 0 h (fun q hq => hq)⟩
      intro hc1 hc2 t ws H locs ls st hm hP hD0 hS hl hs
      obtain ⟨hx, hb, -, -, -, -, -, -, -, -, hbod⟩ := hfix
      exact xs_end hD hx hb (by rw [hret]; exact hbod.1.symm) hlocks h1 h2 hm hP hD0 hS hs hc1 hc2
end XSW
end
section
/-! THE DOMAIN: exact numbers (.inl n), numbers between two bounds (.inr (lo, hi)); .inr (lo, hi) with hi < lo: the lowest six bits are hi -/
abbrev xd_V : Type := Int ⊕ (Int × Int)
def xd_le : Int → Int → Bool
  | .ofNat m, .ofNat n => Nat.ble m n
  | .ofNat _, .negSucc _ => false
  | .negSucc _, .ofNat _ => true
  | .negSucc m, .negSucc n => Nat.ble n m
def xd_top : xd_V := .inr (-2147483648, 2147483647)
def xd_r32 (z : Int) : Option xd_V := bif xd_le (-2147483648) z && xd_le z 2147483647 then some (.inl z) else none
def xd_r64 (z : Int) : Option xd_V := bif xd_le (-9223372036854775808) z && xd_le z 9223372036854775807 then some (.inl z) else none
def xd_i32 (o : Nat) (a b : Int) : Option xd_V := match xv_semI o (Int32.ofInt a) (Int32.ofInt b) with
  | some z => some (.inl z.toInt)
  | none => none
def xd_i64 (o : Nat) (a b : Int) : Option xd_V := match xv_semL o (Int64.ofInt a) (Int64.ofInt b) with
  | some z => some (.inl z.toInt)
  | none => none
def xd_and (a b : Int) : Option xd_V := match a, b with
  | .ofNat m, .ofNat n => some (.inl (.ofNat (Nat.land m n)))
  | _, _ => none
def xd_or (a b : Int) : Option xd_V := match a, b with
  | .ofNat m, .ofNat n => some (.inl (.ofNat (Nat.lor m n)))
  | _, _ => none
def xd_is0 : Int → Bool
  | .ofNat 0 => true
  | _ => false
/-- two exact numbers -/
def xd_ex (a b : Int) : Nat → Option xd_V
  | 0 => xd_r32 (Int.add a b)
  | 1 => xd_r32 (Int.sub a b)
  | 2 => xd_r32 (Int.mul a b)
  | 3 => match xd_and a b with
    | some r => some r
    | none => xd_i32 3 a b
  | 4 => match xd_or a b with
    | some r => some r
    | none => xd_i32 4 a b
  | 8 => bif xd_is0 b then none else xd_r32 (Int.tdiv a b)
  | 9 => bif xd_is0 b then none else xd_r32 (Int.tmod a b)
  | 10 => xd_r32 (Int.neg a)
  | 20 => xd_r64 (Int.add a b)
  | 21 => xd_r64 (Int.sub a b)
  | 22 => xd_r64 (Int.mul a b)
  | 23 => match xd_and a b with
    | some r => some r
    | none => xd_i64 3 a b
  | 24 => match xd_or a b with
    | some r => some r
    | none => xd_i64 4 a b
  | 25 => bif xd_is0 b then none else xd_r64 (Int.tdiv a b)
  | 26 => bif xd_is0 b then none else xd_r64 (Int.tmod a b)
  | 27 => xd_r64 (Int.neg a)
  | 30 => some (.inl (Int64.ofInt a <<< ((Int32.ofInt b).toInt64 &&& 63)).toInt)
  | 31 => some (.inl (Int64.ofInt a >>> ((Int32.ofInt b).toInt64 &&& 63)).toInt)
  | 40 => some (.inl a)
  | 41 => xd_r32 a
  | 42 => bif xd_le a b then (bif xd_le b a then some (.inl 0) else some (.inl (-1))) else some (.inl 1)
  | 5 => xd_i32 5 a b
  | 6 => xd_i32 6 a b
  | 7 => xd_i32 7 a b
  | _ => none
/-- a number that isn't exact -/
def xd_un (o : Nat) (a b : xd_V) : Option xd_V := match a, b with
  | .inr (lo, hi), .inl n => bif Nat.beq o 3 && (xd_le n 63 && xd_le 63 n && !xd_le lo hi) then some (.inl hi) else bif Nat.blt o 8 then some xd_top else none
  | _, _ => bif Nat.blt o 8 then some xd_top else none
def xd_op (o : Nat) (a b : xd_V) : Option xd_V := match a, b with
  | .inl x, .inl y => xd_ex x y o
  | _, _ => xd_un o a b
def xd_b : xd_V → Int × Int
  | .inl n => (n, n)
  | .inr (lo, hi) => bif xd_le lo hi then (lo, hi) else (-2147483648, 2147483647)
def xd_cq (o : Nat) (al ah bl bh : Int) : Option Bool := match o with
  | 0 => bif xd_le bl al && xd_le ah bl && (xd_le bl bh && xd_le bh bl) then some true else bif !xd_le bl ah || !xd_le al bh then some false else none
  | 1 => bif xd_le bl al && xd_le ah bl && (xd_le bl bh && xd_le bh bl) then some false else bif !xd_le bl ah || !xd_le al bh then some true else none
  | 2 => bif xd_le bh al then some false else bif !xd_le bl ah then some true else none
  | 3 => bif xd_le bh al then some true else bif !xd_le bl ah then some false else none
  | 4 => bif xd_le ah bl then some false else bif !xd_le al bh then some true else none
  | _ => bif xd_le ah bl then some true else bif !xd_le al bh then some false else none
def xd_cmp (o : Nat) (a b : xd_V) : Option Bool := match xd_b a, xd_b b with
  | (al, ah), (bl, bh) => xd_cq o al ah bl bh
def xd_val : xd_V → Option Int
  | .inl n => some n
  | .inr _ => none
def xd_bit : xd_V → Bool
  | .inl n => xd_le 0 n && xd_le n 1
  | .inr _ => false
def xd_D : xv_D xd_V := (fun n => .inl n.toInt, fun n => .inl n.toInt, xd_op, xd_cmp, xd_val, xd_bit)
end
section
def zt_ct : List (List (FieldType × Bool)) := [[(.int, false), (.int, false), (.int, false), (.int, false), (.int, false), (.int, false), (.int, false), (.int, false)], [(.int, false), (.int, false), (.int, false), (.int, false)], [(.object "EggGarden$Tokens", true), (.object "EggGarden$Laws", true), (.array .int, true), (.int, false), (.int, false), (.array .boolean, true), (.boolean, false), (.boolean, false)], [(.array .int, true), (.array .int, true), (.array .int, true), (.array .int, true), (.array .long, true), (.int, false), (.int, false)], [(.object "EggGarden$Plan", true), (.array (.object "EggGarden$Egg"), true), (.int, false), (.array (.object "EggGarden$Child"), true), (.int, false), (.array .boolean, true), (.array .int, true), (.array .int, true), (.int, false), (.int, false), (.int, false), (.int, false)], [(.int, false), (.int, false), (.int, false), (.int, false), (.int, false), (.int, false), (.array .int, true), (.array .int, true), (.array .int, true), (.object "EggGarden$Laws", true), (.array .int, true), (.array .int, true), (.array .int, true)], [(.object "EggGarden$Tokens", true), (.object "EggGarden$Formula", true), (.object "EggGarden$Plan", true), (.object "EggGarden$Morning", true), (.int, false), (.int, false), (.boolean, false), (.int, false), (.int, false), (.int, false), (.int, false)], [(.array .int, true), (.array .int, true), (.array .int, true), (.array .boolean, true), (.array .int, true), (.array .boolean, true), (.int, false), (.int, false)], [(.array .int, true), (.array .int, true), (.int, false), (.int, false), (.int, false), (.int, false), (.int, false)], [(.object "EggGarden$Plan", true), (.object "EggGarden$Morning", true), (.object "EggGarden$Morning", true), (.object "EggGarden$Seen", true), (.object "EggGarden$Morning", true), (.array .int, true), (.int, false), (.array .int, true), (.array .boolean, true), (.array .int, true), (.array .int, true), (.array .int, true), (.array .int, true), (.int, false), (.int, false), (.int, false), (.array .int, true), (.array .int, true), (.int, false), (.array .int, true)], [(.array .int, true), (.array .int, true), (.array .int, true), (.array .int, true), (.int, false)], [(.array .int, true), (.int, false), (.int, false), (.int, false), (.object "EggGarden$Reader", true), (.object "EggGarden$Plan", true), (.object "EggGarden$Morning", true), (.object "EggGarden$Morning", true), (.object "EggGarden$Morning", true), (.boolean, false), (.object "EggGarden$Seen", true), (.object "EggGarden$Undoing", true), (.object "EggGarden$Trials", true)], [(.array .int, true), (.int, false), (.int, false), (.array .int, true), (.int, false), (.int, false), (.int, false), (.int, false), (.int, false), (.int, false), (.int, false), (.int, false), (.int, false), (.int, false), (.int, false), (.int, false), (.int, false), (.int, false), (.int, false), (.int, false), (.int, false), (.int, false), (.int, false), (.boolean, false), (.array .boolean, true), (.array .int, true), (.array .int, true), (.array .boolean, true), (.array .int, true), (.array .int, true), (.array .int, true), (.array .int, true), (.array .int, true), (.array .int, true), (.array .int, true), (.array .int, true), (.array .boolean, true), (.array .int, true), (.array .int, true), (.array .int, true), (.array .int, true), (.array .int, true), (.int, false), (.array .int, true), (.array .int, true), (.int, false), (.int, false), (.int, false), (.int, false), (.boolean, false), (.boolean, false), (.array .long, true), (.array .long, true), (.boolean, false), (.array .int, true), (.array .int, true), (.array .int, true), (.array .int, true), (.array .int, true), (.array .long, true), (.array .int, true), (.array .int, true), (.int, false), (.long, false), (.int, false), (.boolean, false), (.boolean, false), (.boolean, false), (.boolean, false), (.int, false), (.array .int, true), (.int, false), (.int, false), (.int, false), (.array .int, true), (.int, false), (.array .int, true), (.int, false), (.int, false), (.array .int, true), (.array .boolean, true), (.int, false), (.array .int, true), (.boolean, false), (.array .int, true), (.array .int, true), (.array .int, true), (.array .int, true), (.long, false), (.int, false), (.long, false)]]
def zt_at : List Nat := [1, 0]
def zt_sct : List (List Int32) := [[103, 97, 114, 100, 101, 110, 98, 117, 115, 104, 32, 32, 112, 111, 116, 32, 32, 32, 116, 114, 101, 101, 32, 32, 101, 103, 103, 32, 32, 32, 99, 104, 105, 108, 100, 32, 114, 117, 108, 101, 32, 32, 108, 105, 110, 101, 32, 32, 100, 111, 103, 32, 32, 32, 115, 117, 110, 32, 32, 32, 115, 101, 101, 100, 32, 32, 108, 97, 119, 32, 32, 32, 114, 101, 100, 32, 32, 32, 98, 108, 117, 101, 32, 32, 103, 114, 101, 101, 110, 32, 103, 111, 108, 100, 32, 32, 102, 114, 101, 101, 32, 32, 111, 119, 110, 32, 32, 32, 98, 101, 104, 105, 110, 100, 115, 101, 101, 32, 32, 32, 104, 105, 100, 101, 32, 32, 106, 111, 121, 32, 32, 32, 107, 101, 101, 112, 32, 32, 111, 114, 32, 32, 32, 32, 97, 110, 100, 32, 32, 32, 110, 111, 116, 32, 32, 32, 97, 103, 101, 32, 32, 32, 104, 97, 114, 100, 32, 32, 107, 105, 110, 100, 32, 32, 99, 111, 108, 111, 114, 32, 109, 105, 110, 101, 32, 32, 114, 111, 119, 32, 32, 32, 109, 97, 110, 121, 32, 32]]
def zt_K11 : xv_K := ([(9, 11, 0), (13, 11, 3), (22, 11, 4), (29, 11, 5), (38, 11, 6), (42, 11, 7), (45, 11, 8), (51, 11, 10), (58, 11, 11), (67, 11, 12), (94, 6, 2), (98, 6, 3), (107, 11, 9)], [(1, 5, 0), (19, 1, 1), (28, 2, 2), (35, 1, 4), (50, 2, 9), (57, 2, 10), (64, 1, 11), (71, 0, 12), (75, 0, 19), (95, 0, 20), (101, 0, 22), (104, 0, 23), (111, 0, 27), (114, 0, 28)], [(17, 6), (26, 5), (33, 4), (48, 7), (55, 10), (62, 9)], [], [])
def zt_K0 : xv_K := ([(9, 0, 7)], [(3, 5, 0)], [], [], [])
def zt_K1 : xv_K := ([], [(1, 5, 0)], [], [], [])
def zt_K2 : xv_K := ([(9, 2, 2), (15, 2, 5), (19, 2, 0), (23, 2, 1)], [(3, 5, 0)], [], [], [])
def zt_K3 : xv_K := ([(9, 3, 0), (15, 3, 1), (18, 3, 2), (21, 3, 3), (24, 3, 4), (28, 3, 5), (32, 3, 6)], [(3, 5, 0), (35, 6, 0)], [], [], [(41, -9223372036854775808), (51, 1000000000000), (53, -1000000000000)])
def zt_K4 : xv_K := ([(11, 4, 1), (19, 4, 3), (23, 4, 5), (27, 4, 6), (31, 4, 7), (34, 4, 0), (40, 4, 2), (44, 4, 4), (47, 4, 8), (50, 4, 9), (53, 4, 10), (57, 4, 11)], [(3, 5, 0), (38, 2, 5), (39, 2, 6)], [(9, 1), (17, 0), (70009, 1000), (70017, 1001)], [(56, 1000000)], [])
def zt_K5 : xv_K := ([(9, 5, 6), (15, 5, 7), (18, 5, 8), (24, 5, 9), (28, 5, 10), (31, 5, 11), (34, 5, 12), (37, 5, 3), (41, 5, 4), (44, 5, 5), (54, 5, 0), (57, 5, 1), (60, 5, 2), (107, 4, 6), (112, 4, 4), (115, 4, 3), (119, 0, 2)], [(3, 5, 0), (23, 2, 3), (47, 0, 14), (50, 0, 15), (63, 0, 21), (67, 6, 0), (79, 0, 26), (93, 0, 25), (103, 0, 24)], [(21, 3)], [], [(83, -9223372036854775808)])
def zt_K6 : xv_K := ([(12, 6, 2), (23, 6, 3), (32, 6, 0), (38, 5, 9), (45, 6, 1), (53, 6, 4), (57, 6, 5), (60, 6, 6), (64, 6, 9), (67, 6, 10), (77, 8, 4), (84, 5, 5), (87, 4, 9)], [(3, 5, 0), (11, 2, 2), (20, 1, 4), (29, 1, 7), (42, 1, 8), (49, 0, 13), (52, 0, 16), (70, 0, 17), (74, 0, 18)], [(9, 5), (18, 4), (27, 8), (36, 2)], [], [])
def zt_K7 : xv_K := ([(9, 7, 0), (15, 7, 1), (18, 7, 2), (21, 7, 3), (25, 7, 4), (28, 7, 5), (31, 7, 7), (35, 7, 6)], [(3, 5, 0)], [], [], [])
def zt_K8 : xv_K := ([(9, 8, 1), (15, 8, 0), (26, 8, 2), (30, 8, 3), (33, 8, 4), (36, 8, 5), (39, 8, 6)], [(3, 5, 0), (20, 4, 0)], [(18, 2000)], [], [])
def zt_K9 : xv_K := ([(9, 9, 5), (15, 9, 7), (18, 9, 8), (22, 9, 9), (25, 9, 10), (28, 9, 11), (31, 9, 12), (34, 9, 16), (37, 9, 17), (40, 9, 19), (43, 4, 0), (49, 9, 0), (50, 9, 1), (54, 9, 2), (57, 9, 3), (64, 9, 4)], [(3, 5, 0), (61, 1, 4)], [(44, 4)], [], [])
def zt_K10 : xv_K := ([(9, 10, 0), (15, 10, 1), (18, 10, 2), (21, 10, 3), (24, 10, 4)], [(3, 5, 0)], [], [], [])
def zt_K12 : xv_K := ([(7, 12, 0), (13, 12, 3), (16, 12, 5), (20, 12, 24), (24, 12, 25), (27, 12, 26), (30, 12, 27), (33, 12, 28), (36, 12, 29), (39, 12, 30), (42, 12, 31), (45, 12, 32), (48, 12, 33), (51, 12, 34), (54, 12, 35), (57, 12, 36), (60, 12, 37), (63, 12, 38), (66, 12, 39), (69, 12, 40), (72, 12, 41), (75, 12, 43), (78, 12, 44), (81, 12, 51), (85, 12, 52), (88, 12, 54), (91, 12, 55), (94, 12, 56), (97, 12, 57), (100, 12, 58), (103, 12, 59), (106, 12, 60), (109, 12, 61), (112, 12, 69), (115, 12, 70), (118, 12, 74), (121, 12, 76), (124, 12, 78), (127, 12, 79), (130, 12, 80), (133, 12, 82), (136, 12, 84), (139, 12, 85), (142, 12, 86), (145, 12, 87), (216, 12, 17), (219, 12, 18), (222, 12, 19), (225, 12, 20), (228, 12, 21), (231, 12, 22), (234, 12, 48), (237, 12, 23), (241, 12, 12), (244, 12, 13), (247, 12, 14), (250, 12, 15), (253, 12, 16), (353, 12, 53), (378, 12, 62), (381, 12, 63), (391, 12, 77), (394, 12, 81), (397, 12, 83), (400, 12, 64), (403, 12, 65), (406, 12, 66), (409, 12, 67), (412, 12, 68)], [(1, 5, 0), (148, 0, 30), (151, 0, 31), (256, 3, 32), (260, 0, 33), (372, 0, 36), (375, 0, 34), (385, 0, 35), (388, 0, 37), (422, 0, 38), (426, 0, 39)], [], [], [])
def zt_m0 : xv_N := ((11, zt_K11), (0, 1, 0, 1), (186, 4242), [(0, .aload_n 0), (1, .invokespecial 1), (4, .aload_n 0), (5, .sipush 700), (8, .newarray .int), (10, .putfield 9), (13, .aload_n 0), (14, .iconst (-1)), (15, .putfield 13), (18, .aload_n 0), (19, .new 17), (22, .dup), (23, .aload_n 0), (24, .getfield 9), (27, .invokespecial 19), (30, .putfield 22), (33, .aload_n 0), (34, .new 26), (37, .dup), (38, .invokespecial 28), (41, .putfield 29), (44, .aload_n 0), (45, .new 33), (48, .dup), (49, .aload_n 0), (50, .getfield 29), (53, .invokespecial 35), (56, .putfield 38), (59, .aload_n 0), (60, .new 33), (63, .dup), (64, .aload_n 0), (65, .getfield 29), (68, .invokespecial 35), (71, .putfield 42), (74, .aload_n 0), (75, .new 33), (78, .dup), (79, .aload_n 0), (80, .getfield 29), (83, .invokespecial 35), (86, .putfield 45), (89, .aload_n 0), (90, .new 48), (93, .dup), (94, .invokespecial 50), (97, .putfield 51), (100, .aload_n 0), (101, .new 55), (104, .dup), (105, .invokespecial 57), (108, .putfield 58), (111, .aload_n 0), (112, .new 62), (115, .dup), (116, .aload_n 0), (117, .getfield 42), (120, .aload_n 0), (121, .getfield 38), (124, .aload_n 0), (125, .getfield 51), (128, .invokespecial 64), (131, .putfield 67), (134, .aload_n 0), (135, .getfield 22), (138, .iconst 0), (139, .invokevirtual 71), (142, .pop), (143, .aload_n 0), (144, .invokevirtual 75), (147, .return_)])
def zt_m1 : xv_N := ((6, zt_K6), (1, 2, 0, 1), (44, 968), [(0, .aload_n 0), (1, .invokespecial 3), (4, .aload_n 0), (5, .new 9), (8, .dup), (9, .invokespecial 11), (12, .putfield 12), (15, .aload_n 0), (16, .new 18), (19, .dup), (20, .aload_n 0), (21, .getfield 12), (24, .invokespecial 20), (27, .putfield 23), (30, .aload_n 0), (31, .new 27), (34, .dup), (35, .aload_n 1), (36, .invokespecial 29), (39, .putfield 32), (42, .aload_n 0), (43, .new 36), (46, .dup), (47, .aload_n 0), (48, .getfield 32), (51, .aload_n 0), (52, .getfield 12), (55, .getfield 38), (58, .invokespecial 42), (61, .putfield 45), (64, .return_)])
def zt_m2 : xv_N := ((5, zt_K5), (0, 1, 0, 1), (12, 598), [(0, .aload_n 0), (1, .invokespecial 3), (4, .aload_n 0), (5, .bipush 48), (7, .newarray .int), (9, .putfield 9), (12, .aload_n 0), (13, .bipush 48), (15, .newarray .int), (17, .putfield 15), (20, .aload_n 0), (21, .bipush 48), (23, .newarray .int), (25, .putfield 18), (28, .aload_n 0), (29, .new 21), (32, .dup), (33, .invokespecial 23), (36, .putfield 24), (39, .aload_n 0), (40, .bipush 48), (42, .newarray .int), (44, .putfield 28), (47, .aload_n 0), (48, .sipush 192), (51, .newarray .int), (53, .putfield 31), (56, .aload_n 0), (57, .bipush 7), (59, .newarray .int), (61, .putfield 34), (64, .return_)])
def zt_m3 : xv_N := ((3, zt_K3), (0, 1, 0, 1), (5, 200), [(0, .aload_n 0), (1, .invokespecial 3), (4, .aload_n 0), (5, .bipush 64), (7, .newarray .int), (9, .putfield 9), (12, .aload_n 0), (13, .bipush 64), (15, .newarray .int), (17, .putfield 15), (20, .aload_n 0), (21, .iconst 4), (22, .newarray .int), (24, .putfield 18), (27, .aload_n 0), (28, .iconst 4), (29, .newarray .int), (31, .putfield 21), (34, .aload_n 0), (35, .bipush 64), (37, .newarray .long), (39, .putfield 24), (42, .return_)])
def zt_m4 : xv_N := ((4, zt_K4), (1, 3, 0, 1), (25, 216), [(0, .aload_n 0), (1, .invokespecial 3), (4, .aload_n 0), (5, .bipush 16), (7, .anewarray 9), (10, .putfield 11), (13, .aload_n 0), (14, .iconst 4), (15, .anewarray 17), (18, .putfield 19), (21, .aload_n 0), (22, .bipush 48), (24, .newarray .boolean), (26, .putfield 23), (29, .aload_n 0), (30, .bipush 48), (32, .newarray .int), (34, .putfield 27), (37, .aload_n 0), (38, .iconst 4), (39, .newarray .int), (41, .putfield 31), (44, .aload_n 0), (45, .aload_n 1), (46, .putfield 34), (49, .iconst 0), (50, .istore_n 2), (51, .iload_n 2), (52, .bipush 16), (54, .if_icmp .ge 22), (57, .aload_n 0), (58, .getfield 11), (61, .iload_n 2), (62, .new 9), (65, .dup), (66, .invokespecial 38), (69, .aastore), (70, .iinc 2 1), (73, .goto (-22)), (76, .iconst 0), (77, .istore_n 2), (78, .iload_n 2), (79, .iconst 4), (80, .if_icmp .ge 22), (83, .aload_n 0), (84, .getfield 19), (87, .iload_n 2), (88, .new 17), (91, .dup), (92, .invokespecial 39), (95, .aastore), (96, .iinc 2 1), (99, .goto (-21)), (102, .return_)])
def zt_m5 : xv_N := ((1, zt_K1), (0, 1, 0, 1), (0, 0), [(0, .aload_n 0), (1, .invokespecial 1), (4, .return_)])
def zt_m6 : xv_N := ((0, zt_K0), (0, 1, 0, 1), (0, 0), [(0, .aload_n 0), (1, .invokespecial 3), (4, .aload_n 0), (5, .iconst (-1)), (6, .putfield 9), (9, .return_)])
def zt_m7 : xv_N := ((8, zt_K8), (1, 6, 0, 1), (1, 33), [(0, .aload_n 0), (1, .invokespecial 3), (4, .aload_n 0), (5, .bipush 33), (7, .newarray .int), (9, .putfield 9), (12, .aload_n 0), (13, .aload_n 1), (14, .putfield 15), (17, .iconst 0), (18, .istore_n 2), (19, .iload_n 2), (20, .bipush 33), (22, .if_icmp .ge 72), (25, .iconst 0), (26, .istore_n 3), (27, .iconst 0), (28, .istore 4), (30, .iload 4), (32, .bipush 6), (34, .if_icmp .ge 47), (37, .ldc 18), (39, .iload_n 2), (40, .bipush 6), (42, .imul), (43, .iload 4), (45, .iadd), (46, .invokevirtual 20), (49, .istore 5), (51, .iload_n 3), (52, .bipush 32), (54, .imul), (55, .iload 5), (57, .bipush 32), (59, .if_icmp .ne 7), (62, .iconst 0), (63, .goto 10), (66, .iload 5), (68, .bipush 97), (70, .isub), (71, .iconst 1), (72, .iadd), (73, .iadd), (74, .istore_n 3), (75, .iinc 4 1), (78, .goto (-48)), (81, .aload_n 0), (82, .getfield 9), (85, .iload_n 2), (86, .iload_n 3), (87, .iastore), (88, .iinc 2 1), (91, .goto (-72)), (94, .return_)])
def zt_m8 : xv_N := ((2, zt_K2), (2, 3, 0, 1), (2, 81), [(0, .aload_n 0), (1, .invokespecial 3), (4, .aload_n 0), (5, .bipush 72), (7, .newarray .int), (9, .putfield 9), (12, .aload_n 0), (13, .bipush 9), (15, .newarray .boolean), (17, .putfield 15), (20, .aload_n 0), (21, .aload_n 1), (22, .putfield 19), (25, .aload_n 0), (26, .aload_n 2), (27, .putfield 23), (30, .return_)])
def zt_m9 : xv_N := ((7, zt_K7), (0, 1, 0, 1), (6, 144), [(0, .aload_n 0), (1, .invokespecial 3), (4, .aload_n 0), (5, .bipush 24), (7, .newarray .int), (9, .putfield 9), (12, .aload_n 0), (13, .bipush 24), (15, .newarray .int), (17, .putfield 15), (20, .aload_n 0), (21, .bipush 24), (23, .newarray .int), (25, .putfield 18), (28, .aload_n 0), (29, .bipush 24), (31, .newarray .boolean), (33, .putfield 21), (36, .aload_n 0), (37, .bipush 24), (39, .newarray .int), (41, .putfield 25), (44, .aload_n 0), (45, .bipush 24), (47, .newarray .boolean), (49, .putfield 28), (52, .aload_n 0), (53, .iconst (-1)), (54, .putfield 31), (57, .return_)])
def zt_m10 : xv_N := ((10, zt_K10), (0, 1, 0, 1), (4, 80), [(0, .aload_n 0), (1, .invokespecial 3), (4, .aload_n 0), (5, .bipush 20), (7, .newarray .int), (9, .putfield 9), (12, .aload_n 0), (13, .bipush 20), (15, .newarray .int), (17, .putfield 15), (20, .aload_n 0), (21, .bipush 20), (23, .newarray .int), (25, .putfield 18), (28, .aload_n 0), (29, .bipush 20), (31, .newarray .int), (33, .putfield 21), (36, .return_)])
def zt_m11 : xv_N := ((9, zt_K9), (3, 4, 0, 1), (36, 1011), [(0, .aload_n 0), (1, .invokespecial 3), (4, .aload_n 0), (5, .sipush 161), (8, .newarray .int), (10, .putfield 9), (13, .aload_n 0), (14, .bipush 18), (16, .newarray .int), (18, .putfield 15), (21, .aload_n 0), (22, .bipush 18), (24, .newarray .boolean), (26, .putfield 18), (29, .aload_n 0), (30, .bipush 48), (32, .newarray .int), (34, .putfield 22), (37, .aload_n 0), (38, .iconst 4), (39, .newarray .int), (41, .putfield 25), (44, .aload_n 0), (45, .sipush 256), (48, .newarray .int), (50, .putfield 28), (53, .aload_n 0), (54, .sipush 256), (57, .newarray .int), (59, .putfield 31), (62, .aload_n 0), (63, .iconst 2), (64, .newarray .int), (66, .putfield 34), (69, .aload_n 0), (70, .iconst 4), (71, .newarray .int), (73, .putfield 37), (76, .aload_n 0), (77, .bipush 16), (79, .newarray .int), (81, .putfield 40), (84, .aload_n 0), (85, .aload_n 1), (86, .getfield 43), (89, .putfield 49), (92, .aload_n 0), (93, .aload_n 1), (94, .putfield 50), (97, .aload_n 0), (98, .aload_n 2), (99, .putfield 54), (102, .aload_n 0), (103, .aload_n 3), (104, .putfield 57), (107, .aload_n 0), (108, .new 44), (111, .dup), (112, .aload_n 1), (113, .getfield 43), (116, .invokespecial 61), (119, .putfield 64), (122, .return_)])
def zt_m12 : xv_N := ((6, zt_K6), (1, 4, 1, 0), (0, 0), [(0, .aload_n 0), (1, .getfield 12), (4, .invokevirtual 49), (7, .aload_n 0), (8, .getfield 23), (11, .invokevirtual 52), (14, .aload_n 0), (15, .iconst 0), (16, .putfield 53), (19, .aload_n 0), (20, .iconst 0), (21, .putfield 57), (24, .aload_n 0), (25, .iconst 0), (26, .putfield 60), (29, .aload_n 0), (30, .iconst 0), (31, .putfield 64), (34, .aload_n 0), (35, .iconst (-1)), (36, .putfield 67), (39, .aload_n 0), (40, .getfield 32), (43, .iload_n 1), (44, .invokevirtual 70), (47, .iconst 0), (48, .istore_n 2), (49, .iconst 0), (50, .istore_n 3), (51, .iload_n 3), (52, .sipush 700), (55, .if_icmp .gt 39), (58, .aload_n 0), (59, .getfield 32), (62, .invokevirtual 74), (65, .aload_n 0), (66, .getfield 32), (69, .getfield 77), (72, .ifCond .eq 22), (75, .aload_n 0), (76, .invokevirtual 80), (79, .ifCond .ne 6), (82, .goto 12), (85, .iinc 2 1), (88, .iinc 3 1), (91, .goto (-40)), (94, .aload_n 0), (95, .getfield 23), (98, .aload_n 0), (99, .getfield 12), (102, .getfield 84), (105, .putfield 87), (108, .iload_n 2), (109, .ireturn)])
def zt_m13 : xv_N := ((5, zt_K5), (0, 2, 0, 0), (0, 0), [(0, .aload_n 0), (1, .iconst 0), (2, .putfield 37), (5, .aload_n 0), (6, .iconst 0), (7, .putfield 41), (10, .aload_n 0), (11, .iconst 0), (12, .putfield 44), (15, .aload_n 0), (16, .getfield 24), (19, .invokevirtual 47), (22, .iconst 0), (23, .istore_n 1), (24, .iload_n 1), (25, .bipush 48), (27, .if_icmp .ge 16), (30, .aload_n 0), (31, .getfield 18), (34, .iload_n 1), (35, .iconst 0), (36, .iastore), (37, .iinc 1 1), (40, .goto (-16)), (43, .aload_n 0), (44, .bipush 6), (46, .iconst 5), (47, .invokevirtual 50), (50, .return_)])
def zt_m14 : xv_N := ((3, zt_K3), (0, 2, 0, 0), (0, 0), [(0, .aload_n 0), (1, .iconst 0), (2, .putfield 28), (5, .aload_n 0), (6, .iconst 0), (7, .putfield 32), (10, .iconst 0), (11, .istore_n 1), (12, .iload_n 1), (13, .iconst 4), (14, .if_icmp .ge 23), (17, .aload_n 0), (18, .getfield 18), (21, .iload_n 1), (22, .iconst (-1)), (23, .iastore), (24, .aload_n 0), (25, .getfield 21), (28, .iload_n 1), (29, .iconst (-1)), (30, .iastore), (31, .iinc 1 1), (34, .goto (-22)), (37, .return_)])
def zt_m15 : xv_N := ((5, zt_K5), (2, 6, 0, 0), (0, 0), [(0, .aload_n 0), (1, .iload_n 1), (2, .putfield 54), (5, .aload_n 0), (6, .iload_n 2), (7, .putfield 57), (10, .aload_n 0), (11, .aload_n 0), (12, .getfield 54), (15, .aload_n 0), (16, .getfield 57), (19, .imul), (20, .putfield 60), (23, .iconst 0), (24, .istore_n 3), (25, .iconst 0), (26, .istore 4), (28, .iload 4), (30, .aload_n 0), (31, .getfield 57), (34, .if_icmp .ge 52), (37, .iconst 0), (38, .istore 5), (40, .iload 5), (42, .aload_n 0), (43, .getfield 54), (46, .if_icmp .ge 34), (49, .iload_n 3), (50, .bipush 48), (52, .if_icmp .ge 28), (55, .aload_n 0), (56, .getfield 9), (59, .iload_n 3), (60, .iload 5), (62, .iastore), (63, .aload_n 0), (64, .getfield 15), (67, .iload_n 3), (68, .iload 4), (70, .iastore), (71, .iinc 3 1), (74, .iinc 5 1), (77, .goto (-37)), (80, .iinc 4 1), (83, .goto (-55)), (86, .return_)])
def zt_m16 : xv_N := ((4, zt_K4), (0, 2, 0, 0), (0, 0), [(0, .aload_n 0), (1, .iconst 0), (2, .putfield 40), (5, .aload_n 0), (6, .iconst 0), (7, .putfield 44), (10, .aload_n 0), (11, .iconst 0), (12, .putfield 47), (15, .aload_n 0), (16, .iconst 0), (17, .putfield 50), (20, .aload_n 0), (21, .iconst 0), (22, .putfield 53), (25, .aload_n 0), (26, .ldc 56), (28, .putfield 57), (31, .iconst 0), (32, .istore_n 1), (33, .iload_n 1), (34, .bipush 48), (36, .if_icmp .ge 23), (39, .aload_n 0), (40, .getfield 23), (43, .iload_n 1), (44, .iconst 0), (45, .bastore), (46, .aload_n 0), (47, .getfield 27), (50, .iload_n 1), (51, .iconst 0), (52, .iastore), (53, .iinc 1 1), (56, .goto (-23)), (59, .return_)])
def zt_m17 : xv_N := ((8, zt_K8), (1, 2, 0, 0), (0, 0), [(0, .aload_n 0), (1, .iload_n 1), (2, .putfield 26), (5, .aload_n 0), (6, .iconst 0), (7, .putfield 30), (10, .return_)])
def zt_m18 : xv_N := ((8, zt_K8), (0, 1, 0, 0), (0, 0), [(0, .aload_n 0), (1, .getfield 30), (4, .aload_n 0), (5, .getfield 26), (8, .if_icmp .ge 44), (11, .aload_n 0), (12, .getfield 15), (15, .aload_n 0), (16, .getfield 30), (19, .iaload), (20, .bipush 32), (22, .if_icmp .eq 17), (25, .aload_n 0), (26, .getfield 15), (29, .aload_n 0), (30, .getfield 30), (33, .iaload), (34, .bipush 10), (36, .if_icmp .ne 16), (39, .aload_n 0), (40, .dup), (41, .getfield 30), (44, .iconst 1), (45, .iadd), (46, .putfield 30), (49, .goto (-49)), (52, .aload_n 0), (53, .aload_n 0), (54, .getfield 30), (57, .putfield 39), (60, .aload_n 0), (61, .getfield 30), (64, .aload_n 0), (65, .getfield 26), (68, .if_icmp .lt 11), (71, .aload_n 0), (72, .iconst 0), (73, .putfield 33), (76, .goto 120), (79, .aload_n 0), (80, .getfield 15), (83, .aload_n 0), (84, .getfield 30), (87, .iaload), (88, .bipush 97), (90, .if_icmp .lt 24), (93, .aload_n 0), (94, .getfield 15), (97, .aload_n 0), (98, .getfield 30), (101, .iaload), (102, .bipush 122), (104, .if_icmp .gt 10), (107, .aload_n 0), (108, .invokevirtual 42), (111, .goto 85), (114, .aload_n 0), (115, .getfield 15), (118, .aload_n 0), (119, .getfield 30), (122, .iaload), (123, .bipush 48), (125, .if_icmp .lt 24), (128, .aload_n 0), (129, .getfield 15), (132, .aload_n 0), (133, .getfield 30), (136, .iaload), (137, .bipush 57), (139, .if_icmp .gt 10), (142, .aload_n 0), (143, .invokevirtual 45), (146, .goto 50), (149, .aload_n 0), (150, .aload_n 0), (151, .getfield 15), (154, .aload_n 0), (155, .getfield 30), (158, .iaload), (159, .invokestatic 48), (162, .putfield 36), (165, .aload_n 0), (166, .aload_n 0), (167, .getfield 36), (170, .iconst (-1)), (171, .if_icmp .ne 7), (174, .iconst 5), (175, .goto 4), (178, .iconst 4), (179, .putfield 33), (182, .aload_n 0), (183, .dup), (184, .getfield 30), (187, .iconst 1), (188, .iadd), (189, .putfield 30), (192, .aload_n 0), (193, .invokevirtual 52), (196, .return_)])
def zt_m19 : xv_N := ((11, zt_K11), (0, 1, 0, 0), (0, 0), [(0, .aload_n 0), (1, .getfield 29), (4, .aload_n 0), (5, .getfield 22), (8, .getfield 94), (11, .invokevirtual 95), (14, .aload_n 0), (15, .getfield 38), (18, .aload_n 0), (19, .getfield 22), (22, .getfield 98), (25, .invokevirtual 101), (28, .aload_n 0), (29, .getfield 29), (32, .aload_n 0), (33, .getfield 38), (36, .invokevirtual 104), (39, .aload_n 0), (40, .getfield 42), (43, .aload_n 0), (44, .getfield 38), (47, .invokevirtual 101), (50, .aload_n 0), (51, .iconst 0), (52, .putfield 107), (55, .aload_n 0), (56, .getfield 51), (59, .invokevirtual 111), (62, .aload_n 0), (63, .getfield 58), (66, .invokevirtual 114), (69, .return_)])
def zt_m20 : xv_N := ((5, zt_K5), (1, 2, 0, 0), (0, 0), [(0, .aload_n 0), (1, .aload_n 1), (2, .getfield 37), (5, .putfield 37), (8, .aload_n 0), (9, .aload_n 1), (10, .getfield 41), (13, .putfield 41), (16, .aload_n 0), (17, .aload_n 1), (18, .getfield 44), (21, .putfield 44), (24, .aload_n 0), (25, .getfield 24), (28, .aload_n 1), (29, .getfield 24), (32, .invokevirtual 63), (35, .aload_n 1), (36, .getfield 18), (39, .iconst 0), (40, .aload_n 0), (41, .getfield 18), (44, .iconst 0), (45, .bipush 48), (47, .invokestatic 67), (50, .aload_n 0), (51, .aload_n 1), (52, .getfield 54), (55, .aload_n 1), (56, .getfield 57), (59, .invokevirtual 50), (62, .return_)])
def zt_m21 : xv_N := ((3, zt_K3), (1, 2, 0, 0), (0, 0), [(0, .aload_n 1), (1, .getfield 9), (4, .iconst 0), (5, .aload_n 0), (6, .getfield 9), (9, .iconst 0), (10, .bipush 64), (12, .invokestatic 35), (15, .aload_n 1), (16, .getfield 15), (19, .iconst 0), (20, .aload_n 0), (21, .getfield 15), (24, .iconst 0), (25, .bipush 64), (27, .invokestatic 35), (30, .aload_n 1), (31, .getfield 18), (34, .iconst 0), (35, .aload_n 0), (36, .getfield 18), (39, .iconst 0), (40, .iconst 4), (41, .invokestatic 35), (44, .aload_n 1), (45, .getfield 21), (48, .iconst 0), (49, .aload_n 0), (50, .getfield 21), (53, .iconst 0), (54, .iconst 4), (55, .invokestatic 35), (58, .aload_n 0), (59, .aload_n 1), (60, .getfield 28), (63, .putfield 28), (66, .aload_n 0), (67, .aload_n 1), (68, .getfield 32), (71, .putfield 32), (74, .return_)])
def zt_m22 : xv_N := ((4, zt_K4), (1, 3, 0, 0), (0, 0), [(0, .aload_n 0), (1, .aload_n 1), (2, .getfield 40), (5, .putfield 40), (8, .iconst 0), (9, .istore_n 2), (10, .iload_n 2), (11, .aload_n 0), (12, .getfield 40), (15, .if_icmp .ge 24), (18, .aload_n 0), (19, .getfield 11), (22, .iload_n 2), (23, .aaload), (24, .aload_n 1), (25, .getfield 11), (28, .iload_n 2), (29, .aaload), (30, .invokevirtual 60), (33, .iinc 2 1), (36, .goto (-26)), (39, .aload_n 0), (40, .aload_n 1), (41, .getfield 44), (44, .putfield 44), (47, .iconst 0), (48, .istore_n 2), (49, .iload_n 2), (50, .aload_n 0), (51, .getfield 44), (54, .if_icmp .ge 24), (57, .aload_n 0), (58, .getfield 19), (61, .iload_n 2), (62, .aaload), (63, .aload_n 1), (64, .getfield 19), (67, .iload_n 2), (68, .aaload), (69, .invokevirtual 64), (72, .iinc 2 1), (75, .goto (-26)), (78, .iconst 0), (79, .istore_n 2), (80, .iload_n 2), (81, .bipush 48), (83, .if_icmp .ge 33), (86, .aload_n 0), (87, .getfield 23), (90, .iload_n 2), (91, .aload_n 1), (92, .getfield 23), (95, .iload_n 2), (96, .baload), (97, .bastore), (98, .aload_n 0), (99, .getfield 27), (102, .iload_n 2), (103, .aload_n 1), (104, .getfield 27), (107, .iload_n 2), (108, .iaload), (109, .iastore), (110, .iinc 2 1), (113, .goto (-33)), (116, .aload_n 0), (117, .aload_n 1), (118, .getfield 47), (121, .putfield 47), (124, .aload_n 0), (125, .aload_n 1), (126, .getfield 50), (129, .putfield 50), (132, .aload_n 0), (133, .aload_n 1), (134, .getfield 53), (137, .putfield 53), (140, .aload_n 0), (141, .aload_n 1), (142, .getfield 57), (145, .putfield 57), (148, .return_)])
def zt_m23 : xv_N := ((5, zt_K5), (1, 5, 0, 0), (0, 0), [(0, .iconst 0), (1, .istore_n 2), (2, .iload_n 2), (3, .aload_n 0), (4, .getfield 60), (7, .if_icmp .ge 63), (10, .aload_n 0), (11, .iload_n 2), (12, .invokevirtual 103), (15, .lstore_n 3), (16, .aload_n 0), (17, .getfield 28), (20, .iload_n 2), (21, .lload_n 3), (22, .ldc2_w 83), (25, .lcmp), (26, .ifCond .ne 14), (29, .iconst 1), (30, .aload_n 0), (31, .getfield 18), (34, .iload_n 2), (35, .iaload), (36, .iadd), (37, .goto 10), (40, .lload_n 3), (41, .sipush 999), (44, .invokestatic 85), (47, .iastore), (48, .aload_n 1), (49, .getfield 107), (52, .iload_n 2), (53, .aload_n 0), (54, .getfield 28), (57, .iload_n 2), (58, .iaload), (59, .sipush 1000), (62, .imul), (63, .iastore), (64, .iinc 2 1), (67, .goto (-65)), (70, .iconst 0), (71, .istore_n 2), (72, .iload_n 2), (73, .aload_n 1), (74, .getfield 112), (77, .if_icmp .ge 65), (80, .iconst 0), (81, .istore_n 3), (82, .iload_n 3), (83, .aload_n 0), (84, .getfield 60), (87, .if_icmp .ge 49), (90, .aload_n 0), (91, .iload_n 3), (92, .iconst 0), (93, .iconst 5), (94, .invokevirtual 93), (97, .aload_n 0), (98, .iload_n 2), (99, .aload_n 1), (100, .getfield 115), (103, .iload_n 2), (104, .aaload), (105, .getfield 119), (108, .iconst 0), (109, .invokevirtual 124), (112, .aload_n 0), (113, .getfield 31), (116, .iload_n 2), (117, .bipush 48), (119, .imul), (120, .iload_n 3), (121, .iadd), (122, .bipush 100), (124, .aload_n 0), (125, .invokevirtual 127), (128, .isub), (129, .iastore), (130, .iinc 3 1), (133, .goto (-51)), (136, .iinc 2 1), (139, .goto (-67)), (142, .return_)])
def zt_m24 : xv_N := ((5, zt_K5), (1, 2, 2, 0), (0, 0), [(0, .aload_n 0), (1, .iload_n 1), (2, .iconst 0), (3, .iconst 0), (4, .invokevirtual 93), (7, .aload_n 0), (8, .getfield 24), (11, .iconst 1), (12, .aload_n 0), (13, .getfield 34), (16, .invokevirtual 79), (19, .lreturn)])
def zt_m25 : xv_N := ((5, zt_K5), (3, 4, 0, 0), (0, 0), [(0, .aload_n 0), (1, .getfield 34), (4, .iconst 0), (5, .iconst 0), (6, .iastore), (7, .aload_n 0), (8, .getfield 34), (11, .iconst 1), (12, .iload_n 3), (13, .iastore), (14, .aload_n 0), (15, .getfield 34), (18, .iconst 2), (19, .aload_n 0), (20, .getfield 18), (23, .iload_n 1), (24, .iaload), (25, .iastore), (26, .aload_n 0), (27, .getfield 34), (30, .iconst 3), (31, .iload_n 2), (32, .iastore), (33, .aload_n 0), (34, .getfield 34), (37, .iconst 4), (38, .iconst 0), (39, .iastore), (40, .aload_n 0), (41, .getfield 34), (44, .iconst 5), (45, .aload_n 0), (46, .getfield 15), (49, .iload_n 1), (50, .iaload), (51, .iastore), (52, .aload_n 0), (53, .getfield 34), (56, .bipush 6), (58, .iconst 0), (59, .iastore), (60, .return_)])
def zt_m26 : xv_N := ((3, zt_K3), (2, 7, 2, 0), (0, 0), [(0, .aload_n 0), (1, .getfield 18), (4, .iload_n 1), (5, .iaload), (6, .ifCond .ge 7), (9, .ldc2_w 41), (12, .lreturn), (13, .iconst 0), (14, .istore_n 3), (15, .aload_n 0), (16, .getfield 18), (19, .iload_n 1), (20, .iaload), (21, .istore 4), (23, .iload 4), (25, .aload_n 0), (26, .getfield 21), (29, .iload_n 1), (30, .iaload), (31, .if_icmp .ge 249), (34, .iload 4), (36, .bipush 64), (38, .if_icmp .ge 242), (41, .aload_n 0), (42, .getfield 9), (45, .iload 4), (47, .iaload), (48, .bipush 16), (50, .if_icmp .ne 23), (53, .aload_n 0), (54, .getfield 24), (57, .iload_n 3), (58, .aload_n 0), (59, .getfield 15), (62, .iload 4), (64, .iaload), (65, .i2l), (66, .lastore), (67, .iinc 3 1), (70, .goto 204), (73, .aload_n 0), (74, .getfield 9), (77, .iload 4), (79, .iaload), (80, .bipush 17), (82, .if_icmp .ne 25), (85, .aload_n 0), (86, .getfield 24), (89, .iload_n 3), (90, .aload_n 2), (91, .aload_n 0), (92, .getfield 15), (95, .iload 4), (97, .iaload), (98, .iaload), (99, .i2l), (100, .lastore), (101, .iinc 3 1), (104, .goto 170), (107, .aload_n 0), (108, .getfield 9), (111, .iload 4), (113, .iaload), (114, .bipush 15), (116, .if_icmp .ne 41), (119, .iload_n 3), (120, .iconst 1), (121, .if_icmp .ge 7), (124, .ldc2_w 41), (127, .lreturn), (128, .aload_n 0), (129, .getfield 24), (132, .iload_n 3), (133, .iconst 1), (134, .isub), (135, .aload_n 0), (136, .getfield 24), (139, .iload_n 3), (140, .iconst 1), (141, .isub), (142, .laload), (143, .lconst 0), (144, .lcmp), (145, .ifCond .ne 7), (148, .lconst 1), (149, .goto 4), (152, .lconst 0), (153, .lastore), (154, .goto 120), (157, .iload_n 3), (158, .iconst 2), (159, .if_icmp .ge 7), (162, .ldc2_w 41), (165, .lreturn), (166, .iinc 3 (-1)), (169, .aload_n 0), (170, .getfield 9), (173, .iload 4), (175, .iaload), (176, .bipush 6), (178, .if_icmp .gt 30), (181, .aload_n 0), (182, .getfield 9), (185, .iload 4), (187, .iaload), (188, .aload_n 0), (189, .getfield 24), (192, .iload_n 3), (193, .iconst 1), (194, .isub), (195, .laload), (196, .aload_n 0), (197, .getfield 24), (200, .iload_n 3), (201, .laload), (202, .invokestatic 43), (205, .goto 35), (208, .aload_n 0), (209, .getfield 9), (212, .iload 4), (214, .iaload), (215, .aload_n 0), (216, .getfield 24), (219, .iload_n 3), (220, .iconst 1), (221, .isub), (222, .laload), (223, .aload_n 0), (224, .getfield 24), (227, .iload_n 3), (228, .laload), (229, .invokestatic 47), (232, .ifCond .eq 7), (235, .lconst 1), (236, .goto 4), (239, .lconst 0), (240, .lstore 5), (242, .lload 5), (244, .ldc2_w 51), (247, .lcmp), (248, .ifCond .gt 12), (251, .lload 5), (253, .ldc2_w 53), (256, .lcmp), (257, .ifCond .ge 7), (260, .ldc2_w 41), (263, .lreturn), (264, .aload_n 0), (265, .getfield 24), (268, .iload_n 3), (269, .iconst 1), (270, .isub), (271, .lload 5), (273, .lastore), (274, .iinc 4 1), (277, .goto (-254)), (280, .iload_n 3), (281, .iconst 1), (282, .if_icmp .ne 12), (285, .aload_n 0), (286, .getfield 24), (289, .iconst 0), (290, .laload), (291, .goto 6), (294, .ldc2_w 41), (297, .lreturn)])
def zt_m27 : xv_N := ((7, zt_K7), (0, 1, 0, 0), (0, 0), [(0, .aload_n 0), (1, .iconst 0), (2, .putfield 35), (5, .aload_n 0), (6, .iconst (-1)), (7, .putfield 31), (10, .return_)])
def zt_m28 : xv_N := ((10, zt_K10), (0, 1, 0, 0), (0, 0), [(0, .aload_n 0), (1, .iconst 0), (2, .putfield 24), (5, .return_)])
def zt_m29 : xv_N := ((12, zt_K12), (0, 1, 0, 1), (42, 2652), [(0, .aload_n 0), (1, .invokespecial 1), (4, .aload_n 0), (5, .sipush 700), (8, .newarray .int), (10, .putfield 7), (13, .aload_n 0), (14, .sipush 157), (17, .newarray .int), (19, .dup), (20, .iconst 0), (21, .bipush 103), (23, .iastore), (24, .dup), (25, .iconst 1), (26, .bipush 97), (28, .iastore), (29, .dup), (30, .iconst 2), (31, .bipush 114), (33, .iastore), (34, .dup), (35, .iconst 3), (36, .bipush 100), (38, .iastore), (39, .dup), (40, .iconst 4), (41, .bipush 101), (43, .iastore), (44, .dup), (45, .iconst 5), (46, .bipush 110), (48, .iastore), (49, .dup), (50, .bipush 6), (52, .bipush 32), (54, .iastore), (55, .dup), (56, .bipush 7), (58, .bipush 98), (60, .iastore), (61, .dup), (62, .bipush 8), (64, .bipush 117), (66, .iastore), (67, .dup), (68, .bipush 9), (70, .bipush 115), (72, .iastore), (73, .dup), (74, .bipush 10), (76, .bipush 104), (78, .iastore), (79, .dup), (80, .bipush 11), (82, .bipush 32), (84, .iastore), (85, .dup), (86, .bipush 12), (88, .bipush 112), (90, .iastore), (91, .dup), (92, .bipush 13), (94, .bipush 111), (96, .iastore), (97, .dup), (98, .bipush 14), (100, .bipush 116), (102, .iastore), (103, .dup), (104, .bipush 15), (106, .bipush 32), (108, .iastore), (109, .dup), (110, .bipush 16), (112, .bipush 116), (114, .iastore), (115, .dup), (116, .bipush 17), (118, .bipush 114), (120, .iastore), (121, .dup), (122, .bipush 18), (124, .bipush 101), (126, .iastore), (127, .dup), (128, .bipush 19), (130, .bipush 101), (132, .iastore), (133, .dup), (134, .bipush 20), (136, .bipush 32), (138, .iastore), (139, .dup), (140, .bipush 21), (142, .bipush 101), (144, .iastore), (145, .dup), (146, .bipush 22), (148, .bipush 103), (150, .iastore), (151, .dup), (152, .bipush 23), (154, .bipush 103), (156, .iastore), (157, .dup), (158, .bipush 24), (160, .bipush 32), (162, .iastore), (163, .dup), (164, .bipush 25), (166, .bipush 99), (168, .iastore), (169, .dup), (170, .bipush 26), (172, .bipush 104), (174, .iastore), (175, .dup), (176, .bipush 27), (178, .bipush 105), (180, .iastore), (181, .dup), (182, .bipush 28), (184, .bipush 108), (186, .iastore), (187, .dup), (188, .bipush 29), (190, .bipush 100), (192, .iastore), (193, .dup), (194, .bipush 30), (196, .bipush 32), (198, .iastore), (199, .dup), (200, .bipush 31), (202, .bipush 114), (204, .iastore), (205, .dup), (206, .bipush 32), (208, .bipush 117), (210, .iastore), (211, .dup), (212, .bipush 33), (214, .bipush 108), (216, .iastore), (217, .dup), (218, .bipush 34), (220, .bipush 101), (222, .iastore), (223, .dup), (224, .bipush 35), (226, .bipush 32), (228, .iastore), (229, .dup), (230, .bipush 36), (232, .bipush 108), (234, .iastore), (235, .dup), (236, .bipush 37), (238, .bipush 105), (240, .iastore), (241, .dup), (242, .bipush 38), (244, .bipush 110), (246, .iastore), (247, .dup), (248, .bipush 39), (250, .bipush 101), (252, .iastore), (253, .dup), (254, .bipush 40), (256, .bipush 32), (258, .iastore), (259, .dup), (260, .bipush 41), (262, .bipush 100), (264, .iastore), (265, .dup), (266, .bipush 42), (268, .bipush 111), (270, .iastore), (271, .dup), (272, .bipush 43), (274, .bipush 103), (276, .iastore), (277, .dup), (278, .bipush 44), (280, .bipush 32), (282, .iastore), (283, .dup), (284, .bipush 45), (286, .bipush 115), (288, .iastore), (289, .dup), (290, .bipush 46), (292, .bipush 117), (294, .iastore), (295, .dup), (296, .bipush 47), (298, .bipush 110), (300, .iastore), (301, .dup), (302, .bipush 48), (304, .bipush 32), (306, .iastore), (307, .dup), (308, .bipush 49), (310, .bipush 115), (312, .iastore), (313, .dup), (314, .bipush 50), (316, .bipush 101), (318, .iastore), (319, .dup), (320, .bipush 51), (322, .bipush 101), (324, .iastore), (325, .dup), (326, .bipush 52), (328, .bipush 100), (330, .iastore), (331, .dup), (332, .bipush 53), (334, .bipush 32), (336, .iastore), (337, .dup), (338, .bipush 54), (340, .bipush 108), (342, .iastore), (343, .dup), (344, .bipush 55), (346, .bipush 97), (348, .iastore), (349, .dup), (350, .bipush 56), (352, .bipush 119), (354, .iastore), (355, .dup), (356, .bipush 57), (358, .bipush 32), (360, .iastore), (361, .dup), (362, .bipush 58), (364, .bipush 114), (366, .iastore), (367, .dup), (368, .bipush 59), (370, .bipush 101), (372, .iastore), (373, .dup), (374, .bipush 60), (376, .bipush 100), (378, .iastore), (379, .dup), (380, .bipush 61), (382, .bipush 32), (384, .iastore), (385, .dup), (386, .bipush 62), (388, .bipush 98), (390, .iastore), (391, .dup), (392, .bipush 63), (394, .bipush 108), (396, .iastore), (397, .dup), (398, .bipush 64), (400, .bipush 117), (402, .iastore), (403, .dup), (404, .bipush 65), (406, .bipush 101), (408, .iastore), (409, .dup), (410, .bipush 66), (412, .bipush 32), (414, .iastore), (415, .dup), (416, .bipush 67), (418, .bipush 103), (420, .iastore), (421, .dup), (422, .bipush 68), (424, .bipush 114), (426, .iastore), (427, .dup), (428, .bipush 69), (430, .bipush 101), (432, .iastore), (433, .dup), (434, .bipush 70), (436, .bipush 101), (438, .iastore), (439, .dup), (440, .bipush 71), (442, .bipush 110), (444, .iastore), (445, .dup), (446, .bipush 72), (448, .bipush 32), (450, .iastore), (451, .dup), (452, .bipush 73), (454, .bipush 103), (456, .iastore), (457, .dup), (458, .bipush 74), (460, .bipush 111), (462, .iastore), (463, .dup), (464, .bipush 75), (466, .bipush 108), (468, .iastore), (469, .dup), (470, .bipush 76), (472, .bipush 100), (474, .iastore), (475, .dup), (476, .bipush 77), (478, .bipush 32), (480, .iastore), (481, .dup), (482, .bipush 78), (484, .bipush 102), (486, .iastore), (487, .dup), (488, .bipush 79), (490, .bipush 114), (492, .iastore), (493, .dup), (494, .bipush 80), (496, .bipush 101), (498, .iastore), (499, .dup), (500, .bipush 81), (502, .bipush 101), (504, .iastore), (505, .dup), (506, .bipush 82), (508, .bipush 32), (510, .iastore), (511, .dup), (512, .bipush 83), (514, .bipush 111), (516, .iastore), (517, .dup), (518, .bipush 84), (520, .bipush 119), (522, .iastore), (523, .dup), (524, .bipush 85), (526, .bipush 110), (528, .iastore), (529, .dup), (530, .bipush 86), (532, .bipush 32), (534, .iastore), (535, .dup), (536, .bipush 87), (538, .bipush 98), (540, .iastore), (541, .dup), (542, .bipush 88), (544, .bipush 101), (546, .iastore), (547, .dup), (548, .bipush 89), (550, .bipush 104), (552, .iastore), (553, .dup), (554, .bipush 90), (556, .bipush 105), (558, .iastore), (559, .dup), (560, .bipush 91), (562, .bipush 110), (564, .iastore), (565, .dup), (566, .bipush 92), (568, .bipush 100), (570, .iastore), (571, .dup), (572, .bipush 93), (574, .bipush 32), (576, .iastore), (577, .dup), (578, .bipush 94), (580, .bipush 115), (582, .iastore), (583, .dup), (584, .bipush 95), (586, .bipush 101), (588, .iastore), (589, .dup), (590, .bipush 96), (592, .bipush 101), (594, .iastore), (595, .dup), (596, .bipush 97), (598, .bipush 32), (600, .iastore), (601, .dup), (602, .bipush 98), (604, .bipush 104), (606, .iastore), (607, .dup), (608, .bipush 99), (610, .bipush 105), (612, .iastore), (613, .dup), (614, .bipush 100), (616, .bipush 100), (618, .iastore), (619, .dup), (620, .bipush 101), (622, .bipush 101), (624, .iastore), (625, .dup), (626, .bipush 102), (628, .bipush 32), (630, .iastore), (631, .dup), (632, .bipush 103), (634, .bipush 106), (636, .iastore), (637, .dup), (638, .bipush 104), (640, .bipush 111), (642, .iastore), (643, .dup), (644, .bipush 105), (646, .bipush 121), (648, .iastore), (649, .dup), (650, .bipush 106), (652, .bipush 32), (654, .iastore), (655, .dup), (656, .bipush 107), (658, .bipush 107), (660, .iastore), (661, .dup), (662, .bipush 108), (664, .bipush 101), (666, .iastore), (667, .dup), (668, .bipush 109), (670, .bipush 101), (672, .iastore), (673, .dup), (674, .bipush 110), (676, .bipush 112), (678, .iastore), (679, .dup), (680, .bipush 111), (682, .bipush 32), (684, .iastore), (685, .dup), (686, .bipush 112), (688, .bipush 97), (690, .iastore), (691, .dup), (692, .bipush 113), (694, .bipush 110), (696, .iastore), (697, .dup), (698, .bipush 114), (700, .bipush 100), (702, .iastore), (703, .dup), (704, .bipush 115), (706, .bipush 32), (708, .iastore), (709, .dup), (710, .bipush 116), (712, .bipush 111), (714, .iastore), (715, .dup), (716, .bipush 117), (718, .bipush 114), (720, .iastore), (721, .dup), (722, .bipush 118), (724, .bipush 32), (726, .iastore), (727, .dup), (728, .bipush 119), (730, .bipush 110), (732, .iastore), (733, .dup), (734, .bipush 120), (736, .bipush 111), (738, .iastore), (739, .dup), (740, .bipush 121), (742, .bipush 116), (744, .iastore), (745, .dup), (746, .bipush 122), (748, .bipush 32), (750, .iastore), (751, .dup), (752, .bipush 123), (754, .bipush 97), (756, .iastore), (757, .dup), (758, .bipush 124), (760, .bipush 103), (762, .iastore), (763, .dup), (764, .bipush 125), (766, .bipush 101), (768, .iastore), (769, .dup), (770, .bipush 126), (772, .bipush 32), (774, .iastore), (775, .dup), (776, .bipush 127), (778, .bipush 104), (780, .iastore), (781, .dup), (782, .sipush 128), (785, .bipush 97), (787, .iastore), (788, .dup), (789, .sipush 129), (792, .bipush 114), (794, .iastore), (795, .dup), (796, .sipush 130), (799, .bipush 100), (801, .iastore), (802, .dup), (803, .sipush 131), (806, .bipush 32), (808, .iastore), (809, .dup), (810, .sipush 132), (813, .bipush 107), (815, .iastore), (816, .dup), (817, .sipush 133), (820, .bipush 105), (822, .iastore), (823, .dup), (824, .sipush 134), (827, .bipush 110), (829, .iastore), (830, .dup), (831, .sipush 135), (834, .bipush 100), (836, .iastore), (837, .dup), (838, .sipush 136), (841, .bipush 32), (843, .iastore), (844, .dup), (845, .sipush 137), (848, .bipush 99), (850, .iastore), (851, .dup), (852, .sipush 138), (855, .bipush 111), (857, .iastore), (858, .dup), (859, .sipush 139), (862, .bipush 108), (864, .iastore), (865, .dup), (866, .sipush 140), (869, .bipush 111), (871, .iastore), (872, .dup), (873, .sipush 141), (876, .bipush 114), (878, .iastore), (879, .dup), (880, .sipush 142), (883, .bipush 32), (885, .iastore), (886, .dup), (887, .sipush 143), (890, .bipush 109), (892, .iastore), (893, .dup), (894, .sipush 144), (897, .bipush 105), (899, .iastore), (900, .dup), (901, .sipush 145), (904, .bipush 110), (906, .iastore), (907, .dup), (908, .sipush 146), (911, .bipush 101), (913, .iastore), (914, .dup), (915, .sipush 147), (918, .bipush 32), (920, .iastore), (921, .dup), (922, .sipush 148), (925, .bipush 114), (927, .iastore), (928, .dup), (929, .sipush 149), (932, .bipush 111), (934, .iastore), (935, .dup), (936, .sipush 150), (939, .bipush 119), (941, .iastore), (942, .dup), (943, .sipush 151), (946, .bipush 32), (948, .iastore), (949, .dup), (950, .sipush 152), (953, .bipush 109), (955, .iastore), (956, .dup), (957, .sipush 153), (960, .bipush 97), (962, .iastore), (963, .dup), (964, .sipush 154), (967, .bipush 110), (969, .iastore), (970, .dup), (971, .sipush 155), (974, .bipush 121), (976, .iastore), (977, .dup), (978, .sipush 156), (981, .bipush 32), (983, .iastore), (984, .putfield 13), (987, .aload_n 0), (988, .iconst (-1)), (989, .putfield 16), (992, .aload_n 0), (993, .bipush 6), (995, .newarray .boolean), (997, .putfield 20), (1000, .aload_n 0), (1001, .bipush 10), (1003, .newarray .int), (1005, .putfield 24), (1008, .aload_n 0), (1009, .bipush 96), (1011, .newarray .int), (1013, .putfield 27), (1016, .aload_n 0), (1017, .bipush 48), (1019, .newarray .boolean), (1021, .putfield 30), (1024, .aload_n 0), (1025, .bipush 36), (1027, .newarray .int), (1029, .putfield 33), (1032, .aload_n 0), (1033, .bipush 36), (1035, .newarray .int), (1037, .putfield 36), (1040, .aload_n 0), (1041, .bipush 36), (1043, .newarray .int), (1045, .putfield 39), (1048, .aload_n 0), (1049, .bipush 8), (1051, .newarray .int), (1053, .putfield 42), (1056, .aload_n 0), (1057, .bipush 8), (1059, .newarray .int), (1061, .putfield 45), (1064, .aload_n 0), (1065, .bipush 8), (1067, .newarray .int), (1069, .putfield 48), (1072, .aload_n 0), (1073, .bipush 8), (1075, .newarray .int), (1077, .putfield 51), (1080, .aload_n 0), (1081, .bipush 8), (1083, .newarray .int), (1085, .putfield 54), (1088, .aload_n 0), (1089, .bipush 8), (1091, .newarray .boolean), (1093, .putfield 57), (1096, .aload_n 0), (1097, .bipush 8), (1099, .newarray .int), (1101, .putfield 60), (1104, .aload_n 0), (1105, .bipush 8), (1107, .newarray .int), (1109, .putfield 63), (1112, .aload_n 0), (1113, .sipush 128), (1116, .newarray .int), (1118, .putfield 66), (1121, .aload_n 0), (1122, .sipush 128), (1125, .newarray .int), (1127, .putfield 69), (1130, .aload_n 0), (1131, .sipush 128), (1134, .newarray .int), (1136, .putfield 72), (1139, .aload_n 0), (1140, .bipush 96), (1142, .newarray .int), (1144, .putfield 75), (1147, .aload_n 0), (1148, .bipush 96), (1150, .newarray .int), (1152, .putfield 78), (1155, .aload_n 0), (1156, .bipush 7), (1158, .newarray .long), (1160, .putfield 81), (1163, .aload_n 0), (1164, .bipush 64), (1166, .newarray .long), (1168, .putfield 85), (1171, .aload_n 0), (1172, .bipush 36), (1174, .newarray .int), (1176, .putfield 88), (1179, .aload_n 0), (1180, .iconst 2), (1181, .newarray .int), (1183, .putfield 91), (1186, .aload_n 0), (1187, .bipush 8), (1189, .newarray .int), (1191, .putfield 94), (1194, .aload_n 0), (1195, .bipush 8), (1197, .newarray .int), (1199, .putfield 97), (1202, .aload_n 0), (1203, .iconst 4), (1204, .newarray .int), (1206, .putfield 100), (1209, .aload_n 0), (1210, .iconst 2), (1211, .newarray .long), (1213, .putfield 103), (1216, .aload_n 0), (1217, .iconst 2), (1218, .newarray .int), (1220, .putfield 106), (1223, .aload_n 0), (1224, .bipush 48), (1226, .newarray .int), (1228, .putfield 109), (1231, .aload_n 0), (1232, .iconst (-1)), (1233, .putfield 112), (1236, .aload_n 0), (1237, .bipush 48), (1239, .newarray .int), (1241, .putfield 115), (1244, .aload_n 0), (1245, .iconst 4), (1246, .newarray .int), (1248, .putfield 118), (1251, .aload_n 0), (1252, .iconst 4), (1253, .newarray .int), (1255, .putfield 121), (1258, .aload_n 0), (1259, .iconst (-1)), (1260, .putfield 124), (1263, .aload_n 0), (1264, .bipush 96), (1266, .newarray .int), (1268, .putfield 127), (1271, .aload_n 0), (1272, .bipush 24), (1274, .newarray .boolean), (1276, .putfield 130), (1279, .aload_n 0), (1280, .sipush 440), (1283, .newarray .int), (1285, .putfield 133), (1288, .aload_n 0), (1289, .bipush 22), (1291, .newarray .int), (1293, .putfield 136), (1296, .aload_n 0), (1297, .bipush 16), (1299, .newarray .int), (1301, .putfield 139), (1304, .aload_n 0), (1305, .iconst 4), (1306, .newarray .int), (1308, .putfield 142), (1311, .aload_n 0), (1312, .bipush 48), (1314, .newarray .int), (1316, .putfield 145), (1319, .aload_n 0), (1320, .invokevirtual 148), (1323, .aload_n 0), (1324, .invokevirtual 151), (1327, .return_)])
def zt_m30 : xv_N := ((12, zt_K12), (0, 2, 0, 0), (0, 0), [(0, .aload_n 0), (1, .bipush 6), (3, .putfield 216), (6, .aload_n 0), (7, .iconst 5), (8, .putfield 219), (11, .aload_n 0), (12, .iconst 0), (13, .putfield 222), (16, .aload_n 0), (17, .iconst 0), (18, .putfield 225), (21, .aload_n 0), (22, .iconst 0), (23, .putfield 228), (26, .aload_n 0), (27, .iconst 0), (28, .putfield 231), (31, .aload_n 0), (32, .iconst 0), (33, .putfield 234), (36, .aload_n 0), (37, .iconst 0), (38, .putfield 237), (41, .iconst 0), (42, .istore_n 1), (43, .iload_n 1), (44, .bipush 6), (46, .if_icmp .ge 16), (49, .aload_n 0), (50, .getfield 20), (53, .iload_n 1), (54, .iconst 0), (55, .bastore), (56, .iinc 1 1), (59, .goto (-16)), (62, .iconst 5), (63, .istore_n 1), (64, .iload_n 1), (65, .bipush 10), (67, .if_icmp .ge 26), (70, .aload_n 0), (71, .getfield 24), (74, .iload_n 1), (75, .iload_n 1), (76, .bipush 8), (78, .if_icmp .ne 7), (81, .iconst (-1)), (82, .goto 4), (85, .iconst 0), (86, .iastore), (87, .iinc 1 1), (90, .goto (-26)), (93, .iconst 0), (94, .istore_n 1), (95, .iload_n 1), (96, .bipush 48), (98, .if_icmp .ge 26), (101, .aload_n 0), (102, .getfield 27), (105, .bipush 48), (107, .iload_n 1), (108, .iadd), (109, .iconst 0), (110, .iastore), (111, .aload_n 0), (112, .getfield 30), (115, .iload_n 1), (116, .iconst 0), (117, .bastore), (118, .iinc 1 1), (121, .goto (-26)), (124, .iconst 4), (125, .istore_n 1), (126, .iload_n 1), (127, .bipush 8), (129, .if_icmp .ge 16), (132, .aload_n 0), (133, .getfield 57), (136, .iload_n 1), (137, .iconst 0), (138, .bastore), (139, .iinc 1 1), (142, .goto (-16)), (145, .return_)])
def zt_m31 : xv_N := ((12, zt_K12), (0, 2, 0, 0), (0, 0), [(0, .aload_n 0), (1, .aload_n 0), (2, .getfield 216), (5, .putfield 241), (8, .aload_n 0), (9, .aload_n 0), (10, .getfield 219), (13, .putfield 244), (16, .aload_n 0), (17, .aload_n 0), (18, .getfield 222), (21, .putfield 247), (24, .aload_n 0), (25, .aload_n 0), (26, .getfield 225), (29, .putfield 250), (32, .aload_n 0), (33, .aload_n 0), (34, .getfield 228), (37, .putfield 253), (40, .aload_n 0), (41, .getfield 24), (44, .iconst 5), (45, .invokestatic 256), (48, .aload_n 0), (49, .getfield 27), (52, .bipush 48), (54, .invokestatic 256), (57, .aload_n 0), (58, .getfield 33), (61, .bipush 18), (63, .invokestatic 256), (66, .aload_n 0), (67, .getfield 36), (70, .bipush 18), (72, .invokestatic 256), (75, .aload_n 0), (76, .getfield 39), (79, .bipush 18), (81, .invokestatic 256), (84, .aload_n 0), (85, .getfield 42), (88, .iconst 4), (89, .invokestatic 256), (92, .aload_n 0), (93, .getfield 45), (96, .iconst 4), (97, .invokestatic 256), (100, .aload_n 0), (101, .getfield 48), (104, .iconst 4), (105, .invokestatic 256), (108, .aload_n 0), (109, .getfield 51), (112, .iconst 4), (113, .invokestatic 256), (116, .aload_n 0), (117, .getfield 54), (120, .iconst 4), (121, .invokestatic 256), (124, .iconst 0), (125, .istore_n 1), (126, .iload_n 1), (127, .iconst 4), (128, .if_icmp .ge 23), (131, .aload_n 0), (132, .getfield 57), (135, .iload_n 1), (136, .aload_n 0), (137, .getfield 57), (140, .iconst 4), (141, .iload_n 1), (142, .iadd), (143, .baload), (144, .bastore), (145, .iinc 1 1), (148, .goto (-22)), (151, .aload_n 0), (152, .getfield 60), (155, .iconst 4), (156, .invokestatic 256), (159, .aload_n 0), (160, .getfield 63), (163, .iconst 4), (164, .invokestatic 256), (167, .aload_n 0), (168, .getfield 66), (171, .bipush 64), (173, .invokestatic 256), (176, .aload_n 0), (177, .getfield 69), (180, .bipush 64), (182, .invokestatic 256), (185, .aload_n 0), (186, .getfield 72), (189, .bipush 64), (191, .invokestatic 256), (194, .aload_n 0), (195, .invokevirtual 260), (198, .return_)])
def zt_m32 : xv_N := ((12, zt_K12), (2, 3, 0, 0), (0, 0), [(0, .iconst 0), (1, .istore_n 2), (2, .iload_n 2), (3, .iload_n 1), (4, .if_icmp .ge 17), (7, .aload_n 0), (8, .iload_n 2), (9, .aload_n 0), (10, .iload_n 1), (11, .iload_n 2), (12, .iadd), (13, .iaload), (14, .iastore), (15, .iinc 2 1), (18, .goto (-16)), (21, .return_)])
def zt_m33 : xv_N := ((12, zt_K12), (0, 2, 0, 0), (0, 0), [(0, .aload_n 0), (1, .iconst 0), (2, .invokevirtual 375), (5, .aload_n 0), (6, .aload_n 0), (7, .getfield 24), (10, .iconst 0), (11, .iaload), (12, .putfield 378), (15, .aload_n 0), (16, .aload_n 0), (17, .getfield 24), (20, .iconst 4), (21, .iaload), (22, .i2l), (23, .putfield 381), (26, .aload_n 0), (27, .invokevirtual 385), (30, .iconst 0), (31, .istore_n 1), (32, .iload_n 1), (33, .iconst 4), (34, .if_icmp .ge 16), (37, .aload_n 0), (38, .getfield 100), (41, .iload_n 1), (42, .iconst 0), (43, .iastore), (44, .iinc 1 1), (47, .goto (-15)), (50, .iconst 0), (51, .istore_n 1), (52, .iload_n 1), (53, .bipush 48), (55, .if_icmp .ge 36), (58, .aload_n 0), (59, .getfield 109), (62, .iload_n 1), (63, .iload_n 1), (64, .aload_n 0), (65, .invokevirtual 372), (68, .if_icmp .ge 15), (71, .sipush 1000), (74, .aload_n 0), (75, .iload_n 1), (76, .invokevirtual 388), (79, .imul), (80, .goto 4), (83, .iconst 0), (84, .iastore), (85, .iinc 1 1), (88, .goto (-36)), (91, .aload_n 0), (92, .iconst 0), (93, .putfield 391), (96, .aload_n 0), (97, .iconst (-1)), (98, .putfield 124), (101, .aload_n 0), (102, .iconst 0), (103, .putfield 394), (106, .aload_n 0), (107, .iconst 0), (108, .putfield 397), (111, .return_)])
def zt_m34 : xv_N := ((12, zt_K12), (1, 3, 0, 0), (0, 0), [(0, .iconst 0), (1, .istore_n 2), (2, .iload_n 2), (3, .bipush 18), (5, .if_icmp .ge 21), (8, .aload_n 0), (9, .getfield 88), (12, .bipush 18), (14, .iload_n 1), (15, .imul), (16, .iload_n 2), (17, .iadd), (18, .iconst (-1)), (19, .iastore), (20, .iinc 2 1), (23, .goto (-21)), (26, .aload_n 0), (27, .getfield 91), (30, .iload_n 1), (31, .aload_n 0), (32, .getfield 247), (35, .iastore), (36, .iconst 0), (37, .istore_n 2), (38, .iload_n 2), (39, .iconst 4), (40, .if_icmp .ge 41), (43, .aload_n 0), (44, .getfield 94), (47, .iconst 4), (48, .iload_n 1), (49, .imul), (50, .iload_n 2), (51, .iadd), (52, .aload_n 0), (53, .getfield 45), (56, .iload_n 2), (57, .iaload), (58, .iastore), (59, .aload_n 0), (60, .getfield 97), (63, .iconst 4), (64, .iload_n 1), (65, .imul), (66, .iload_n 2), (67, .iadd), (68, .aload_n 0), (69, .getfield 54), (72, .iload_n 2), (73, .iaload), (74, .iastore), (75, .iinc 2 1), (78, .goto (-40)), (81, .aload_n 0), (82, .getfield 103), (85, .iload_n 1), (86, .lconst 0), (87, .lastore), (88, .aload_n 0), (89, .getfield 106), (92, .iload_n 1), (93, .iconst 0), (94, .iastore), (95, .return_)])
def zt_m35 : xv_N := ((12, zt_K12), (0, 1, 0, 0), (0, 0), [(0, .aload_n 0), (1, .aload_n 0), (2, .getfield 378), (5, .putfield 400), (8, .aload_n 0), (9, .iconst 0), (10, .putfield 403), (13, .aload_n 0), (14, .iconst 0), (15, .putfield 406), (18, .aload_n 0), (19, .iconst 0), (20, .putfield 409), (23, .aload_n 0), (24, .iconst 0), (25, .putfield 412), (28, .aload_n 0), (29, .iconst (-1)), (30, .putfield 112), (33, .return_)])
def zt_m36 : xv_N := ((12, zt_K12), (0, 1, 1, 0), (0, 0), [(0, .aload_n 0), (1, .getfield 241), (4, .aload_n 0), (5, .getfield 244), (8, .imul), (9, .ireturn)])
def zt_m37 : xv_N := ((12, zt_K12), (1, 2, 1, 0), (0, 0), [(0, .aload_n 0), (1, .iconst 0), (2, .iconst 0), (3, .iload_n 1), (4, .iconst 0), (5, .iconst 0), (6, .iconst 0), (7, .invokevirtual 422), (10, .aload_n 0), (11, .iconst 1), (12, .iconst 1), (13, .aload_n 0), (14, .getfield 27), (17, .iload_n 1), (18, .iaload), (19, .iadd), (20, .sipush 999), (23, .invokevirtual 426), (26, .ireturn)])
def zt_m38 : xv_N := ((12, zt_K12), (6, 7, 0, 0), (0, 0), [(0, .aload_n 0), (1, .getfield 81), (4, .iconst 0), (5, .iload_n 1), (6, .i2l), (7, .lastore), (8, .aload_n 0), (9, .getfield 81), (12, .iconst 1), (13, .iload_n 2), (14, .i2l), (15, .lastore), (16, .aload_n 0), (17, .getfield 81), (20, .iconst 2), (21, .aload_n 0), (22, .getfield 27), (25, .iload_n 3), (26, .iaload), (27, .i2l), (28, .lastore), (29, .aload_n 0), (30, .getfield 81), (33, .iconst 3), (34, .iload 4), (36, .i2l), (37, .lastore), (38, .aload_n 0), (39, .getfield 81), (42, .iconst 4), (43, .iload 5), (45, .i2l), (46, .lastore), (47, .aload_n 0), (48, .getfield 81), (51, .iconst 5), (52, .iload_n 3), (53, .aload_n 0), (54, .getfield 241), (57, .idiv), (58, .i2l), (59, .lastore), (60, .aload_n 0), (61, .getfield 81), (64, .bipush 6), (66, .iload 6), (68, .i2l), (69, .lastore), (70, .return_)])
def zt_m39 : xv_N := ((12, zt_K12), (3, 6, 1, 0), (0, 0), [(0, .aload_n 0), (1, .getfield 57), (4, .iload_n 1), (5, .baload), (6, .ifCond .ne 5), (9, .iload_n 2), (10, .ireturn), (11, .aload_n 0), (12, .iload_n 1), (13, .invokevirtual 419), (16, .lstore 4), (18, .aload_n 0), (19, .getfield 353), (22, .ifCond .eq 5), (25, .iload_n 2), (26, .ireturn), (27, .lload 4), (29, .lconst 0), (30, .lcmp), (31, .ifCond .ge 7), (34, .iconst 0), (35, .goto 18), (38, .lload 4), (40, .iload_n 3), (41, .i2l), (42, .lcmp), (43, .ifCond .le 7), (46, .iload_n 3), (47, .goto 6), (50, .lload 4), (52, .l2i), (53, .ireturn)])
def zt_ms : List xv_N := [zt_m0, zt_m1, zt_m2, zt_m3, zt_m4, zt_m5, zt_m6, zt_m7, zt_m8, zt_m9, zt_m10, zt_m11, zt_m12, zt_m13, zt_m14, zt_m15, zt_m16, zt_m17, zt_m18, zt_m19, zt_m20, zt_m21, zt_m22, zt_m23, zt_m24, zt_m25, zt_m26, zt_m27, zt_m28, zt_m29, zt_m30, zt_m31, zt_m32, zt_m33, zt_m34, zt_m35, zt_m36, zt_m37, zt_m38, zt_m39]
end
section
def zt_M0 : xv_M xd_V := [(7, []), (3, []), (19, [.inr (.inr none), .inl (.inl 0), .inl (.inl 0), .inl (.inl 0), .inr (.inr none), .inr (.inr none), .inr (.inr none), .inr (.inr none), .inr (.inr none), .inl (.inl 0), .inr (.inr none), .inr (.inr none), .inr (.inr none)])]
noncomputable def zt_run (j : Nat) (as : List (xv_V xd_V)) : Nat → Bool := fun n => (xv_run xd_D zt_ct zt_at zt_sct zt_ms (fun _ _ _ _ => none) 20000 n j as zt_M0).isSome
set_option maxRecDepth 100000 in
theorem zt_2 : zt_run 0 [.inr (.inr (some 2))] 8 = true := by decide +kernel
end
section
theorem i_vc : Claimed_1_1 ∧ Claimed_1_2 := sorry
end
