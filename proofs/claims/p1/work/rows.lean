section
/-! THE PURE MACHINE: a memory of numbered cells, values of a domain V (.inl: an int, .inr (.inl ..): a long, .inr (.inr ..): null or a cell by its number). A cell: a tag (0 int[], 1 long[], 2 boolean[], 4 + n the n-th array of objects, 7 a constant text, 8 + n an object of the n-th class) and its contents. The first cells are the constant texts. -/
abbrev xv_V (V : Type) : Type := V ⊕ (V ⊕ Option Nat)
abbrev xv_O (V : Type) : Type := Nat × List (xv_V V)
abbrev xv_M (V : Type) : Type := List (xv_O V)
abbrev xv_L (V : Type) : Type := List (Option (xv_V V))
abbrev xv_R (V : Type) : Type := Option (xv_V V) × xv_M V
/-- what a domain can do: constants, operations by their numbers, comparisons by theirs, its exact number, is it 0 or 1 -/
abbrev xv_D (V : Type) : Type := (Int32 → V) × (Int64 → V) × (Nat → V → V → Option V) × (Nat → V → V → Option Bool) × (V → Option Int) × (V → Bool)
abbrev xv_I : Type := Nat × Instr
/-- the links of a class: fields (class, place), methods (kind, number), classes, ints, longs -/
abbrev xv_K : Type := List (Nat × Nat × Nat) × List (Nat × Nat × Nat) × List (Nat × Nat) × List (Nat × Int32) × List (Nat × Int64)
/-- a method: its class's number, its class's links, how many parameters, its locals, what it answers (0 nothing, 1 an int, 2 a long, 3 a boolean), 1 for a constructor, cells and places that it may make, its code -/
abbrev xv_N : Type := (Nat × xv_K) × (Nat × Nat × Nat × Nat) × (Nat × Nat) × List xv_I
def xv_len : Instr → Nat
  | .bipush _ => 2
  | .ldc _ => 2
  | .newarray _ => 2
  | .iload _ => 2
  | .istore _ => 2
  | .lload _ => 2
  | .lstore _ => 2
  | .aload _ => 2
  | .astore _ => 2
  | .sipush _ => 3
  | .iinc _ _ => 3
  | .ldc2_w _ => 3
  | .getfield _ => 3
  | .putfield _ => 3
  | .getstatic _ => 3
  | .new _ => 3
  | .anewarray _ => 3
  | .invokevirtual _ => 3
  | .invokespecial _ => 3
  | .invokestatic _ => 3
  | .if_icmp _ _ => 3
  | .ifCond _ _ => 3
  | .goto _ => 3
  | _ => 1
def xv_find {α : Type} : List (Nat × α) → Nat → Option α
  | [], _ => none
  | q :: r, i => bif Nat.beq q.1 i then some q.2 else xv_find r i
def xv_to : List xv_I → Nat → List xv_I
  | [], _ => []
  | q :: r, i => bif Nat.beq q.1 i then q :: r else xv_to r i
def xv_cat {V : Type} : xv_V V → Nat
  | .inr (.inl _) => 2
  | _ => 1
def xv_kill {V : Type} (L : xv_L V) : Nat → xv_L V
  | 0 => L
  | j + 1 => match L[j]? with
    | some (some (.inr (.inl _))) => L.set j none
    | _ => L
def xv_put1 {V : Type} (L : xv_L V) (i : Nat) (v : xv_V V) : xv_L V := (xv_kill L i).set i (some v)
def xv_put2 {V : Type} (L : xv_L V) (i : Nat) (v : xv_V V) : xv_L V := ((xv_kill L i).set (i + 1) none).set i (some v)
/-- loads and stores of locals -/
def xv_ld {V : Type} (L : xv_L V) (S : List (xv_V V)) (t i : Nat) : Option (xv_L V × List (xv_V V)) := match L[i]? with
  | some (some (.inl a)) => bif Nat.beq t 0 then some (L, .inl a :: S) else none
  | some (some (.inr (.inl a))) => bif Nat.beq t 1 then some (L, .inr (.inl a) :: S) else none
  | some (some (.inr (.inr (some a)))) => bif Nat.beq t 2 then some (L, .inr (.inr (some a)) :: S) else none
  | _ => none
def xv_sto {V : Type} (L : xv_L V) (S : List (xv_V V)) (t i : Nat) : Option (xv_L V × List (xv_V V)) := match S with
  | .inl a :: S => bif Nat.beq t 0 && Nat.blt i L.length then some (xv_put1 L i (.inl a), S) else none
  | .inr (.inl a) :: S => bif Nat.beq t 1 && Nat.blt (i + 1) L.length then some (xv_put2 L i (.inr (.inl a)), S) else none
  | .inr (.inr (some a)) :: S => bif Nat.beq t 2 && Nat.blt i L.length then some (xv_put1 L i (.inr (.inr (some a))), S) else none
  | _ => none
def xv_i2 {V : Type} (D : xv_D V) (o : Nat) (L : xv_L V) (S : List (xv_V V)) : Option (xv_L V × List (xv_V V)) := match S with
  | .inl b :: .inl a :: S => match D.2.2.1 o a b with
    | some r => some (L, .inl r :: S)
    | none => none
  | _ => none
def xv_l2 {V : Type} (D : xv_D V) (o : Nat) (L : xv_L V) (S : List (xv_V V)) : Option (xv_L V × List (xv_V V)) := match S with
  | .inr (.inl b) :: .inr (.inl a) :: S => match D.2.2.1 o a b with
    | some r => some (L, .inr (.inl r) :: S)
    | none => none
  | _ => none
def xv_s2 {V : Type} (D : xv_D V) (o : Nat) (L : xv_L V) (S : List (xv_V V)) : Option (xv_L V × List (xv_V V)) := match S with
  | .inl b :: .inr (.inl a) :: S => match D.2.2.1 o a b with
    | some r => some (L, .inr (.inl r) :: S)
    | none => none
  | _ => none
def xv_iinc {V : Type} (D : xv_D V) (L : xv_L V) (S : List (xv_V V)) (i : Nat) (n : Int) : Option (xv_L V × List (xv_V V)) := match L[i]? with
  | some (some (.inl a)) => match D.2.2.1 0 a (D.1 (Int32.ofInt n)) with
    | some r => some (xv_put1 L i (.inl r), S)
    | none => none
  | _ => none
/-- instructions that touch locals and stack alone -/
def xv_pure {V : Type} (D : xv_D V) (K : xv_K) (L : xv_L V) (S : List (xv_V V)) : Instr → Option (xv_L V × List (xv_V V))
  | .iconst n => some (L, .inl (D.1 (Int32.ofInt n)) :: S)
  | .bipush n => some (L, .inl (D.1 (Int8.ofInt n).toInt32) :: S)
  | .sipush n => some (L, .inl (D.1 (Int16.ofInt n).toInt32) :: S)
  | .lconst n => some (L, .inr (.inl (D.2.1 (Int64.ofNat (n : Nat)))) :: S)
  | .ldc i => match xv_find K.2.2.2.1 i with
    | some v => some (L, .inl (D.1 v) :: S)
    | none => match xv_find K.2.2.1 i with
      | some n => bif Nat.ble 2000 n then some (L, .inr (.inr (some (n - 2000))) :: S) else none
      | none => none
  | .ldc2_w i => match xv_find K.2.2.2.2 i with
    | some v => some (L, .inr (.inl (D.2.1 v)) :: S)
    | none => none
  | .iload_n k => xv_ld L S 0 k
  | .iload k => xv_ld L S 0 k
  | .lload_n k => xv_ld L S 1 k
  | .lload k => xv_ld L S 1 k
  | .aload_n k => xv_ld L S 2 k
  | .aload k => xv_ld L S 2 k
  | .istore_n k => xv_sto L S 0 k
  | .istore k => xv_sto L S 0 k
  | .lstore_n k => xv_sto L S 1 k
  | .lstore k => xv_sto L S 1 k
  | .astore_n k => xv_sto L S 2 k
  | .astore k => xv_sto L S 2 k
  | .iinc k n => xv_iinc D L S k n
  | .iadd => xv_i2 D 0 L S
  | .isub => xv_i2 D 1 L S
  | .imul => xv_i2 D 2 L S
  | .iand => xv_i2 D 3 L S
  | .ior => xv_i2 D 4 L S
  | .ishl => xv_i2 D 5 L S
  | .ishr => xv_i2 D 6 L S
  | .iushr => xv_i2 D 7 L S
  | .idiv => xv_i2 D 8 L S
  | .irem => xv_i2 D 9 L S
  | .ineg => match S with
    | .inl a :: S => match D.2.2.1 10 a a with
      | some r => some (L, .inl r :: S)
      | none => none
    | _ => none
  | .ladd => xv_l2 D 20 L S
  | .lsub => xv_l2 D 21 L S
  | .lmul => xv_l2 D 22 L S
  | .land => xv_l2 D 23 L S
  | .lor => xv_l2 D 24 L S
  | .ldiv => xv_l2 D 25 L S
  | .lrem => xv_l2 D 26 L S
  | .lneg => match S with
    | .inr (.inl a) :: S => match D.2.2.1 27 a a with
      | some r => some (L, .inr (.inl r) :: S)
      | none => none
    | _ => none
  | .lshl => xv_s2 D 30 L S
  | .lshr => xv_s2 D 31 L S
  | .i2l => match S with
    | .inl a :: S => match D.2.2.1 40 a a with
      | some r => some (L, .inr (.inl r) :: S)
      | none => none
    | _ => none
  | .l2i => match S with
    | .inr (.inl a) :: S => match D.2.2.1 41 a a with
      | some r => some (L, .inl r :: S)
      | none => none
    | _ => none
  | .lcmp => match S with
    | .inr (.inl b) :: .inr (.inl a) :: S => match D.2.2.1 42 a b with
      | some r => some (L, .inl r :: S)
      | none => none
    | _ => none
  | .dup => match S with
    | v :: S => bif Nat.beq (xv_cat v) 1 then some (L, v :: v :: S) else none
    | _ => none
  | .pop => match S with
    | v :: S => bif Nat.beq (xv_cat v) 1 then some (L, S) else none
    | _ => none
  | .dup2 => match S with
    | v :: w :: S => bif Nat.beq (xv_cat v) 1 && Nat.beq (xv_cat w) 1 then some (L, v :: w :: v :: w :: S) else none
    | _ => none
  | _ => none
def xv_tgt (pc : Nat) (off : Int) : Option Nat := match (pc : Int) + off with
  | .ofNat t => some t
  | _ => none
def xv_cmp2 {V : Type} (D : xv_D V) (o pc : Nat) (off : Int) (S : List (xv_V V)) : Option (Nat × List (xv_V V)) := match S with
  | .inl b :: .inl a :: S => match D.2.2.2.1 o a b, xv_tgt pc off with
    | some r, some t => some (bif r then t else pc + 3, S)
    | _, _ => none
  | _ => none
def xv_cmp1 {V : Type} (D : xv_D V) (o pc : Nat) (off : Int) (S : List (xv_V V)) : Option (Nat × List (xv_V V)) := match S with
  | .inl a :: S => match D.2.2.2.1 o a (D.1 0), xv_tgt pc off with
    | some r, some t => some (bif r then t else pc + 3, S)
    | _, _ => none
  | _ => none
def xv_tab {V : Type} (pc : Nat) (dflt lo hi : Int) (offs : Array Int) (n : Int) (S : List (xv_V V)) : Option (Nat × List (xv_V V)) :=
  if n < lo ∨ hi < n then match xv_tgt pc dflt with
    | some t => some (t, S)
    | none => none
  else match offs[(n - lo).toNat]? with
    | some off => match xv_tgt pc off with
      | some t => some (t, S)
      | none => none
    | none => none
/-- jumps: where to, and the stack there -/
def xv_br {V : Type} (D : xv_D V) (pc : Nat) (S : List (xv_V V)) : Instr → Option (Nat × List (xv_V V))
  | .goto off => match xv_tgt pc off with
    | some t => some (t, S)
    | none => none
  | .if_icmp .eq off => xv_cmp2 D 0 pc off S
  | .if_icmp .ne off => xv_cmp2 D 1 pc off S
  | .if_icmp .lt off => xv_cmp2 D 2 pc off S
  | .if_icmp .ge off => xv_cmp2 D 3 pc off S
  | .if_icmp .gt off => xv_cmp2 D 4 pc off S
  | .if_icmp .le off => xv_cmp2 D 5 pc off S
  | .ifCond .eq off => xv_cmp1 D 0 pc off S
  | .ifCond .ne off => xv_cmp1 D 1 pc off S
  | .ifCond .lt off => xv_cmp1 D 2 pc off S
  | .ifCond .ge off => xv_cmp1 D 3 pc off S
  | .ifCond .gt off => xv_cmp1 D 4 pc off S
  | .ifCond .le off => xv_cmp1 D 5 pc off S
  | .tableswitch dflt lo hi offs => match S with
    | .inl a :: S => match D.2.2.2.2.1 a with
      | some n => xv_tab pc dflt lo hi offs n S
      | none => none
    | _ => none
  | .lookupswitch dflt ps => match S with
    | .inl a :: S => match D.2.2.2.2.1 a with
      | some n => bif (ps.toList.zip (ps.toList.drop 1)).all (fun q => decide (q.1.1 < q.2.1)) then match xv_tgt pc (Op.lookupswitch.offset ps.toList dflt n) with
          | some t => some (t, S)
          | none => none
        else none
      | none => none
    | _ => none
  | _ => none
def xv_dflt {V : Type} (D : xv_D V) : FieldType → xv_V V
  | .int => .inl (D.1 0)
  | .boolean => .inl (D.1 0)
  | .long => .inr (.inl (D.2.1 0))
  | _ => .inr (.inr none)
/-- may a field or array of this type hold this value -/
def xv_fit {V : Type} (D : xv_D V) : FieldType → xv_V V → Bool
  | .int, .inl _ => true
  | .boolean, .inl a => D.2.2.2.2.2 a
  | .long, .inr (.inl _) => true
  | .object _, .inr (.inr _) => true
  | .array _, .inr (.inr _) => true
  | _, _ => false
/-- the index of an array access: an exact number within -/
def xv_ix {V : Type} (D : xv_D V) (a : V) (n : Nat) : Option Nat := match D.2.2.2.2.1 a with
  | some (.ofNat k) => bif Nat.blt k n then some k else none
  | _ => none
def xv_ald {V : Type} (D : xv_D V) (M : xv_M V) (S : List (xv_V V)) (t0 t1 : Nat) : Option (List (xv_V V) × xv_M V × Nat × Nat) := match S with
  | .inl i :: .inr (.inr (some a)) :: S => match M[a]? with
    | some o => bif Nat.ble t0 o.1 && Nat.ble o.1 t1 then match xv_ix D i o.2.length with
        | some k => match o.2[k]? with
          | some v => some (v :: S, M, 0, 0)
          | none => none
        | none => none
      else none
    | none => none
  | _ => none
def xv_ast {V : Type} (D : xv_D V) (M : xv_M V) (S : List (xv_V V)) (t : Nat) (ty : FieldType) : Option (List (xv_V V) × xv_M V × Nat × Nat) := match S with
  | v :: .inl i :: .inr (.inr (some a)) :: S => match M[a]? with
    | some o => bif Nat.beq o.1 t && xv_fit D ty v then match xv_ix D i o.2.length with
        | some k => some (S, M.set a (o.1, o.2.set k v), 0, 0)
        | none => none
      else none
    | none => none
  | _ => none
/-- a new array: at most 4096 places -/
def xv_newa {V : Type} (D : xv_D V) (M : xv_M V) (S : List (xv_V V)) (t : Nat) (v : xv_V V) : Option (List (xv_V V) × xv_M V × Nat × Nat) := match S with
  | .inl n :: S => match xv_ix D n 4096 with
    | some k => some (.inr (.inr (some M.length)) :: S, M ++ [(t, List.replicate k v)], 1, k)
    | none => none
  | _ => none
/-- instructions of the memory: stack, memory, new cells, new places. ct: the fields of the classes (their types, final or not), at: the classes of the arrays of objects; w: the class's own number, ini: 1 in a constructor -/
def xv_mem {V : Type} (D : xv_D V) (ct : List (List (FieldType × Bool))) (at_ : List Nat) (K : xv_K) (w ini : Nat) (M : xv_M V) (S : List (xv_V V)) : Instr → Option (List (xv_V V) × xv_M V × Nat × Nat)
  | .getfield i => match xv_find K.1 i with
    | some ck => match S with
      | .inr (.inr (some a)) :: S => match M[a]? with
        | some o => bif Nat.beq o.1 (8 + ck.1) then match o.2[ck.2]? with
            | some v => some (v :: S, M, 0, 0)
            | none => none
          else none
        | none => none
      | _ => none
    | none => none
  | .putfield i => match xv_find K.1 i with
    | some ck => match S with
      | v :: .inr (.inr (some a)) :: S => match M[a]? with
        | some o => bif Nat.beq o.1 (8 + ck.1) && Nat.blt ck.2 o.2.length then match ct[ck.1]? with
            | some fs => match fs[ck.2]? with
              | some f => bif xv_fit D f.1 v && (!f.2 || (Nat.beq ini 1 && Nat.beq w ck.1)) then some (S, M.set a (o.1, o.2.set ck.2 v), 0, 0) else none
              | none => none
            | none => none
          else none
        | none => none
      | _ => none
    | none => none
  | .new i => match xv_find K.2.2.1 i with
    | some ci => match ct[ci]? with
      | some fs => bif Nat.blt ci 1000 then some (.inr (.inr (some M.length)) :: S, M ++ [(8 + ci, fs.map (fun f => xv_dflt D f.1))], 1, fs.length) else none
      | none => none
    | none => none
  | .newarray .int => xv_newa D M S 0 (.inl (D.1 0))
  | .newarray .long => xv_newa D M S 1 (.inr (.inl (D.2.1 0)))
  | .newarray .boolean => xv_newa D M S 2 (.inl (D.1 0))
  | .anewarray i => match xv_find K.2.2.1 (70000 + i) with
    | some ci => bif Nat.ble 1000 ci && Nat.blt ci 1003 then xv_newa D M S (ci - 996) (.inr (.inr none)) else none
    | none => none
  | .arraylength => match S with
    | .inr (.inr (some a)) :: S => match M[a]? with
      | some o => bif Nat.blt o.1 7 && Nat.ble o.2.length 4096 then some (.inl (D.1 (Int32.ofNat o.2.length)) :: S, M, 0, 0) else none
      | none => none
    | _ => none
  | .iaload => match xv_ald D M S 0 0 with
    | some r => some r
    | none => xv_ald D M S 3 3
  | .laload => xv_ald D M S 1 1
  | .baload => xv_ald D M S 2 2
  | .aaload => xv_ald D M S 4 6
  | .iastore => xv_ast D M S 0 .int
  | .lastore => xv_ast D M S 1 .long
  | .bastore => xv_ast D M S 2 .boolean
  | .aastore => match S with
    | .inr (.inr (some v)) :: .inl i :: .inr (.inr (some a)) :: S => match M[a]?, M[v]? with
      | some o, some ov => match at_[o.1 - 4]? with
        | some ci => bif Nat.ble 4 o.1 && Nat.blt o.1 7 && Nat.beq ov.1 (8 + ci) then match xv_ix D i o.2.length with
            | some k => some (S, M.set a (o.1, o.2.set k (.inr (.inr (some v)))), 0, 0)
            | none => none
          else none
        | none => none
      | _, _ => none
    | _ => none
  | _ => none
def xv_cats {V : Type} : List (xv_V V) → Nat
  | [] => 0
  | v :: S => xv_cat v + xv_cats S
/-- arraycopy of int arrays -/
def xv_copy {V : Type} (D : xv_D V) (M : xv_M V) (S : List (xv_V V)) : Option (List (xv_V V) × xv_M V) := match S with
  | .inl n :: .inl dp :: .inr (.inr (some b)) :: .inl sp :: .inr (.inr (some a)) :: S => match M[a]?, M[b]? with
    | some oa, some ob => bif Nat.beq oa.1 0 && Nat.beq ob.1 0 && Nat.ble (xv_cats S) 8 then match xv_ix D n 4096, xv_ix D dp 4096, xv_ix D sp 4096 with
        | some n, some dp, some sp => bif Nat.ble (sp + n) oa.2.length && Nat.ble (dp + n) ob.2.length then some (S, M.set b (0, ob.2.take dp ++ ((oa.2.drop sp).take n ++ ob.2.drop (dp + n)))) else none
        | _, _, _ => none
      else none
    | _, _ => none
  | _ => none
/-- a call: the method's number, its arguments (the receiver first), the stack below -/
def xv_arg {V : Type} (ms : List xv_N) (K : xv_K) (M : xv_M V) (S : List (xv_V V)) : Instr → Option (Nat × List (xv_V V) × List (xv_V V))
  | .invokevirtual i => match xv_find K.2.1 i with
    | some (0, j) => match ms[j]? with
      | some y => match S.drop y.2.1.1 with
        | .inr (.inr (some a)) :: R => match M[a]? with
          | some o => bif Nat.beq o.1 (8 + y.1.1) && Nat.ble (xv_cats R) 8 then some (j, .inr (.inr (some a)) :: (S.take y.2.1.1).reverse, R) else none
          | none => none
        | _ => none
      | none => none
    | _ => none
  | .invokespecial i => match xv_find K.2.1 i with
    | some (k, j) => bif Nat.beq k 1 || Nat.beq k 2 then match ms[j]? with
        | some y => match S.drop y.2.1.1 with
          | .inr (.inr (some a)) :: R => bif Nat.ble (xv_cats R) 8 then some (j, .inr (.inr (some a)) :: (S.take y.2.1.1).reverse, R) else none
          | _ => none
        | none => none
      else none
    | none => none
  | .invokestatic i => match xv_find K.2.1 i with
    | some (3, j) => match ms[j]? with
      | some y => bif Nat.ble y.2.1.1 S.length && Nat.ble (xv_cats (S.drop y.2.1.1)) 8 then some (j, (S.take y.2.1.1).reverse, S.drop y.2.1.1) else none
      | none => none
    | _ => none
  | _ => none
/-- calls that are no walk: Object's constructor, arraycopy, charAt of a constant text (sct: their bytes) -/
def xv_nat {V : Type} (D : xv_D V) (sct : List (List Int32)) (K : xv_K) (M : xv_M V) (S : List (xv_V V)) : Instr → Option (List (xv_V V) × xv_M V)
  | .invokespecial i => match xv_find K.2.1 i with
    | some (5, _) => match S with
      | .inr (.inr (some _)) :: S => bif Nat.ble (xv_cats S) 8 then some (S, M) else none
      | _ => none
    | _ => none
  | .invokestatic i => match xv_find K.2.1 i with
    | some (6, _) => xv_copy D M S
    | _ => none
  | .invokevirtual i => match xv_find K.2.1 i with
    | some (4, _) => match S with
      | .inl a :: .inr (.inr (some n)) :: S => match sct[n]? with
        | some cs => match xv_ix D a cs.length with
          | some k => match cs[k]? with
            | some b => bif Nat.ble (xv_cats S) 8 then some (.inl (D.1 (b &&& 255)) :: S, M) else none
            | none => none
          | none => none
        | none => none
      | _ => none
    | _ => none
  | _ => none
/-- ends: what is answered -/
def xv_end {V : Type} (D : xv_D V) (r : Nat) (S : List (xv_V V)) : Instr → Option (Option (xv_V V))
  | .return_ => match S with
    | [] => bif Nat.beq r 0 then some none else none
    | _ => none
  | .ireturn => match S with
    | [.inl a] => bif Nat.beq r 1 || (Nat.beq r 3 && D.2.2.2.2.2 a) then some (some (.inl a)) else none
    | _ => none
  | .lreturn => match S with
    | [.inr (.inl a)] => bif Nat.beq r 2 then some (some (.inr (.inl a))) else none
    | _ => none
  | _ => none
/-- one step of the method y at the instruction (pc, i), then ih; at its end fin -/
def xv_step {V ρ : Type} (D : xv_D V) (ct : List (List (FieldType × Bool))) (at_ : List Nat) (sct : List (List Int32)) (ms : List xv_N) (call : Nat → List (xv_V V) → xv_M V → Option (xv_R V)) (y : xv_N) (fin : Option (xv_V V) → xv_M V → Option ρ)
    (ih : Nat → List xv_I → xv_L V → List (xv_V V) → xv_M V → Nat → Nat → Option ρ) (pc : Nat) (cs : List xv_I) (L : xv_L V) (S : List (xv_V V)) (M : xv_M V) (c s : Nat) : Option ρ := match cs with
  | [] => none
  | q :: cs => bif Nat.beq q.1 pc then match xv_pure D y.1.2 L S q.2 with
      | some LS => ih (pc + xv_len q.2) cs LS.1 LS.2 M c s
      | none => match xv_br D pc S q.2 with
        | some tS => ih tS.1 (xv_to y.2.2.2 tS.1) L tS.2 M c s
        | none => match xv_mem D ct at_ y.1.2 y.1.1 y.2.1.2.2.2 M S q.2 with
          | some T => bif Nat.ble (c + T.2.2.1) y.2.2.1.1 && Nat.ble (s + T.2.2.2) y.2.2.1.2 then ih (pc + xv_len q.2) cs L T.1 T.2.1 (c + T.2.2.1) (s + T.2.2.2) else none
          | none => match xv_arg ms y.1.2 M S q.2 with
            | some A => match ms[A.1]? with
              | some z => bif Nat.ble (c + z.2.2.1.1) y.2.2.1.1 && Nat.ble (s + z.2.2.1.2) y.2.2.1.2 then match call A.1 A.2.1 M with
                  | some r => ih (pc + 3) cs L (r.1.toList ++ A.2.2) r.2 (c + z.2.2.1.1) (s + z.2.2.1.2)
                  | none => none
                else none
              | none => none
            | none => match xv_nat D sct y.1.2 M S q.2 with
              | some T => ih (pc + 3) cs L T.1 T.2 c s
              | none => match xv_end D y.2.1.2.2.1 S q.2 with
                | some r => fin r M
                | none => none
    else none
noncomputable def xv_loop {V : Type} (D : xv_D V) (ct : List (List (FieldType × Bool))) (at_ : List Nat) (sct : List (List Int32)) (ms : List xv_N) (call : Nat → List (xv_V V) → xv_M V → Option (xv_R V)) (y : xv_N) : Nat → Nat → List xv_I → xv_L V → List (xv_V V) → xv_M V → Nat → Nat → Option (xv_R V) :=
  Nat.rec (fun _ _ _ _ _ _ _ => none) (fun _ ih => xv_step D ct at_ sct ms call y (fun r M => some (r, M)) ih)
/-- the same up to the instruction at stop: at least one step -/
noncomputable def xv_seg {V : Type} (D : xv_D V) (ct : List (List (FieldType × Bool))) (at_ : List Nat) (sct : List (List Int32)) (ms : List xv_N) (call : Nat → List (xv_V V) → xv_M V → Option (xv_R V)) (y : xv_N) (stop : Nat) : Nat → Nat → List xv_I → xv_L V → List (xv_V V) → xv_M V → Nat → Nat → Option (xv_L V × List (xv_V V) × xv_M V × Nat × Nat) :=
  Nat.rec (fun _ _ _ _ _ _ _ => none) (fun _ ih => xv_step D ct at_ sct ms call y (fun _ _ => none) (fun pc cs L S M c s => bif Nat.beq pc stop then some (L, S, M, c, s) else ih pc cs L S M c s))
/-- the locals at the entry -/
def xv_in {V : Type} : List (xv_V V) → Nat → xv_L V
  | [], n => List.replicate n none
  | v :: r, n => match v with
    | .inr (.inl a) => some (.inr (.inl a)) :: none :: xv_in r (n - 2)
    | v => some v :: xv_in r (n - 1)
/-- what the method j does: at most so many calls deep; ext: what is known of a call already -/
noncomputable def xv_run {V : Type} (D : xv_D V) (ct : List (List (FieldType × Bool))) (at_ : List Nat) (sct : List (List Int32)) (ms : List xv_N) (ext : Nat → Nat → List (xv_V V) → xv_M V → Option (xv_R V)) (fuel : Nat) : Nat → Nat → List (xv_V V) → xv_M V → Option (xv_R V) :=
  Nat.rec (fun _ _ _ => none) (fun d ih j as M => match ext (d + 1) j as M with
    | some r => some r
    | none => match ms[j]? with
      | some y => bif Nat.ble (xv_cats as) y.2.1.2.1 then xv_loop D ct at_ sct ms ih y fuel 0 y.2.2.2 (xv_in as y.2.1.2.1) [] M 0 0 else none
      | none => none)
end
section
/-! THE RELATION between the pure machine and the kit's worlds. φ: the addresses of the cells, by their numbers. -/
def xr_v {V : Type} (g : V → Value → Prop) (φ : List Nat) : xv_V V → Value → Prop
  | .inl a, x => ∃ n : Int32, x = .int n ∧ g a (.int n)
  | .inr (.inl a), x => ∃ n : Int64, x = .long n ∧ g a (.long n)
  | .inr (.inr none), x => x = .null
  | .inr (.inr (some k)), x => ∃ q : Nat, φ[k]? = some q ∧ x = .ref q
def xr_s {V : Type} (g : V → Value → Prop) (φ : List Nat) : List (xv_V V) → List Value → Prop
  | [], st => st = []
  | v :: S, st => ∃ (x : Value) (r : List Value), st = x :: r ∧ xr_v g φ v x ∧ xr_s g φ S r
def xr_l {V : Type} (g : V → Value → Prop) (φ : List Nat) (L : xv_L V) (ls : Array Slot) (nL : Nat) : Prop :=
  L.length = nL ∧ ∃ lv : List (Nat × Value), lv_has ls nL lv ∧ ∀ (i : Nat) (v : xv_V V), L[i]? = some (some v) → ∃ x : Value, (i, x) ∈ lv ∧ xr_v g φ v x
def xr_e {V : Type} (g : V → Value → Prop) (φ : List Nat) (tys : List (ClassId × FieldType)) (o : xv_O V) (E : va_E) : Prop :=
  (8 ≤ o.1 ∧ ∃ fs : List Value, E = .inr (o.1 - 8, fs) ∧ fs.length = o.2.length ∧ ∀ (j : Nat) (v : xv_V V), o.2[j]? = some v → ∃ x : Value, fs[j]? = some x ∧ xr_v g φ v x) ∨
  (∃ (cA : ClassId) (ty : FieldType), tys[o.1]? = some (cA, ty) ∧
    (((o.1 = 0 ∨ o.1 = 2) ∧ ∃ f : Nat → Int32, E = .inl (cA, o.2.length, .inl f) ∧ ∀ (j : Nat) (v : xv_V V), o.2[j]? = some v → xr_v g φ v (.int (f j))) ∨
     (o.1 = 1 ∧ ∃ f : Nat → Int64, E = .inl (cA, o.2.length, .inr (.inl f)) ∧ ∀ (j : Nat) (v : xv_V V), o.2[j]? = some v → xr_v g φ v (.long (f j))) ∨
     ((4 ≤ o.1 ∧ o.1 < 7) ∧ ∃ f : Nat → Option Nat, E = .inl (cA, o.2.length, .inr (.inr (.inr (.inr f)))) ∧ ∀ (j : Nat) (v : xv_V V), o.2[j]? = some v → xr_v g φ v (va_rf (f j)))))
/-- the memory: C says what a constant cell holds; the constant cells are the first ones -/
def xr_m {V : Type} (C : Nat → xv_O V → Prop) (g : V → Value → Prop) (φ : List Nat) (tys : List (ClassId × FieldType)) (M : xv_M V) (ws : va_W) : Prop :=
  ∃ pre : List Nat, pre ++ ws.map (·.1) = φ ∧ M.length = φ.length ∧ (∀ (k : Nat) (o : xv_O V), M[k]? = some o → o.1 ≠ 7 → o.1 ≠ 3 → pre.length ≤ k ∧ ∃ (q : Nat) (E : va_E), ws[k - pre.length]? = some (q, E) ∧ xr_e g φ tys o E) ∧ ∀ (k : Nat) (o : xv_O V), M[k]? = some o → o.1 = 3 → C k o
def xv_semI : Nat → Int32 → Int32 → Option Int32
  | 0, x, y => some (x + y)
  | 1, x, y => some (x - y)
  | 2, x, y => some (x * y)
  | 3, x, y => some (x &&& y)
  | 4, x, y => some (x ||| y)
  | 5, x, y => some (x <<< (y &&& 31))
  | 6, x, y => some (x >>> (y &&& 31))
  | 7, x, y => some ((x.toUInt32 >>> (y.toUInt32 &&& Int32.toUInt32 31)).toInt32)
  | 8, x, y => if y = 0 then none else some (x / y)
  | 9, x, y => if y = 0 then none else some (x - x / y * y)
  | 10, x, _ => some (-x)
  | _, _, _ => none
def xv_semL : Nat → Int64 → Int64 → Option Int64
  | 0, x, y => some (x + y)
  | 1, x, y => some (x - y)
  | 2, x, y => some (x * y)
  | 3, x, y => some (x &&& y)
  | 4, x, y => some (x ||| y)
  | 5, x, y => if y = 0 then none else some (x / y)
  | 6, x, y => if y = 0 then none else some (x - x / y * y)
  | 7, x, _ => some (-x)
  | _, _, _ => none
def xv_cmp : Nat → Int32 → Int32 → Bool
  | 0, x, y => decide (x = y)
  | 1, x, y => !decide (x = y)
  | 2, x, y => decide (x < y)
  | 3, x, y => decide (y ≤ x)
  | 4, x, y => decide (y < x)
  | _, x, y => decide (x ≤ y)
/-- the domain's operations are right -/
def xv_ok {V : Type} (D : xv_D V) (g : V → Value → Prop) : Prop :=
  (∀ n : Int32, g (D.1 n) (.int n)) ∧ (∀ n : Int64, g (D.2.1 n) (.long n)) ∧
  (∀ (o : Nat) (a b r : V) (x y : Int32), o < 20 → D.2.2.1 o a b = some r → g a (.int x) → g b (.int y) → ∃ z, xv_semI o x y = some z ∧ g r (.int z)) ∧
  (∀ (o : Nat) (a b r : V) (x y : Int64), o < 10 → D.2.2.1 (o + 20) a b = some r → g a (.long x) → g b (.long y) → ∃ z, xv_semL o x y = some z ∧ g r (.long z)) ∧
  (∀ (a b r : V) (x : Int64) (y : Int32), D.2.2.1 30 a b = some r → g a (.long x) → g b (.int y) → g r (.long (x <<< (y.toInt64 &&& 63)))) ∧
  (∀ (a b r : V) (x : Int64) (y : Int32), D.2.2.1 31 a b = some r → g a (.long x) → g b (.int y) → g r (.long (x >>> (y.toInt64 &&& 63)))) ∧
  (∀ (a b r : V) (x : Int32), D.2.2.1 40 a b = some r → g a (.int x) → g r (.long x.toInt64)) ∧
  (∀ (a b r : V) (x : Int64), D.2.2.1 41 a b = some r → g a (.long x) → g r (.int x.toInt32)) ∧
  (∀ (a b r : V) (x y : Int64), D.2.2.1 42 a b = some r → g a (.long x) → g b (.long y) → g r (.int (lg_cmp x y))) ∧
  (∀ (o : Nat) (a b : V) (t : Bool) (x y : Int32), D.2.2.2.1 o a b = some t → g a (.int x) → g b (.int y) → xv_cmp o x y = t) ∧
  (∀ (a : V) (n : Int) (x : Int32), D.2.2.2.2.1 a = some n → g a (.int x) → x.toInt = n) ∧
  (∀ (a : V) (x : Int32), D.2.2.2.2.2 a = true → g a (.int x) → x = 0 ∨ x = 1)
section XRM
variable {V : Type} {g : V → Value → Prop} {φ : List Nat}
theorem xr_v_mono {t : List Nat} : ∀ {v : xv_V V} {x : Value}, xr_v g φ v x → xr_v g (φ ++ t) v x
  | .inl _, _, h => h
  | .inr (.inl _), _, h => h
  | .inr (.inr none), _, h => h
  | .inr (.inr (some k)), _, ⟨q, hq, hx⟩ => ⟨q, by
      have hk : k < φ.length := (List.getElem?_eq_some_iff.mp hq).1
      rw [List.getElem?_append_left hk]; exact hq, hx⟩
theorem xr_s_mono {t : List Nat} : ∀ {S : List (xv_V V)} {st : List Value}, xr_s g φ S st → xr_s g (φ ++ t) S st
  | [], _, h => h
  | _ :: _, _, ⟨x, r, e, h, k⟩ => ⟨x, r, e, xr_v_mono h, xr_s_mono k⟩
theorem xr_l_mono {t : List Nat} {L : xv_L V} {ls : Array Slot} {nL : Nat} (h : xr_l g φ L ls nL) : xr_l g (φ ++ t) L ls nL :=
  ⟨h.1, h.2.choose, h.2.choose_spec.1, fun i v hv => by
    obtain ⟨x, hx, hr⟩ := h.2.choose_spec.2 i v hv
    exact ⟨x, hx, xr_v_mono hr⟩⟩
theorem xr_v_cat : ∀ {v : xv_V V} {x : Value}, xr_v g φ v x → x.category = xv_cat v
  | .inl _, _, ⟨_, h, _⟩ => by rw [h]; rfl
  | .inr (.inl _), _, ⟨_, h, _⟩ => by rw [h]; rfl
  | .inr (.inr none), _, h => by rw [show _ = Value.null from h]; rfl
  | .inr (.inr (some _)), _, ⟨_, _, h⟩ => by rw [h]; rfl
theorem xr_s_cats : ∀ {S : List (xv_V V)} {st : List Value}, xr_s g φ S st → (st.map fun v => v.category).sum = xv_cats S
  | [], _, h => by rw [show _ = ([] : List Value) from h]; rfl
  | _ :: _, _, ⟨x, r, e, h, k⟩ => by rw [e, List.map_cons, List.sum_cons, xr_v_cat h, xr_s_cats k]; rfl
theorem xr_l_at {L : xv_L V} {ls : Array Slot} {nL i : Nat} {v : xv_V V} (h : xr_l g φ L ls nL) (hi : L[i]? = some (some v)) : ∃ x : Value, ls[i]? = some (.val x) ∧ xr_v g φ v x := by
  obtain ⟨-, lv, h1, h2⟩ := h
  obtain ⟨x, hx, hr⟩ := h2 i v hi
  exact ⟨x, h1.2.2 (i, x) hx, hr⟩
theorem xv_kill_len (L : xv_L V) (i : Nat) : (xv_kill L i).length = L.length := by
  cases i with
  | zero => rfl
  | succ j =>
    simp only [xv_kill]
    split
    · rw [List.length_set]
    · rfl
/-- what is left behind a store at i -/
theorem xv_kill_at {L : xv_L V} {i j : Nat} {w : xv_V V} (h : (xv_kill L i)[j]? = some (some w)) : L[j]? = some (some w) ∧ (j + 1 = i → xv_cat w = 1) := by
  cases i with
  | zero => exact ⟨h, fun q => by omega⟩
  | succ k =>
    simp only [xv_kill] at h
    split at h
    · rename_i a hk
      rw [List.getElem?_set] at h
      split at h
      · split at h <;> simp at h
      · rename_i hne
        exact ⟨h, fun q => absurd (by omega : k = j) hne⟩
    · rename_i hk
      refine ⟨h, fun q => ?_⟩
      have e : j = k := by omega
      subst e
      match w, h with
      | .inl _, _ => rfl
      | .inr (.inr _), _ => rfl
      | .inr (.inl a), h => exact absurd h (hk a)
theorem xr_l_put1 {L : xv_L V} {nL i : Nat} {v : xv_V V} {x : Value} {lv : List (Nat × Value)} {ls' : Array Slot} (hL : L.length = nL) (h2 : ∀ (i : Nat) (v : xv_V V), L[i]? = some (some v) → ∃ x : Value, (i, x) ∈ lv ∧ xr_v g φ v x) (hv : xr_v g φ v x)
    (h' : lv_has ls' nL ((i, x) :: lv.filter (fun q => !(q.1 == i) && !(q.1 + 1 == i && q.2.category == 2)))) : xr_l g φ (xv_put1 L i v) ls' nL := by
  refine ⟨by rw [xv_put1, List.length_set, xv_kill_len, hL], _, h', fun j w hw => ?_⟩
  rw [xv_put1, List.getElem?_set] at hw
  split at hw
  · rename_i e
    subst e
    split at hw
    · have e2 : v = w := by simpa using hw
      subst e2
      exact ⟨x, List.mem_cons_self, hv⟩
    · simp at hw
  · rename_i hne
    obtain ⟨hw, hc⟩ := xv_kill_at hw
    obtain ⟨y, hy, hr⟩ := h2 j w hw
    refine ⟨y, List.mem_cons_of_mem _ (List.mem_filter.mpr ⟨hy, ?_⟩), hr⟩
    have hcat := xr_v_cat hr
    by_cases hj : j + 1 = i
    · have h1 := hc hj
      have : ¬ j = i := fun q => hne q.symm
      simp [this, hcat, h1]
    · have : ¬ j = i := fun q => hne q.symm
      simp [this, hj]
theorem xr_l_put2 {L : xv_L V} {nL i : Nat} {v : xv_V V} {x : Value} {lv : List (Nat × Value)} {ls' : Array Slot} (hL : L.length = nL) (h2 : ∀ (i : Nat) (v : xv_V V), L[i]? = some (some v) → ∃ x : Value, (i, x) ∈ lv ∧ xr_v g φ v x) (hv : xr_v g φ v x)
    (h' : lv_has ls' nL ((i, x) :: lv.filter (fun q => !(q.1 == i) && (!(q.1 == i + 1) && !(q.1 + 1 == i && q.2.category == 2))))) : xr_l g φ (xv_put2 L i v) ls' nL := by
  refine ⟨by rw [xv_put2, List.length_set, List.length_set, xv_kill_len, hL], _, h', fun j w hw => ?_⟩
  rw [xv_put2, List.getElem?_set] at hw
  split at hw
  · rename_i e
    subst e
    split at hw
    · have e2 : v = w := by simpa using hw
      subst e2
      exact ⟨x, List.mem_cons_self, hv⟩
    · simp at hw
  · rename_i hne
    rw [List.getElem?_set] at hw
    split at hw
    · split at hw <;> simp at hw
    · rename_i hne2
      obtain ⟨hw, hc⟩ := xv_kill_at hw
      obtain ⟨y, hy, hr⟩ := h2 j w hw
      refine ⟨y, List.mem_cons_of_mem _ (List.mem_filter.mpr ⟨hy, ?_⟩), hr⟩
      have hcat := xr_v_cat hr
      have n1 : ¬ j = i := fun q => hne q.symm
      have n2 : ¬ j = i + 1 := fun q => hne2 q.symm
      by_cases hj : j + 1 = i
      · have h1 := hc hj
        simp [n1, n2, hcat, h1]
      · simp [n1, n2, hj]
end XRM
end
section
section XSP
variable {p : Program} {l : Launch} {e : Env} {R : Room} {s : State} {m : MethodId} {args : Array Value} {below : List Frame} {meth : Method} {c : Code} {H : Heap} {locs : List Loc} {cells slots : Nat} {Q : State → Prop}
variable {cc : ByteArray} {pc : Nat} {V : Type} {D : xv_D V} {g : V → Value → Prop} {φ : List Nat} {nL : Nat} {L L' : xv_L V} {S S' : List (xv_V V)} {ls : Array Slot} {st : List Value}
theorem xs_ld {t i : Nat} (h : xv_ld L S t i = some (L', S')) (hl : xr_l g φ L ls nL) : L' = L ∧ ∃ (v : xv_V V) (x : Value), S' = v :: S ∧ ls[i]? = some (.val x) ∧ xr_v g φ v x ∧ ((t = 0 → ∃ a, v = .inl a) ∧ (t = 1 → ∃ a, v = .inr (.inl a)) ∧ (t = 2 → ∃ k, v = .inr (.inr (some k)))) := by
  unfold xv_ld at h
  split at h
  · rename_i a ha
    obtain ⟨x, h1, h2⟩ := xr_l_at hl ha
    cases ht : Nat.beq t 0 <;> simp [ht] at h
    obtain ⟨rfl, rfl⟩ := h
    have e := Nat.eq_of_beq_eq_true ht
    exact ⟨rfl, _, x, rfl, h1, h2, fun _ => ⟨a, rfl⟩, fun q => by omega, fun q => by omega⟩
  · rename_i a ha
    obtain ⟨x, h1, h2⟩ := xr_l_at hl ha
    cases ht : Nat.beq t 1 <;> simp [ht] at h
    obtain ⟨rfl, rfl⟩ := h
    have e := Nat.eq_of_beq_eq_true ht
    exact ⟨rfl, _, x, rfl, h1, h2, fun q => by omega, fun _ => ⟨a, rfl⟩, fun q => by omega⟩
  · rename_i a ha
    obtain ⟨x, h1, h2⟩ := xr_l_at hl ha
    cases ht : Nat.beq t 2 <;> simp [ht] at h
    obtain ⟨rfl, rfl⟩ := h
    have e := Nat.eq_of_beq_eq_true ht
    exact ⟨rfl, _, x, rfl, h1, h2, fun q => by omega, fun q => by omega, fun _ => ⟨a, rfl⟩⟩
  · cases h
theorem xs_sto0 {i : Nat} (h : xv_sto L S 0 i = some (L', S')) : ∃ a, S = .inl a :: S' ∧ i < L.length ∧ L' = xv_put1 L i (.inl a) := by
  unfold xv_sto at h
  split at h
  · rename_i a S1
    cases ht : Nat.blt i L.length <;> simp [ht, show Nat.beq 0 0 = true from rfl] at h
    obtain ⟨rfl, rfl⟩ := h
    exact ⟨a, rfl, Nat.le_of_ble_eq_true ht, rfl⟩
  · simp [show Nat.beq 0 1 = false from rfl] at h
  · simp [show Nat.beq 0 2 = false from rfl] at h
  · cases h
theorem xs_sto1 {i : Nat} (h : xv_sto L S 1 i = some (L', S')) : ∃ a, S = .inr (.inl a) :: S' ∧ i + 1 < L.length ∧ L' = xv_put2 L i (.inr (.inl a)) := by
  unfold xv_sto at h
  split at h
  · simp [show Nat.beq 1 0 = false from rfl] at h
  · rename_i a S1
    cases ht : Nat.blt (i + 1) L.length <;> simp [ht, show Nat.beq 1 1 = true from rfl] at h
    obtain ⟨rfl, rfl⟩ := h
    exact ⟨a, rfl, Nat.le_of_ble_eq_true ht, rfl⟩
  · simp [show Nat.beq 1 2 = false from rfl] at h
  · cases h
theorem xs_sto2 {i : Nat} (h : xv_sto L S 2 i = some (L', S')) : ∃ a, S = .inr (.inr (some a)) :: S' ∧ i < L.length ∧ L' = xv_put1 L i (.inr (.inr (some a))) := by
  unfold xv_sto at h
  split at h
  · simp [show Nat.beq 2 0 = false from rfl] at h
  · simp [show Nat.beq 2 1 = false from rfl] at h
  · rename_i a S1
    cases ht : Nat.blt i L.length <;> simp [ht, show Nat.beq 2 2 = true from rfl] at h
    obtain ⟨rfl, rfl⟩ := h
    exact ⟨a, rfl, Nat.le_of_ble_eq_true ht, rfl⟩
  · cases h
theorem xs_i2 (hD : xv_ok D g) {o : Nat} (ho : o < 20) (h : xv_i2 D o L S = some (L', S')) (hs : xr_s g φ S st) : L' = L ∧ ∃ (r : V) (S1 : List (xv_V V)) (x y z : Int32) (rest : List Value), S' = .inl r :: S1 ∧ st = .int y :: .int x :: rest ∧ xr_s g φ S1 rest ∧ xv_semI o x y = some z ∧ g r (.int z) := by
  unfold xv_i2 at h
  split at h
  · rename_i b a S1
    obtain ⟨_, r1, rfl, ⟨y, rfl, hy⟩, _, r2, rfl, ⟨x, rfl, hx⟩, hr⟩ := hs
    split at h
    · rename_i r hr2
      obtain ⟨rfl, rfl⟩ := by simpa using h
      obtain ⟨z, hz, hg⟩ := hD.2.2.1 o a b r x y ho hr2 hx hy
      exact ⟨rfl, r, S1, x, y, z, r2, rfl, rfl, hr, hz, hg⟩
    · cases h
  · cases h
theorem xs_l2 (hD : xv_ok D g) {o : Nat} (ho : o < 10) (h : xv_l2 D (o + 20) L S = some (L', S')) (hs : xr_s g φ S st) : L' = L ∧ ∃ (r : V) (S1 : List (xv_V V)) (x y z : Int64) (rest : List Value), S' = .inr (.inl r) :: S1 ∧ st = .long y :: .long x :: rest ∧ xr_s g φ S1 rest ∧ xv_semL o x y = some z ∧ g r (.long z) := by
  unfold xv_l2 at h
  split at h
  · rename_i b a S1
    obtain ⟨_, r1, rfl, ⟨y, rfl, hy⟩, _, r2, rfl, ⟨x, rfl, hx⟩, hr⟩ := hs
    split at h
    · rename_i r hr2
      obtain ⟨rfl, rfl⟩ := by simpa using h
      obtain ⟨z, hz, hg⟩ := hD.2.2.2.1 o a b r x y ho hr2 hx hy
      exact ⟨rfl, r, S1, x, y, z, r2, rfl, rfl, hr, hz, hg⟩
    · cases h
  · cases h
theorem xs_s2 {o : Nat} (h : xv_s2 D o L S = some (L', S')) (hs : xr_s g φ S st) : L' = L ∧ ∃ (a b r : V) (S1 : List (xv_V V)) (x : Int64) (y : Int32) (rest : List Value), S' = .inr (.inl r) :: S1 ∧ st = .int y :: .long x :: rest ∧ xr_s g φ S1 rest ∧ D.2.2.1 o a b = some r ∧ g a (.long x) ∧ g b (.int y) := by
  unfold xv_s2 at h
  split at h
  · rename_i b a S1
    obtain ⟨_, r1, rfl, ⟨y, rfl, hy⟩, _, r2, rfl, ⟨x, rfl, hx⟩, hr⟩ := hs
    split at h
    · rename_i r hr2
      obtain ⟨rfl, rfl⟩ := by simpa using h
      exact ⟨rfl, a, b, r, S1, x, y, r2, rfl, rfl, hr, hr2, hx, hy⟩
    · cases h
  · cases h
end XSP
end
section
section XSQ
variable {p : Program} {l : Launch} {e : Env} {R : Room} {s : State} {m : MethodId} {args : Array Value} {below : List Frame} {meth : Method} {c : Code} {H : Heap} {locs : List Loc} {cells slots : Nat} {Q : State → Prop}
variable {cc : ByteArray} {pc : Nat} {V : Type} {D : xv_D V} {g : V → Value → Prop} {φ : List Nat} {nL : Nat} {L L' : xv_L V} {S S' : List (xv_V V)} {ls : Array Slot} {st : List Value}
set_option maxHeartbeats 4000000 in
/-- THE INSTRUCTIONS OF LOCALS AND STACK -/
theorem xs_pure (hx : p.tables.exec = Jvm.exec) (hb : c.code = cc) {own : String} (hown : s.vm.findClass own = some m.cls) (hD : xv_ok D g) {K : xv_K}
    (hKi : ∀ (i : Nat) (v : Int32), xv_find K.2.2.2.1 i = some v → (Jvm.Cond.constant own i v).before args s = true) (hKl : ∀ (i : Nat) (v : Int64), xv_find K.2.2.2.2 i = some v → (Jvm.Cond.constantLong own i v).before args s = true)
    (hKs : ∀ (i n : Nat), xv_find K.2.2.1 i = some n → 2000 ≤ n → ∃ (tx : String) (q : Nat), vk_R own i tx q s ∧ φ[n - 2000]? = some q)
    {i : Instr} (h : xv_pure D K L S i = some (L', S')) (hdg : decode cc pc = .ok (i, xv_len i)) (hl : xr_l g φ L ls nL) (hs : xr_s g φ S st)
    (kk : ∀ (ls' : Array Slot) (st' : List Value), xr_l g φ L' ls' nL → xr_s g φ S' st' → W p l e R s m args below meth c H locs cells slots Q (F0 m (pc + xv_len i) ls' st')) :
    W p l e R s m args below meth c H locs cells slots Q (F0 m pc ls st) := by
  cases i
  all_goals (first | (simp only [xv_pure, reduceCtorEq] at h; done) | skip)

  case bipush n =>
    obtain ⟨rfl, rfl⟩ := by simpa [xv_pure] using h
    exact lv_bipush hx hb hdg rfl (kk _ _ hl ⟨_, _, rfl, ⟨_, rfl, hD.1 _⟩, hs⟩)
  case iconst n =>
    obtain ⟨rfl, rfl⟩ := by simpa [xv_pure] using h
    exact lv_iconst hx hb hdg rfl (kk _ _ hl ⟨_, _, rfl, ⟨_, rfl, hD.1 _⟩, hs⟩)
  case sipush n =>
    obtain ⟨rfl, rfl⟩ := by simpa [xv_pure] using h
    exact lv_sipush hx hb hdg rfl (kk _ _ hl ⟨_, _, rfl, ⟨_, rfl, hD.1 _⟩, hs⟩)
  case lconst n =>
    obtain ⟨rfl, rfl⟩ := by simpa [xv_pure] using h
    exact lv_lconst hx hb hdg rfl (kk _ _ hl ⟨_, _, rfl, ⟨_, rfl, hD.2.1 _⟩, hs⟩)
  case ldc n =>
    simp only [xv_pure] at h
    split at h
    · rename_i v hv
      obtain ⟨rfl, rfl⟩ := by simpa using h
      exact lv_ldc hx hb hown (hKi _ _ hv) hdg (kk _ _ hl ⟨_, _, rfl, ⟨_, rfl, hD.1 _⟩, hs⟩)
    · split at h
      · rename_i k hk
        cases h2 : Nat.ble 2000 k <;> simp only [h2, cond_true, cond_false] at h
        · cases h
        obtain ⟨rfl, rfl⟩ := by simpa using h
        obtain ⟨tx, q, hR, hq⟩ := hKs _ _ hk (Nat.le_of_ble_eq_true h2)
        exact va_ldcS hx hb hown hR hdg (kk _ _ hl ⟨_, _, rfl, ⟨q, hq, rfl⟩, hs⟩)
      · cases h
  case ldc2_w n =>
    simp only [xv_pure] at h
    split at h
    · rename_i v hv
      obtain ⟨rfl, rfl⟩ := by simpa using h
      exact lv_ldc2 hx hb hown (hKl _ _ hv) hdg (kk _ _ hl ⟨_, _, rfl, ⟨_, rfl, hD.2.1 _⟩, hs⟩)
    · cases h
  case iload_n k =>
    simp only [xv_pure] at h
    obtain ⟨rfl, v, x, rfl, h1, h2, hv⟩ := xs_ld h hl
    obtain ⟨a, rfl⟩ := hv.1 rfl
    obtain ⟨n, rfl, hn⟩ := h2
    exact lv_iload_n hx hb hdg rfl h1 (kk _ _ hl ⟨_, _, rfl, ⟨n, rfl, hn⟩, hs⟩)
  case iload k =>
    simp only [xv_pure] at h
    obtain ⟨rfl, v, x, rfl, h1, h2, hv⟩ := xs_ld h hl
    obtain ⟨a, rfl⟩ := hv.1 rfl
    obtain ⟨n, rfl, hn⟩ := h2
    exact lv_iload hx hb hdg h1 (kk _ _ hl ⟨_, _, rfl, ⟨n, rfl, hn⟩, hs⟩)
  case lload_n k =>
    simp only [xv_pure] at h
    obtain ⟨rfl, v, x, rfl, h1, h2, hv⟩ := xs_ld h hl
    obtain ⟨a, rfl⟩ := hv.2.1 rfl
    obtain ⟨n, rfl, hn⟩ := h2
    exact lv_lload_n hx hb hdg rfl h1 (kk _ _ hl ⟨_, _, rfl, ⟨n, rfl, hn⟩, hs⟩)
  case lload k =>
    simp only [xv_pure] at h
    obtain ⟨rfl, v, x, rfl, h1, h2, hv⟩ := xs_ld h hl
    obtain ⟨a, rfl⟩ := hv.2.1 rfl
    obtain ⟨n, rfl, hn⟩ := h2
    exact lv_lload hx hb hdg h1 (kk _ _ hl ⟨_, _, rfl, ⟨n, rfl, hn⟩, hs⟩)
  case aload_n k =>
    simp only [xv_pure] at h
    obtain ⟨rfl, v, x, rfl, h1, h2, hv⟩ := xs_ld h hl
    obtain ⟨a, rfl⟩ := hv.2.2 rfl
    obtain ⟨q, hq, rfl⟩ := h2
    exact lv_aload_n hx hb hdg rfl h1 (kk _ _ hl ⟨_, _, rfl, ⟨q, hq, rfl⟩, hs⟩)
  case aload k =>
    simp only [xv_pure] at h
    obtain ⟨rfl, v, x, rfl, h1, h2, hv⟩ := xs_ld h hl
    obtain ⟨a, rfl⟩ := hv.2.2 rfl
    obtain ⟨q, hq, rfl⟩ := h2
    exact lv_aload hx hb hdg h1 (kk _ _ hl ⟨_, _, rfl, ⟨q, hq, rfl⟩, hs⟩)
  case istore_n k =>
    simp only [xv_pure] at h
    obtain ⟨a, rfl, hi, rfl⟩ := xs_sto0 h
    obtain ⟨_, r, rfl, ⟨n, rfl, hn⟩, hr⟩ := hs
    obtain ⟨hL, lv, h1, h2⟩ := hl
    exact lv_istore_n hx hb hdg rfl h1 (by rw [← hL]; exact hi) rfl (fun ls' h3 => kk _ _ (xr_l_put1 hL h2 ⟨n, rfl, hn⟩ h3) hr)
  case istore k =>
    simp only [xv_pure] at h
    obtain ⟨a, rfl, hi, rfl⟩ := xs_sto0 h
    obtain ⟨_, r, rfl, ⟨n, rfl, hn⟩, hr⟩ := hs
    obtain ⟨hL, lv, h1, h2⟩ := hl
    exact lv_istore hx hb hdg h1 (by rw [← hL]; exact hi) rfl (fun ls' h3 => kk _ _ (xr_l_put1 hL h2 ⟨n, rfl, hn⟩ h3) hr)
  case lstore_n k =>
    simp only [xv_pure] at h
    obtain ⟨a, rfl, hi, rfl⟩ := xs_sto1 h
    obtain ⟨_, r, rfl, ⟨n, rfl, hn⟩, hr⟩ := hs
    obtain ⟨hL, lv, h1, h2⟩ := hl
    exact lv_lstore_n hx hb hdg rfl h1 (by rw [← hL]; exact hi) rfl (fun ls' h3 => kk _ _ (xr_l_put2 hL h2 ⟨n, rfl, hn⟩ h3) hr)
  case lstore k =>
    simp only [xv_pure] at h
    obtain ⟨a, rfl, hi, rfl⟩ := xs_sto1 h
    obtain ⟨_, r, rfl, ⟨n, rfl, hn⟩, hr⟩ := hs
    obtain ⟨hL, lv, h1, h2⟩ := hl
    exact lv_lstore hx hb hdg h1 (by rw [← hL]; exact hi) rfl (fun ls' h3 => kk _ _ (xr_l_put2 hL h2 ⟨n, rfl, hn⟩ h3) hr)
  case astore_n k =>
    simp only [xv_pure] at h
    obtain ⟨a, rfl, hi, rfl⟩ := xs_sto2 h
    obtain ⟨_, r, rfl, ⟨q, hq, rfl⟩, hr⟩ := hs
    obtain ⟨hL, lv, h1, h2⟩ := hl
    exact lv_astore_n hx hb hdg rfl h1 (by rw [← hL]; exact hi) rfl (fun ls' h3 => kk _ _ (xr_l_put1 hL h2 ⟨q, hq, rfl⟩ h3) hr)
  case astore k =>
    simp only [xv_pure] at h
    obtain ⟨a, rfl, hi, rfl⟩ := xs_sto2 h
    obtain ⟨_, r, rfl, ⟨q, hq, rfl⟩, hr⟩ := hs
    obtain ⟨hL, lv, h1, h2⟩ := hl
    exact lv_astore hx hb hdg h1 (by rw [← hL]; exact hi) rfl (fun ls' h3 => kk _ _ (xr_l_put1 hL h2 ⟨q, hq, rfl⟩ h3) hr)
  case iinc k n =>
    simp only [xv_pure] at h
    unfold xv_iinc at h
    split at h
    · rename_i a ha
      split at h
      · rename_i r hr
        obtain ⟨rfl, rfl⟩ := by simpa using h
        obtain ⟨hL, lv, h1, h2⟩ := hl
        obtain ⟨_, hm, n0, rfl, hn⟩ := h2 k _ ha
        obtain ⟨z, hz, hg⟩ := hD.2.2.1 0 _ _ _ n0 (Int32.ofInt n) (by decide) hr hn (hD.1 _)
        obtain rfl : n0 + Int32.ofInt n = z := by simpa [xv_semI] using hz
        obtain ⟨j, hj⟩ := List.getElem?_of_mem hm
        have hk : k < nL := by rw [← hL]; exact (List.getElem?_eq_some_iff.mp ha).1
        exact lv_iinc hx hb hdg h1 hj rfl hk rfl (fun ls' h3 => kk _ _ (xr_l_put1 hL h2 ⟨_, rfl, hg⟩ h3) hs)
      · cases h
    · cases h
  case iadd =>
    simp only [xv_pure] at h
    obtain ⟨rfl, r, S1, x, y, z, rest, rfl, rfl, hr, hz, hg⟩ := xs_i2 hD (by decide) h hs
    cases Option.some.inj hz
    exact lv_iadd hx hb hdg (kk _ _ hl ⟨_, _, rfl, ⟨_, rfl, hg⟩, hr⟩)
  case isub =>
    simp only [xv_pure] at h
    obtain ⟨rfl, r, S1, x, y, z, rest, rfl, rfl, hr, hz, hg⟩ := xs_i2 hD (by decide) h hs
    cases Option.some.inj hz
    exact lv_isub hx hb hdg (kk _ _ hl ⟨_, _, rfl, ⟨_, rfl, hg⟩, hr⟩)
  case imul =>
    simp only [xv_pure] at h
    obtain ⟨rfl, r, S1, x, y, z, rest, rfl, rfl, hr, hz, hg⟩ := xs_i2 hD (by decide) h hs
    cases Option.some.inj hz
    exact lv_imul hx hb hdg (kk _ _ hl ⟨_, _, rfl, ⟨_, rfl, hg⟩, hr⟩)
  case iand =>
    simp only [xv_pure] at h
    obtain ⟨rfl, r, S1, x, y, z, rest, rfl, rfl, hr, hz, hg⟩ := xs_i2 hD (by decide) h hs
    cases Option.some.inj hz
    exact lv_iand hx hb hdg (kk _ _ hl ⟨_, _, rfl, ⟨_, rfl, hg⟩, hr⟩)
  case ior =>
    simp only [xv_pure] at h
    obtain ⟨rfl, r, S1, x, y, z, rest, rfl, rfl, hr, hz, hg⟩ := xs_i2 hD (by decide) h hs
    cases Option.some.inj hz
    exact lv_ior hx hb hdg (kk _ _ hl ⟨_, _, rfl, ⟨_, rfl, hg⟩, hr⟩)
  case ishl =>
    simp only [xv_pure] at h
    obtain ⟨rfl, r, S1, x, y, z, rest, rfl, rfl, hr, hz, hg⟩ := xs_i2 hD (by decide) h hs
    cases Option.some.inj hz
    exact lv_ishl hx hb hdg (kk _ _ hl ⟨_, _, rfl, ⟨_, rfl, hg⟩, hr⟩)
  case ishr =>
    simp only [xv_pure] at h
    obtain ⟨rfl, r, S1, x, y, z, rest, rfl, rfl, hr, hz, hg⟩ := xs_i2 hD (by decide) h hs
    cases Option.some.inj hz
    exact lv_ishr hx hb hdg (kk _ _ hl ⟨_, _, rfl, ⟨_, rfl, hg⟩, hr⟩)
  case iushr =>
    simp only [xv_pure] at h
    obtain ⟨rfl, r, S1, x, y, z, rest, rfl, rfl, hr, hz, hg⟩ := xs_i2 hD (by decide) h hs
    cases Option.some.inj hz
    exact lv_iushr hx hb hdg rfl (kk _ _ hl ⟨_, _, rfl, ⟨_, rfl, hg⟩, hr⟩)
  case idiv =>
    simp only [xv_pure] at h
    obtain ⟨rfl, r, S1, x, y, z, rest, rfl, rfl, hr, hz, hg⟩ := xs_i2 hD (by decide) h hs
    by_cases hy : y = 0
    · simp [xv_semI, hy] at hz
    · simp [xv_semI, hy] at hz
      subst hz
      exact lv_idiv hx hb hdg hy (kk _ _ hl ⟨_, _, rfl, ⟨_, rfl, hg⟩, hr⟩)
  case irem =>
    simp only [xv_pure] at h
    obtain ⟨rfl, r, S1, x, y, z, rest, rfl, rfl, hr, hz, hg⟩ := xs_i2 hD (by decide) h hs
    by_cases hy : y = 0
    · simp [xv_semI, hy] at hz
    · simp [xv_semI, hy] at hz
      subst hz
      exact lv_irem hx hb hdg hy (kk _ _ hl ⟨_, _, rfl, ⟨_, rfl, hg⟩, hr⟩)
  case ladd =>
    simp only [xv_pure] at h
    obtain ⟨rfl, r, S1, x, y, z, rest, rfl, rfl, hr, hz, hg⟩ := xs_l2 (o := 0) hD (by decide) h hs
    cases Option.some.inj hz
    exact lv_ladd hx hb hdg (kk _ _ hl ⟨_, _, rfl, ⟨_, rfl, hg⟩, hr⟩)
  case lsub =>
    simp only [xv_pure] at h
    obtain ⟨rfl, r, S1, x, y, z, rest, rfl, rfl, hr, hz, hg⟩ := xs_l2 (o := 1) hD (by decide) h hs
    cases Option.some.inj hz
    exact lv_lsub hx hb hdg (kk _ _ hl ⟨_, _, rfl, ⟨_, rfl, hg⟩, hr⟩)
  case lmul =>
    simp only [xv_pure] at h
    obtain ⟨rfl, r, S1, x, y, z, rest, rfl, rfl, hr, hz, hg⟩ := xs_l2 (o := 2) hD (by decide) h hs
    cases Option.some.inj hz
    exact lv_lmul hx hb hdg (kk _ _ hl ⟨_, _, rfl, ⟨_, rfl, hg⟩, hr⟩)
  case land =>
    simp only [xv_pure] at h
    obtain ⟨rfl, r, S1, x, y, z, rest, rfl, rfl, hr, hz, hg⟩ := xs_l2 (o := 3) hD (by decide) h hs
    cases Option.some.inj hz
    exact lv_land hx hb hdg (kk _ _ hl ⟨_, _, rfl, ⟨_, rfl, hg⟩, hr⟩)
  case lor =>
    simp only [xv_pure] at h
    obtain ⟨rfl, r, S1, x, y, z, rest, rfl, rfl, hr, hz, hg⟩ := xs_l2 (o := 4) hD (by decide) h hs
    cases Option.some.inj hz
    exact lv_lor hx hb hdg (kk _ _ hl ⟨_, _, rfl, ⟨_, rfl, hg⟩, hr⟩)
  case ldiv =>
    simp only [xv_pure] at h
    obtain ⟨rfl, r, S1, x, y, z, rest, rfl, rfl, hr, hz, hg⟩ := xs_l2 (o := 5) hD (by decide) h hs
    by_cases hy : y = 0
    · simp [xv_semL, hy] at hz
    · simp [xv_semL, hy] at hz
      subst hz
      exact lv_ldiv hx hb hdg hy (kk _ _ hl ⟨_, _, rfl, ⟨_, rfl, hg⟩, hr⟩)
  case lrem =>
    simp only [xv_pure] at h
    obtain ⟨rfl, r, S1, x, y, z, rest, rfl, rfl, hr, hz, hg⟩ := xs_l2 (o := 6) hD (by decide) h hs
    by_cases hy : y = 0
    · simp [xv_semL, hy] at hz
    · simp [xv_semL, hy] at hz
      subst hz
      exact lv_lrem hx hb hdg hy (kk _ _ hl ⟨_, _, rfl, ⟨_, rfl, hg⟩, hr⟩)
  case ineg =>
    simp only [xv_pure] at h
    split at h
    · rename_i a S1
      obtain ⟨_, r1, rfl, ⟨x, rfl, hx1⟩, hr⟩ := hs
      split at h
      · rename_i r hr2
        obtain ⟨rfl, rfl⟩ := by simpa using h
        obtain ⟨z, hz, hg⟩ := hD.2.2.1 10 a a r x x (by decide) hr2 hx1 hx1
        cases Option.some.inj hz
        exact lv_ineg hx hb hdg (kk _ _ hl ⟨_, _, rfl, ⟨_, rfl, hg⟩, hr⟩)
      · cases h
    · cases h
  case lneg =>
    simp only [xv_pure] at h
    split at h
    · rename_i a S1
      obtain ⟨_, r1, rfl, ⟨x, rfl, hx1⟩, hr⟩ := hs
      split at h
      · rename_i r hr2
        obtain ⟨rfl, rfl⟩ := by simpa using h
        obtain ⟨z, hz, hg⟩ := hD.2.2.2.1 7 a a r x x (by decide) hr2 hx1 hx1
        cases Option.some.inj hz
        exact lv_lneg hx hb hdg (kk _ _ hl ⟨_, _, rfl, ⟨_, rfl, hg⟩, hr⟩)
      · cases h
    · cases h
  case lshl =>
    simp only [xv_pure] at h
    obtain ⟨rfl, a, b, r, S1, x, y, rest, rfl, rfl, hr, hz, hga, hgb⟩ := xs_s2 h hs
    exact lv_lshl hx hb hdg rfl (kk _ _ hl ⟨_, _, rfl, ⟨_, rfl, hD.2.2.2.2.1 _ _ _ _ _ hz hga hgb⟩, hr⟩)
  case lshr =>
    simp only [xv_pure] at h
    obtain ⟨rfl, a, b, r, S1, x, y, rest, rfl, rfl, hr, hz, hga, hgb⟩ := xs_s2 h hs
    exact lv_lshr hx hb hdg rfl (kk _ _ hl ⟨_, _, rfl, ⟨_, rfl, hD.2.2.2.2.2.1 _ _ _ _ _ hz hga hgb⟩, hr⟩)
  case i2l =>
    simp only [xv_pure] at h
    split at h
    · rename_i a S1
      obtain ⟨_, r1, rfl, ⟨x, rfl, hx1⟩, hr⟩ := hs
      split at h
      · rename_i r hr2
        obtain ⟨rfl, rfl⟩ := by simpa using h
        exact lv_i2l hx hb hdg rfl (kk _ _ hl ⟨_, _, rfl, ⟨_, rfl, hD.2.2.2.2.2.2.1 _ _ _ _ hr2 hx1⟩, hr⟩)
      · cases h
    · cases h
  case l2i =>
    simp only [xv_pure] at h
    split at h
    · rename_i a S1
      obtain ⟨_, r1, rfl, ⟨x, rfl, hx1⟩, hr⟩ := hs
      split at h
      · rename_i r hr2
        obtain ⟨rfl, rfl⟩ := by simpa using h
        exact lv_l2i hx hb hdg rfl (kk _ _ hl ⟨_, _, rfl, ⟨_, rfl, hD.2.2.2.2.2.2.2.1 _ _ _ _ hr2 hx1⟩, hr⟩)
      · cases h
    · cases h
  case lcmp =>
    simp only [xv_pure] at h
    split at h
    · rename_i b a S1
      obtain ⟨_, r1, rfl, ⟨y, rfl, hy1⟩, _, r2, rfl, ⟨x, rfl, hx1⟩, hr⟩ := hs
      split at h
      · rename_i r hr2
        obtain ⟨rfl, rfl⟩ := by simpa using h
        exact W.lcmp hx hb hdg (kk _ _ hl ⟨_, _, rfl, ⟨_, rfl, hD.2.2.2.2.2.2.2.2.1 _ _ _ _ _ hr2 hx1 hy1⟩, hr⟩)
      · cases h
    · cases h
  case dup =>
    simp only [xv_pure] at h
    split at h
    · rename_i v S1
      obtain ⟨x, r1, rfl, hv, hr⟩ := hs
      cases hc : Nat.beq (xv_cat v) 1 <;> simp [hc] at h
      obtain ⟨rfl, rfl⟩ := h
      exact lv_dup hx hb hdg ((xr_v_cat hv).trans (Nat.eq_of_beq_eq_true hc)) (kk _ _ hl ⟨_, _, rfl, hv, _, _, rfl, hv, hr⟩)
    · cases h
  case pop =>
    simp only [xv_pure] at h
    split at h
    · rename_i v S1
      obtain ⟨x, r1, rfl, hv, hr⟩ := hs
      cases hc : Nat.beq (xv_cat v) 1 <;> simp [hc] at h
      obtain ⟨rfl, rfl⟩ := h
      exact lv_pop hx hb hdg ((xr_v_cat hv).trans (Nat.eq_of_beq_eq_true hc)) (kk _ _ hl hr)
    · cases h
  case dup2 =>
    simp only [xv_pure] at h
    split at h
    · rename_i v w S1
      obtain ⟨x, r1, rfl, hv, y, r2, rfl, hw, hr⟩ := hs
      cases hc : Nat.beq (xv_cat v) 1 <;> simp [hc] at h
      cases hd : Nat.beq (xv_cat w) 1 <;> simp [hd] at h
      obtain ⟨rfl, rfl⟩ := h
      exact lv_dup2_11 hx hb hdg ((xr_v_cat hv).trans (Nat.eq_of_beq_eq_true hc)) ((xr_v_cat hw).trans (Nat.eq_of_beq_eq_true hd)) (kk _ _ hl ⟨_, _, rfl, hv, _, _, rfl, hw, _, _, rfl, hv, _, _, rfl, hw, hr⟩)
    · cases h
end XSQ
end
section
/-- a switch: its length is its own -/
def xv_sw : Instr → Bool
  | .tableswitch _ _ _ _ => true
  | .lookupswitch _ _ => true
  | _ => false
theorem xs_tgt {pc t : Nat} {off : Int} (h : xv_tgt pc off = some t) : (pc : Int) + off = (t : Int) := by
  unfold xv_tgt at h
  split at h
  · rename_i k hk
    rw [hk]
    cases h
    rfl
  · cases h
section XSB
variable {p : Program} {l : Launch} {e : Env} {R : Room} {s : State} {m : MethodId} {args : Array Value} {below : List Frame} {meth : Method} {c : Code} {H : Heap} {locs : List Loc} {cells slots : Nat} {Q : State → Prop}
variable {cc : ByteArray} {pc : Nat} {V : Type} {D : xv_D V} {g : V → Value → Prop} {φ : List Nat} {S S' : List (xv_V V)} {ls : Array Slot} {st : List Value}
theorem xs_cmp2 (hD : xv_ok D g) {o t : Nat} {off : Int} (h : xv_cmp2 D o pc off S = some (t, S')) (hs : xr_s g φ S st) : ∃ (x y : Int32) (rest : List Value) (tgt : Nat), st = .int y :: .int x :: rest ∧ xr_s g φ S' rest ∧ (pc : Int) + off = (tgt : Int) ∧ ((xv_cmp o x y = true ∧ t = tgt) ∨ (xv_cmp o x y = false ∧ t = pc + 3)) := by
  unfold xv_cmp2 at h
  split at h
  · rename_i b a S1
    obtain ⟨_, r1, rfl, ⟨y, rfl, hy⟩, _, r2, rfl, ⟨x, rfl, hx⟩, hr⟩ := hs
    split at h
    · rename_i r t' hc ht
      have h1 := hD.2.2.2.2.2.2.2.2.2.1 _ _ _ _ _ _ hc hx hy
      cases r
      · obtain ⟨rfl, rfl⟩ := by simpa using h
        exact ⟨x, y, r2, t', rfl, hr, xs_tgt ht, Or.inr ⟨h1, rfl⟩⟩
      · obtain ⟨rfl, rfl⟩ := by simpa using h
        exact ⟨x, y, r2, _, rfl, hr, xs_tgt ht, Or.inl ⟨h1, rfl⟩⟩
    · cases h
  · cases h
theorem xs_cmp1 (hD : xv_ok D g) {o t : Nat} {off : Int} (h : xv_cmp1 D o pc off S = some (t, S')) (hs : xr_s g φ S st) : ∃ (x : Int32) (rest : List Value) (tgt : Nat), st = .int x :: rest ∧ xr_s g φ S' rest ∧ (pc : Int) + off = (tgt : Int) ∧ ((xv_cmp o x 0 = true ∧ t = tgt) ∨ (xv_cmp o x 0 = false ∧ t = pc + 3)) := by
  unfold xv_cmp1 at h
  split at h
  · rename_i a S1
    obtain ⟨_, r2, rfl, ⟨x, rfl, hx⟩, hr⟩ := hs
    split at h
    · rename_i r t' hc ht
      have h1 := hD.2.2.2.2.2.2.2.2.2.1 _ _ _ _ _ _ hc hx (hD.1 0)
      cases r
      · obtain ⟨rfl, rfl⟩ := by simpa using h
        exact ⟨x, r2, t', rfl, hr, xs_tgt ht, Or.inr ⟨h1, rfl⟩⟩
      · obtain ⟨rfl, rfl⟩ := by simpa using h
        exact ⟨x, r2, _, rfl, hr, xs_tgt ht, Or.inl ⟨h1, rfl⟩⟩
    · cases h
  · cases h

set_option maxHeartbeats 4000000 in
/-- JUMPS -/
theorem xs_br (hx : p.tables.exec = Jvm.exec) (hb : c.code = cc) (hD : xv_ok D g) {i : Instr} {t len : Nat} (h : xv_br D pc S i = some (t, S')) (hdg : decode cc pc = .ok (i, len)) (hlen : xv_sw i = true ∨ len = xv_len i) (hs : xr_s g φ S st)
    (kk : ∀ st' : List Value, xr_s g φ S' st' → W p l e R s m args below meth c H locs cells slots Q (F0 m t ls st')) :
    W p l e R s m args below meth c H locs cells slots Q (F0 m pc ls st) := by
  cases i
  all_goals (first | (simp only [xv_br, reduceCtorEq] at h; done) | skip)
  case goto off =>
    obtain rfl : len = 3 := by simpa [xv_sw, xv_len] using hlen
    simp only [xv_br] at h
    split at h
    · rename_i t' ht
      obtain ⟨rfl, rfl⟩ := by simpa using h
      exact lv_goto hx hb hdg (xs_tgt ht) (kk _ hs)
    · cases h
  case if_icmp cd off =>
    obtain rfl : len = 3 := by simpa [xv_sw, xv_len] using hlen
    cases cd
    case eq =>
      simp only [xv_br] at h
      obtain ⟨x, y, rest, tgt, rfl, hr, ht, hc⟩ := xs_cmp2 hD h hs
      refine lv_icmp_eq hx hb hdg ht (fun q => ?_) (fun q => ?_)
      · rcases hc with ⟨hc, rfl⟩ | ⟨hc, rfl⟩
        · exact kk _ hr
        · exact absurd hc (by simp [xv_cmp, q])
      · rcases hc with ⟨hc, rfl⟩ | ⟨hc, rfl⟩
        · exact absurd hc (by simp [xv_cmp, q])
        · exact kk _ hr
    case ne =>
      simp only [xv_br] at h
      obtain ⟨x, y, rest, tgt, rfl, hr, ht, hc⟩ := xs_cmp2 hD h hs
      refine lv_icmp_ne hx hb hdg ht (fun q => ?_) (fun q => ?_)
      · rcases hc with ⟨hc, rfl⟩ | ⟨hc, rfl⟩
        · exact kk _ hr
        · exact absurd hc (by simp [xv_cmp, q])
      · rcases hc with ⟨hc, rfl⟩ | ⟨hc, rfl⟩
        · exact absurd hc (by simp [xv_cmp, q])
        · exact kk _ hr
    case lt =>
      simp only [xv_br] at h
      obtain ⟨x, y, rest, tgt, rfl, hr, ht, hc⟩ := xs_cmp2 hD h hs
      refine lv_icmp_lt hx hb hdg ht (fun q => ?_) (fun q => ?_)
      · rcases hc with ⟨hc, rfl⟩ | ⟨hc, rfl⟩
        · exact kk _ hr
        · exact absurd hc (by simp [xv_cmp, q])
      · rcases hc with ⟨hc, rfl⟩ | ⟨hc, rfl⟩
        · exact absurd hc (by simp [xv_cmp, q])
        · exact kk _ hr
    case ge =>
      simp only [xv_br] at h
      obtain ⟨x, y, rest, tgt, rfl, hr, ht, hc⟩ := xs_cmp2 hD h hs
      refine lv_icmp_ge hx hb hdg ht (fun q => ?_) (fun q => ?_)
      · rcases hc with ⟨hc, rfl⟩ | ⟨hc, rfl⟩
        · exact kk _ hr
        · exact absurd hc (by simp [xv_cmp, q])
      · rcases hc with ⟨hc, rfl⟩ | ⟨hc, rfl⟩
        · exact absurd hc (by simp [xv_cmp, q])
        · exact kk _ hr
    case gt =>
      simp only [xv_br] at h
      obtain ⟨x, y, rest, tgt, rfl, hr, ht, hc⟩ := xs_cmp2 hD h hs
      refine lv_icmp_gt hx hb hdg ht (fun q => ?_) (fun q => ?_)
      · rcases hc with ⟨hc, rfl⟩ | ⟨hc, rfl⟩
        · exact kk _ hr
        · exact absurd hc (by simp [xv_cmp, q])
      · rcases hc with ⟨hc, rfl⟩ | ⟨hc, rfl⟩
        · exact absurd hc (by simp [xv_cmp, q])
        · exact kk _ hr
    case le =>
      simp only [xv_br] at h
      obtain ⟨x, y, rest, tgt, rfl, hr, ht, hc⟩ := xs_cmp2 hD h hs
      refine lv_icmp_le hx hb hdg ht (fun q => ?_) (fun q => ?_)
      · rcases hc with ⟨hc, rfl⟩ | ⟨hc, rfl⟩
        · exact kk _ hr
        · exact absurd hc (by simp [xv_cmp, q])
      · rcases hc with ⟨hc, rfl⟩ | ⟨hc, rfl⟩
        · exact absurd hc (by simp [xv_cmp, q])
        · exact kk _ hr
  case ifCond cd off =>
    obtain rfl : len = 3 := by simpa [xv_sw, xv_len] using hlen
    cases cd
    case eq =>
      simp only [xv_br] at h
      obtain ⟨x, rest, tgt, rfl, hr, ht, hc⟩ := xs_cmp1 hD h hs
      refine lv_if_eq hx hb hdg ht (fun q => ?_) (fun q => ?_)
      · rcases hc with ⟨hc, rfl⟩ | ⟨hc, rfl⟩
        · exact kk _ hr
        · exact absurd hc (by simp [xv_cmp, q])
      · rcases hc with ⟨hc, rfl⟩ | ⟨hc, rfl⟩
        · exact absurd hc (by simp [xv_cmp, q])
        · exact kk _ hr
    case ne =>
      simp only [xv_br] at h
      obtain ⟨x, rest, tgt, rfl, hr, ht, hc⟩ := xs_cmp1 hD h hs
      refine lv_if_ne hx hb hdg ht (fun q => ?_) (fun q => ?_)
      · rcases hc with ⟨hc, rfl⟩ | ⟨hc, rfl⟩
        · exact kk _ hr
        · exact absurd hc (by simp [xv_cmp, q])
      · rcases hc with ⟨hc, rfl⟩ | ⟨hc, rfl⟩
        · exact absurd hc (by simp [xv_cmp, q])
        · exact kk _ hr
    case lt =>
      simp only [xv_br] at h
      obtain ⟨x, rest, tgt, rfl, hr, ht, hc⟩ := xs_cmp1 hD h hs
      refine lv_if_lt hx hb hdg ht (fun q => ?_) (fun q => ?_)
      · rcases hc with ⟨hc, rfl⟩ | ⟨hc, rfl⟩
        · exact kk _ hr
        · exact absurd hc (by simp [xv_cmp, q])
      · rcases hc with ⟨hc, rfl⟩ | ⟨hc, rfl⟩
        · exact absurd hc (by simp [xv_cmp, q])
        · exact kk _ hr
    case ge =>
      simp only [xv_br] at h
      obtain ⟨x, rest, tgt, rfl, hr, ht, hc⟩ := xs_cmp1 hD h hs
      refine lv_if_ge hx hb hdg ht (fun q => ?_) (fun q => ?_)
      · rcases hc with ⟨hc, rfl⟩ | ⟨hc, rfl⟩
        · exact kk _ hr
        · exact absurd hc (by simp [xv_cmp, q])
      · rcases hc with ⟨hc, rfl⟩ | ⟨hc, rfl⟩
        · exact absurd hc (by simp [xv_cmp, q])
        · exact kk _ hr
    case gt =>
      simp only [xv_br] at h
      obtain ⟨x, rest, tgt, rfl, hr, ht, hc⟩ := xs_cmp1 hD h hs
      refine lv_if_gt hx hb hdg ht (fun q => ?_) (fun q => ?_)
      · rcases hc with ⟨hc, rfl⟩ | ⟨hc, rfl⟩
        · exact kk _ hr
        · exact absurd hc (by simp [xv_cmp, q])
      · rcases hc with ⟨hc, rfl⟩ | ⟨hc, rfl⟩
        · exact absurd hc (by simp [xv_cmp, q])
        · exact kk _ hr
    case le =>
      simp only [xv_br] at h
      obtain ⟨x, rest, tgt, rfl, hr, ht, hc⟩ := xs_cmp1 hD h hs
      refine lv_if_le hx hb hdg ht (fun q => ?_) (fun q => ?_)
      · rcases hc with ⟨hc, rfl⟩ | ⟨hc, rfl⟩
        · exact kk _ hr
        · exact absurd hc (by simp [xv_cmp, q])
      · rcases hc with ⟨hc, rfl⟩ | ⟨hc, rfl⟩
        · exact absurd hc (by simp [xv_cmp, q])
        · exact kk _ hr
  case tableswitch dflt lo hi offs =>
    simp only [xv_br] at h
    split at h
    · rename_i a S1
      obtain ⟨_, r2, rfl, ⟨x, rfl, hx1⟩, hr⟩ := hs
      split at h
      · rename_i n hn
        have hxn := hD.2.2.2.2.2.2.2.2.2.2.1 _ _ _ hn hx1
        unfold xv_tab at h
        split at h
        · rename_i hout
          split at h
          · rename_i t' ht
            obtain ⟨rfl, rfl⟩ := by simpa using h
            exact lv_tableOut hx hb hdg (by rw [hxn]; exact hout) (xs_tgt ht) (kk _ hr)
          · cases h
        · rename_i hin
          split at h
          · rename_i off ho
            split at h
            · rename_i t' ht
              obtain ⟨rfl, rfl⟩ := by simpa using h
              exact lv_tableIn hx hb hdg (by rw [hxn]; exact fun q => hin (Or.inl q)) (by rw [hxn]; exact fun q => hin (Or.inr q)) (by rw [hxn]; exact ho) (xs_tgt ht) (kk _ hr)
            · cases h
          · cases h
      · cases h
    · cases h
  case lookupswitch dflt ps =>
    simp only [xv_br] at h
    split at h
    · rename_i a S1
      obtain ⟨_, r2, rfl, ⟨x, rfl, hx1⟩, hr⟩ := hs
      split at h
      · rename_i n hn
        have hxn := hD.2.2.2.2.2.2.2.2.2.2.1 _ _ _ hn hx1
        cases hp : (ps.toList.zip (ps.toList.drop 1)).all (fun q => decide (q.1.1 < q.2.1)) <;> simp only [hp, cond_true, cond_false] at h
        · cases h
        · split at h
          · rename_i t' ht
            obtain ⟨rfl, rfl⟩ := by simpa using h
            exact lv_lookup hx hb hdg hp (by rw [hxn]) (xs_tgt ht) (kk _ hr)
          · cases h
      · cases h
    · cases h
end XSB
end
section
/-- a type that a field here may have -/
def xv_tyok : FieldType → Bool
  | .int => true
  | .boolean => true
  | .long => true
  | .object _ => true
  | .array _ => true
  | _ => false
def xc_cls (tb : List Jvm.Cond) (cl : List vw_C) (ct : List (List (FieldType × Bool))) : Prop := ∀ (ci : Nat) (fs : List (FieldType × Bool)), ct[ci]? = some fs → ∃ (C : String) (T : u_T), cl[ci]? = some (C, T, fs.length) ∧ (∀ w ∈ u_ws C T fs.length, w ∈ tb) ∧
  (∀ (k : Nat) (f : FieldType × Bool), fs[k]? = some f → parseFieldDescriptor (T k).2.2.1 = some f.1 ∧ (T k).2.2.2 = f.2 ∧ (T k).1 = C ∧ xv_tyok f.1 = true) ∧ (∀ a, a < fs.length → ∀ b, b < fs.length → a ≠ b → (T a).2.1 ≠ (T b).2.1) ∧ Jvm.Cond.instantiable C fs.length ∈ tb ∧ Jvm.Cond.initialized C ∈ tb
def xc_fld (tb : List Jvm.Cond) (cl : List vw_C) (ct : List (List (FieldType × Bool))) (own : String) (K : xv_K) : Prop := ∀ (i : Nat) (ck : Nat × Nat), xv_find K.1 i = some ck → ∃ (fs : List (FieldType × Bool)) (f : FieldType × Bool) (C : String) (T : u_T), ct[ck.1]? = some fs ∧ fs[ck.2]? = some f ∧ cl[ck.1]? = some (C, T, fs.length) ∧ Jvm.Cond.fieldLink own i (T ck.2).1 (T ck.2).2.1 (T ck.2).2.2.1 ∈ tb
def xc_new (tb : List Jvm.Cond) (cl : List vw_C) (at_ : List Nat) (own : String) (K : xv_K) : Prop := ∀ (i ci : Nat), xv_find K.2.2.1 i = some ci →
  (ci < 1000 → ∃ (C : String) (T : u_T) (N : Nat), cl[ci]? = some (C, T, N) ∧ Jvm.Cond.classLink own i C ∈ tb) ∧ (1000 ≤ ci → ci < 1003 → ∃ (cj : Nat) (C : String) (T : u_T) (N : Nat), at_[ci - 1000]? = some cj ∧ cl[cj]? = some (C, T, N) ∧ Jvm.Cond.classLink own (i - 70000) C ∈ tb)
def xc_tys (cl : List vw_C) (at_ : List Nat) (tys : List (ClassId × FieldType)) : Prop := (∃ c0, tys[0]? = some (c0, .int)) ∧ (∃ c0, tys[1]? = some (c0, .long)) ∧ (∃ c0, tys[2]? = some (c0, .boolean)) ∧
  (∀ (n cj : Nat) (C : String) (T : u_T) (N : Nat), at_[n]? = some cj → cl[cj]? = some (C, T, N) → ∃ cA, tys[4 + n]? = some (cA, .object C)) ∧ ∀ (k : Nat) (q : ClassId × FieldType), 4 ≤ k → tys[k]? = some q → ∃ C, q.2 = .object C
def xc_ao (cl : List vw_C) (at_ : List Nat) (U : State) : Prop := ∀ (n cj : Nat) (C : String) (T : u_T) (N : Nat), at_[n]? = some cj → cl[cj]? = some (C, T, N) → va_AO C U
def xc_arr (tb : List Jvm.Cond) : Prop := Jvm.Cond.arrayClass .int ∈ tb ∧ Jvm.Cond.arrayClass .long ∈ tb ∧ Jvm.Cond.arrayClass .boolean ∈ tb
/-- a class by its number: all that is known of it -/
theorem xc_at {tb : List Jvm.Cond} {cl : List vw_C} {ct : List (List (FieldType × Bool))} (hC : xc_cls tb cl ct) {ci : Nat} {fs : List (FieldType × Bool)} {C : String} {T : u_T} {N : Nat} (h1 : ct[ci]? = some fs) (h2 : cl[ci]? = some (C, T, N)) : N = fs.length ∧ (∀ w ∈ u_ws C T N, w ∈ tb) ∧
    (∀ (k : Nat) (f : FieldType × Bool), fs[k]? = some f → parseFieldDescriptor (T k).2.2.1 = some f.1 ∧ (T k).2.2.2 = f.2 ∧ (T k).1 = C ∧ xv_tyok f.1 = true) ∧ (∀ a, a < N → ∀ b, b < N → a ≠ b → (T a).2.1 ≠ (T b).2.1) ∧ Jvm.Cond.instantiable C N ∈ tb ∧ Jvm.Cond.initialized C ∈ tb := by
  obtain ⟨C2, T2, hcl2, hu, hf, hn, hi, hj⟩ := hC ci fs h1
  have e2 : (C2, T2, fs.length) = (C, T, N) := Option.some.inj (hcl2.symm.trans h2)
  obtain ⟨rfl, e3⟩ := Prod.mk.inj e2
  obtain ⟨rfl, rfl⟩ := Prod.mk.inj e3
  exact ⟨rfl, hu, hf, hn, hi, hj⟩
section XSM
variable {V : Type} {C : Nat → xv_O V → Prop} {D : xv_D V} {g : V → Value → Prop} {φ : List Nat} {tys : List (ClassId × FieldType)} {M : xv_M V} {ws : va_W}
theorem xr_e_mono {t : List Nat} {o : xv_O V} {E : va_E} (h : xr_e g φ tys o E) : xr_e g (φ ++ t) tys o E := by
  rcases h with ⟨h8, fs, e, hl, h⟩ | ⟨cA, ty, ht, h | h | h⟩
  · exact Or.inl ⟨h8, fs, e, hl, fun j v hv => (h j v hv).imp fun x hx => ⟨hx.1, xr_v_mono hx.2⟩⟩
  · obtain ⟨h0, f, e, h⟩ := h
    exact Or.inr ⟨cA, ty, ht, Or.inl ⟨h0, f, e, fun j v hv => xr_v_mono (h j v hv)⟩⟩
  · obtain ⟨h0, f, e, h⟩ := h
    exact Or.inr ⟨cA, ty, ht, Or.inr (Or.inl ⟨h0, f, e, fun j v hv => xr_v_mono (h j v hv)⟩)⟩
  · obtain ⟨h0, f, e, h⟩ := h
    exact Or.inr ⟨cA, ty, ht, Or.inr (Or.inr ⟨h0, f, e, fun j v hv => xr_v_mono (h j v hv)⟩)⟩
/-- a place of a list is set -/
theorem xr_set {α : Type} {xs : List α} {k j : Nat} {v w : α} (h : (xs.set k v)[j]? = some w) : (j = k ∧ w = v) ∨ (j ≠ k ∧ xs[j]? = some w) := by
  rw [List.getElem?_set] at h
  split at h
  · rename_i e
    split at h
    · exact Or.inl ⟨e.symm, (Option.some.inj h).symm⟩
    · cases h
  · rename_i hne
    exact Or.inr ⟨fun q => hne q.symm, h⟩
theorem xr_e_tag {o : xv_O V} {E : va_E} (h : xr_e g φ tys o E) : o.1 ≠ 3 := by
  rcases h with ⟨h8, -⟩ | ⟨cA, ty, ht, h | h | h⟩
  · omega
  · obtain ⟨h0, -⟩ := h
    omega
  · obtain ⟨h0, -⟩ := h
    omega
  · obtain ⟨h0, -⟩ := h
    omega
theorem xr_m_len (h : xr_m C g φ tys M ws) : M.length = φ.length := by
  obtain ⟨pre, -, h2, -⟩ := h
  exact h2
theorem xr_m_cst (h : xr_m C g φ tys M ws) {k : Nat} {o : xv_O V} (hk : M[k]? = some o) (h3 : o.1 = 3) : C k o := by
  obtain ⟨pre, -, -, -, h4⟩ := h
  exact h4 k o hk h3
theorem xr_m_at (h : xr_m C g φ tys M ws) {k q : Nat} {o : xv_O V} (hk : M[k]? = some o) (hq : φ[k]? = some q) (h7 : o.1 ≠ 7) (h3 : o.1 ≠ 3) : ∃ (a : Nat) (E : va_E), ws[a]? = some (q, E) ∧ xr_e g φ tys o E ∧ ∀ (o' : xv_O V) (E' : va_E), xr_e g φ tys o' E' → xr_m C g φ tys (M.set k o') (ws.set a (q, E')) := by
  obtain ⟨pre, h1, h2, h4, h5⟩ := h
  obtain ⟨hle, q', E, e1, e2⟩ := h4 k o hk h7 h3
  have hqq : φ[k]? = some q' := by rw [← h1, List.getElem?_append_right hle, List.getElem?_map, e1]; rfl
  rw [hq] at hqq
  cases Option.some.inj hqq
  refine ⟨k - pre.length, E, e1, e2, fun o' E' he => ⟨pre, ?_, by rw [List.length_set]; exact h2, fun j o2 hj h72 h32 => ?_, fun j o2 hj h32 => ?_⟩⟩
  · rw [← h1]
    congr 1
    apply List.ext_getElem?
    intro j
    rw [List.getElem?_map, List.getElem?_map, List.getElem?_set]
    split
    · rename_i e
      subst e
      rw [if_pos (List.getElem?_eq_some_iff.mp e1).1, e1]
      rfl
    · rfl
  · rw [List.getElem?_set] at hj
    split at hj
    · rename_i e
      subst e
      rw [if_pos (List.getElem?_eq_some_iff.mp hk).1] at hj
      cases Option.some.inj hj
      exact ⟨hle, q, E', by rw [List.getElem?_set, if_pos rfl, if_pos (List.getElem?_eq_some_iff.mp e1).1], he⟩
    · rename_i hne
      obtain ⟨l1, q1, E1, f1, f2⟩ := h4 j o2 hj h72 h32
      exact ⟨l1, q1, E1, by rw [List.getElem?_set, if_neg (by omega)]; exact f1, f2⟩
  · rcases xr_set hj with ⟨rfl, rfl⟩ | ⟨hne, hj⟩
    · exact absurd h32 (xr_e_tag he)
    · exact h5 j o2 hj h32
theorem xr_m_push (h : xr_m C g φ tys M ws) {q : Nat} {o' : xv_O V} {E' : va_E} (he : xr_e g (φ ++ [q]) tys o' E') : xr_m C g (φ ++ [q]) tys (M ++ [o']) (ws ++ [(q, E')]) := by
  obtain ⟨pre, h1, h2, h4, h5⟩ := h
  have hl0 : φ.length = pre.length + ws.length := by rw [← h1, List.length_append, List.length_map]
  refine ⟨pre, by rw [List.map_append, ← List.append_assoc, h1]; rfl, by simp [h2], fun j o hj h7 h3 => ?_, fun j o hj h3 => ?_⟩
  · by_cases hl : j < M.length
    · rw [List.getElem?_append_left hl] at hj
      obtain ⟨l1, q', E1, e1, e2⟩ := h4 j o hj h7 h3
      exact ⟨l1, q', E1, by rw [List.getElem?_append_left (List.getElem?_eq_some_iff.mp e1).1]; exact e1, xr_e_mono e2⟩
    · rw [List.getElem?_append_right (by omega)] at hj
      have hz : j - M.length < 1 := (List.getElem?_eq_some_iff.mp hj).1
      have hj0 : j - M.length = 0 := by omega
      rw [hj0] at hj
      cases Option.some.inj hj
      have hj2 : j - pre.length - ws.length = 0 := by omega
      exact ⟨by omega, q, E', by rw [List.getElem?_append_right (by omega), hj2]; rfl, he⟩
  · by_cases hl : j < M.length
    · rw [List.getElem?_append_left hl] at hj
      exact h5 j o hj h3
    · rw [List.getElem?_append_right (by omega)] at hj
      have hz : j - M.length < 1 := (List.getElem?_eq_some_iff.mp hj).1
      have hj0 : j - M.length = 0 := by omega
      rw [hj0] at hj
      cases Option.some.inj hj
      exact absurd h3 (xr_e_tag he)
theorem xs_ix (hD : xv_ok D g) {a : V} {n k : Nat} {x : Int32} (h : xv_ix D a n = some k) (hg : g a (.int x)) : k < n ∧ vp_in x n ∧ x.toNatClampNeg = k ∧ ¬ x < 0 := by
  unfold xv_ix at h
  split at h
  · rename_i k' hk
    cases hb : Nat.blt k' n <;> simp [hb] at h
    subst h
    have hlt : k' < n := Nat.le_of_ble_eq_true hb
    have hx := hD.2.2.2.2.2.2.2.2.2.2.1 _ _ _ hk hg
    have hin : vp_in x n := vp_in_iff.mpr ⟨by rw [hx]; exact Int.natCast_nonneg k', by rw [hx]; exact Int.ofNat_lt.mpr hlt⟩
    exact ⟨hlt, hin, by show x.toInt.toNat = k'; rw [hx]; rfl, fun q => hin (Or.inl q)⟩
  · cases h
theorem xs_fit (hD : xv_ok D g) {ty : FieldType} : ∀ {v : xv_V V} {x : Value}, xv_fit D ty v = true → xr_v g φ v x → narrow ty x = x ∧ fits ty x = true := by
  intro v x h hv
  rcases v with a | a | (_ | k)
  · obtain ⟨n, rfl, hn⟩ := hv
    cases ty <;> first | (simp only [xv_fit, Bool.false_eq_true] at h; done) | exact ⟨rfl, rfl⟩ | skip
    rcases hD.2.2.2.2.2.2.2.2.2.2.2 a n h hn with rfl | rfl
    · exact ⟨rfl, rfl⟩
    · exact ⟨rfl, rfl⟩
  · obtain ⟨n, rfl, hn⟩ := hv
    cases ty <;> first | (simp only [xv_fit, Bool.false_eq_true] at h; done) | exact ⟨rfl, rfl⟩
  · obtain rfl : x = .null := hv
    cases ty <;> first | (simp only [xv_fit, Bool.false_eq_true] at h; done) | exact ⟨rfl, rfl⟩
  · obtain ⟨q, _, rfl⟩ := hv
    cases ty <;> first | (simp only [xv_fit, Bool.false_eq_true] at h; done) | exact ⟨rfl, rfl⟩
theorem xs_dflt (hD : xv_ok D g) (ty : FieldType) (h : xv_tyok ty = true) : xr_v g φ (xv_dflt D ty) (defaultValue ty) := by
  cases ty <;> first | (simp only [xv_tyok, Bool.false_eq_true] at h; done) | exact ⟨0, rfl, hD.1 0⟩ | exact ⟨0, rfl, hD.2.1 0⟩ | rfl
/-- the cell of an object -/
theorem xr_e_obj {o : xv_O V} {E : va_E} {ci : Nat} (h : xr_e g φ tys o E) (ho : o.1 = 8 + ci) : ∃ fs : List Value, E = .inr (ci, fs) ∧ fs.length = o.2.length ∧ ∀ (j : Nat) (v : xv_V V), o.2[j]? = some v → ∃ x : Value, fs[j]? = some x ∧ xr_v g φ v x := by
  rcases h with ⟨h8, fs, e, hl, h⟩ | ⟨cA, ty, ht, h | h | h⟩
  · exact ⟨fs, by rw [e, show o.1 - 8 = ci by omega], hl, h⟩
  · obtain ⟨h0, -⟩ := h
    omega
  · obtain ⟨h0, -⟩ := h
    omega
  · obtain ⟨h0, -⟩ := h
    omega
theorem xr_e_int {o : xv_O V} {E : va_E} (h : xr_e g φ tys o E) (ho : o.1 = 0 ∨ o.1 = 2) : ∃ (cA : ClassId) (ty : FieldType) (f : Nat → Int32), tys[o.1]? = some (cA, ty) ∧ E = .inl (cA, o.2.length, .inl f) ∧ ∀ (j : Nat) (v : xv_V V), o.2[j]? = some v → xr_v g φ v (.int (f j)) := by
  rcases h with ⟨h8, fs, e, hl, h⟩ | ⟨cA, ty, ht, h | h | h⟩
  · omega
  · obtain ⟨h0, f, e, h⟩ := h
    exact ⟨cA, ty, f, ht, e, h⟩
  · obtain ⟨h0, -⟩ := h
    omega
  · obtain ⟨h0, -⟩ := h
    omega
theorem xr_e_long {o : xv_O V} {E : va_E} (h : xr_e g φ tys o E) (ho : o.1 = 1) : ∃ (cA : ClassId) (ty : FieldType) (f : Nat → Int64), tys[o.1]? = some (cA, ty) ∧ E = .inl (cA, o.2.length, .inr (.inl f)) ∧ ∀ (j : Nat) (v : xv_V V), o.2[j]? = some v → xr_v g φ v (.long (f j)) := by
  rcases h with ⟨h8, fs, e, hl, h⟩ | ⟨cA, ty, ht, h | h | h⟩
  · omega
  · obtain ⟨h0, -⟩ := h
    omega
  · obtain ⟨h0, f, e, h⟩ := h
    exact ⟨cA, ty, f, ht, e, h⟩
  · obtain ⟨h0, -⟩ := h
    omega
theorem xr_e_ref {o : xv_O V} {E : va_E} (h : xr_e g φ tys o E) (ho : 4 ≤ o.1 ∧ o.1 < 7) : ∃ (cA : ClassId) (ty : FieldType) (f : Nat → Option Nat), tys[o.1]? = some (cA, ty) ∧ E = .inl (cA, o.2.length, .inr (.inr (.inr (.inr f)))) ∧ ∀ (j : Nat) (v : xv_V V), o.2[j]? = some v → xr_v g φ v (va_rf (f j)) := by
  rcases h with ⟨h8, fs, e, hl, h⟩ | ⟨cA, ty, ht, h | h | h⟩
  · omega
  · obtain ⟨h0, -⟩ := h
    omega
  · obtain ⟨h0, -⟩ := h
    omega
  · obtain ⟨h0, f, e, h⟩ := h
    exact ⟨cA, ty, f, ht, e, h⟩
theorem xs_rep {α : Type} {n j : Nat} {v w : α} (h : (List.replicate n v)[j]? = some w) : w = v := by
  have h2 := List.mem_of_getElem? h
  exact List.eq_of_mem_replicate h2
end XSM
end
section
section XSN
variable {p : Program} {l : Launch} {e : Env} {R : Room} {s : State} {m : MethodId} {args : Array Value} {below : List Frame} {meth : Method} {c : Code} {H : Heap} {locs : List Loc} {cells slots : Nat} {Q : State → Prop}
variable {cc : ByteArray} {pc : Nat} {V : Type} {C : Nat → xv_O V → Prop} {D : xv_D V} {g : V → Value → Prop} {φ : List Nat} {M M' : xv_M V} {S S' : List (xv_V V)} {ls : Array Slot} {st : List Value}
variable {Dg : va_G} {cl : List vw_C} {tys : List (ClassId × FieldType)} {A : Nat → Prop} {H0 : Heap} {ws : va_W} {dc ds : Nat}
theorem va_RA_one {U : State} {c1 c2 : ClassId} {ty : FieldType} (h1 : va_RA U c1 ty) (h2 : va_RA U c2 ty) : c1 = c2 := by
  cases ty with
  | object C =>
    obtain ⟨_, _, _, _, _, a⟩ := h1
    obtain ⟨_, _, _, _, _, b⟩ := h2
    exact Option.some.inj (a.symm.trans b)
  | _ => exact Option.some.inj (Eq.trans (Eq.symm h1) h2)
theorem xs_last {α : Type} (xs : List α) (x : α) : (xs ++ [x])[xs.length]? = some x := by simp
/-- loads out of arrays -/
theorem xs_ald (hD : xv_ok D g) {t0 t1 : Nat} (h6 : t1 < 3 ∨ (3 < t0 ∧ t1 < 7)) (h : xv_ald D M S t0 t1 = some (S', M', dc, ds)) (hs : xr_s g φ S st) (hm : xr_m C g φ tys M ws) : ∃ (a q k : Nat) (o : xv_O V) (E : va_E) (v : xv_V V) (S1 : List (xv_V V)) (x : Int32) (rest : List Value), S' = v :: S1 ∧ M' = M ∧ dc = 0 ∧ ds = 0 ∧ st = .int x :: .ref q :: rest ∧ xr_s g φ S1 rest ∧ (t0 ≤ o.1 ∧ o.1 ≤ t1) ∧ ws[a]? = some (q, E) ∧ xr_e g φ tys o E ∧ o.2[k]? = some v ∧ vp_in x o.2.length ∧ x.toNatClampNeg = k := by
  unfold xv_ald at h
  split at h
  · rename_i i a S1
    obtain ⟨_, r1, rfl, ⟨x, rfl, hx⟩, _, r2, rfl, ⟨q, hq, rfl⟩, hr⟩ := hs
    split at h
    · rename_i o ho
      cases hc : Nat.ble t0 o.1 <;> simp only [hc, Bool.true_and, Bool.false_and, cond_true, cond_false] at h
      · cases h
      cases hd : Nat.ble o.1 t1 <;> simp only [hd, cond_true, cond_false] at h
      · cases h
      split at h
      · rename_i k hk
        split at h
        · rename_i v hv
          obtain ⟨rfl, rfl, rfl, rfl⟩ := by simpa using h
          obtain ⟨b, E, hE, he, -⟩ := xr_m_at hm ho hq (by have := Nat.le_of_ble_eq_true hd; have := Nat.le_of_ble_eq_true hc; omega) (by have := Nat.le_of_ble_eq_true hd; have := Nat.le_of_ble_eq_true hc; omega)
          obtain ⟨-, hin, hcl, -⟩ := xs_ix hD hk hx
          exact ⟨b, q, k, o, E, v, S1, x, r2, rfl, rfl, rfl, rfl, rfl, hr, ⟨Nat.le_of_ble_eq_true hc, Nat.le_of_ble_eq_true hd⟩, hE, he, hv, hin, hcl⟩
        · cases h
      · cases h
    · cases h
  · cases h
/-- stores into arrays of numbers -/
theorem xs_ast (hD : xv_ok D g) {t : Nat} {ty : FieldType} (h6 : t < 3) (h : xv_ast D M S t ty = some (S', M', dc, ds)) (hs : xr_s g φ S st) (hm : xr_m C g φ tys M ws) : ∃ (a q k : Nat) (o : xv_O V) (E : va_E) (v : xv_V V) (y : Value) (x : Int32) (rest : List Value), (∀ E', xr_e g φ tys (o.1, o.2.set k v) E' → xr_m C g φ tys M' (ws.set a (q, E'))) ∧ dc = 0 ∧ ds = 0 ∧ st = y :: .int x :: .ref q :: rest ∧ xr_s g φ S' rest ∧ o.1 = t ∧ ws[a]? = some (q, E) ∧ xr_e g φ tys o E ∧ xv_fit D ty v = true ∧ xr_v g φ v y ∧ vp_in x o.2.length ∧ x.toNatClampNeg = k := by
  unfold xv_ast at h
  split at h
  · rename_i v i a S1
    obtain ⟨y, r0, rfl, hy, _, r1, rfl, ⟨x, rfl, hx⟩, _, r2, rfl, ⟨q, hq, rfl⟩, hr⟩ := hs
    split at h
    · rename_i o ho
      cases hc : Nat.beq o.1 t <;> simp only [hc, Bool.true_and, Bool.false_and, cond_true, cond_false] at h
      · cases h
      cases hd : xv_fit D ty v <;> simp only [hd, cond_true, cond_false] at h
      · cases h
      split at h
      · rename_i k hk
        obtain ⟨rfl, rfl, rfl, rfl⟩ := by simpa using h
        obtain ⟨b, E, hE, he, hset⟩ := xr_m_at hm ho hq (by have := Nat.eq_of_beq_eq_true hc; omega) (by have := Nat.eq_of_beq_eq_true hc; omega)
        obtain ⟨-, hin, hcl, -⟩ := xs_ix hD hk hx
        exact ⟨b, q, k, o, E, v, y, x, r2, fun E' => hset _ E', rfl, rfl, rfl, hr, Nat.eq_of_beq_eq_true hc, hE, he, hd, hy, hin, hcl⟩
      · cases h
    · cases h
  · cases h
theorem xs_newa (hD : xv_ok D g) {t : Nat} {v : xv_V V} (h : xv_newa D M S t v = some (S', M', dc, ds)) (hs : xr_s g φ S st) : ∃ (S1 : List (xv_V V)) (n : Int32) (rest : List Value), S' = .inr (.inr (some M.length)) :: S1 ∧ M' = M ++ [(t, List.replicate ds v)] ∧ dc = 1 ∧ ds < 4096 ∧ st = .int n :: rest ∧ xr_s g φ S1 rest ∧ ¬ n < 0 ∧ n.toNatClampNeg = ds := by
  unfold xv_newa at h
  split at h
  · rename_i a S1
    obtain ⟨_, r1, rfl, ⟨x, rfl, hx⟩, hr⟩ := hs
    split at h
    · rename_i k hk
      obtain ⟨rfl, rfl, rfl, rfl⟩ := by simpa using h
      obtain ⟨h1, -, h3, h4⟩ := xs_ix hD hk hx
      exact ⟨S1, x, r1, rfl, rfl, rfl, h1, rfl, hr, h4, h3⟩
    · cases h
  · cases h
end XSN
end
section
section XSO
variable {p : Program} {l : Launch} {e : Env} {R : Room} {s : State} {m : MethodId} {args : Array Value} {below : List Frame} {meth : Method} {c : Code} {H : Heap} {locs : List Loc} {cells slots : Nat} {Q : State → Prop}
variable {cc : ByteArray} {pc : Nat} {V : Type} {C : Nat → xv_O V → Prop} {D : xv_D V} {g : V → Value → Prop} {φ : List Nat} {M M' : xv_M V} {S S' : List (xv_V V)} {ls : Array Slot} {st : List Value}
variable {Dg : va_G} {cl : List vw_C} {tys : List (ClassId × FieldType)} {A : Nat → Prop} {H0 : Heap} {ws : va_W} {dc ds : Nat}
set_option maxHeartbeats 4000000 in
/-- THE INSTRUCTIONS OF THE MEMORY -/
theorem xs_mem (hx : p.tables.exec = Jvm.exec) (hb : c.code = cc) {own : String} (hown : s.vm.findClass own = some m.cls) {Ts tb : List Jvm.Cond} (hts : ∀ w ∈ Ts, w.before args s = true) (htb : ∀ w ∈ tb, w ∈ Ts) (hD : xv_ok D g) {K : xv_K} {ct : List (List (FieldType × Bool))} {at_ : List Nat} {wn ini : Nat}
    (hC : xc_cls tb cl ct) (hF : xc_fld tb cl ct own K) (hN : xc_new tb cl at_ own K) (hY : xc_tys cl at_ tys) (hO : xc_ao cl at_ s) (hR : xc_arr tb) (hin : ini = 1 → meth.name = "<init>") (hwn : ∀ (C : String) (T : u_T) (N : Nat), cl[wn]? = some (C, T, N) → C = own)
    (hK : va_K Dg cl tys s) (hA : ∀ q, H0.size ≤ q → A q)
    (hcst : ∀ (k q : Nat) (o : xv_O V), C k o → φ[k]? = some q → ∃ (L : Nat) (xs : Nat → Int32), va_X q L xs s H0 ∧ q < H0.size ∧ ¬ A q ∧ o.2.length = L ∧ ∀ (j : Nat) (v : xv_V V), o.2[j]? = some v → xr_v g φ v (.int (xs j))) {i : Instr} (h : xv_mem D ct at_ K wn ini M S i = some (S', M', dc, ds)) (hdg : decode cc pc = .ok (i, xv_len i))
    (hm : xr_m C g φ tys M ws) (hP : va_P Dg cl ws H) (hD0 : va_D A ws) (hS : va_S A H0 H locs) (hs : xr_s g φ S st) (hc1 : cells + dc ≤ R.cells) (hc2 : slots + ds ≤ R.slots)
    (kk : ∀ (t : List Nat) (ws' : va_W) (H' : Heap) (locs' : List Loc) (st' : List Value), xr_m C g (φ ++ t) tys M' ws' → va_P Dg cl ws' H' → va_D A ws' → va_S A H0 H' locs' → xr_s g (φ ++ t) S' st' → W p l e R s m args below meth c H' locs' (cells + dc) (slots + ds) Q (F0 m (pc + xv_len i) ls st')) :
    W p l e R s m args below meth c H locs cells slots Q (F0 m pc ls st) := by
  have hmlen : M.length = φ.length := xr_m_len hm
  have k0 : ∀ (ws' : va_W) (H' : Heap) (locs' : List Loc) (st' : List Value), xr_m C g φ tys M' ws' → va_P Dg cl ws' H' → va_D A ws' → va_S A H0 H' locs' → xr_s g φ S' st' → W p l e R s m args below meth c H' locs' (cells + dc) (slots + ds) Q (F0 m (pc + xv_len i) ls st') := fun ws' H' locs' st' a b c d f => by
    have q := kk [] ws' H' locs' st'
    rw [List.append_nil] at q
    exact q a b c d f
  cases i
  all_goals (first | (simp only [xv_mem, reduceCtorEq] at h; done) | skip)
  case getfield i =>
    simp only [xv_mem] at h
    split at h
    · rename_i ck hck
      split at h
      · rename_i a S1
        obtain ⟨_, r1, rfl, ⟨q, hq, rfl⟩, hr⟩ := hs
        split at h
        · rename_i o ho
          cases hc : Nat.beq o.1 (8 + ck.1) <;> simp only [hc, cond_true, cond_false] at h
          · cases h
          split at h
          · rename_i v hv
            obtain ⟨rfl, rfl, rfl, rfl⟩ := by simpa using h
            obtain ⟨b, E, hE, he, -⟩ := xr_m_at hm ho hq (by have := Nat.eq_of_beq_eq_true hc; omega) (by have := Nat.eq_of_beq_eq_true hc; omega)
            obtain ⟨fs, rfl, hl, hfs⟩ := xr_e_obj he (Nat.eq_of_beq_eq_true hc)
            obtain ⟨x, hx1, hx2⟩ := hfs _ _ hv
            obtain ⟨fd, f, C, T, hct, hf, hcl, hlink⟩ := hF i ck hck
            obtain ⟨-, hu, -⟩ := xc_at hC hct hcl
            exact va_get hx hb (ref := (T ck.2).1) hts (fun w hw => htb _ (hu w hw)) hown hK hP b hE hcl ck.2 (List.getElem?_eq_some_iff.mp hf).1 (hts _ (htb _ hlink)) (fun _ z => z) hx1 hdg (k0 _ _ _ _ hm hP hD0 hS ⟨_, _, rfl, hx2, hr⟩)
          · cases h
        · cases h
      · cases h
    · cases h
  case putfield i =>
    simp only [xv_mem] at h
    split at h
    · rename_i ck hck
      split at h
      · rename_i v a S1
        obtain ⟨y, r0, rfl, hy, _, r1, rfl, ⟨q, hq, rfl⟩, hr⟩ := hs
        split at h
        · rename_i o ho
          cases hc : Nat.beq o.1 (8 + ck.1) <;> simp only [hc, Bool.true_and, Bool.false_and, cond_true, cond_false] at h
          · cases h
          cases hlt : Nat.blt ck.2 o.2.length <;> simp only [hlt, cond_true, cond_false] at h
          · cases h
          split at h
          · rename_i fd hct
            split at h
            · rename_i f hf
              cases hfit : xv_fit D f.1 v <;> simp only [hfit, Bool.true_and, Bool.false_and, cond_true, cond_false] at h
              · cases h
              have ho8 := Nat.eq_of_beq_eq_true hc
              obtain ⟨b, E, hE, he, hset⟩ := xr_m_at hm ho hq (by omega) (by omega)
              obtain ⟨fs, rfl, hl, hfs⟩ := xr_e_obj he ho8
              obtain ⟨fd2, f2, C, T, hct2, hf2, hcl, hlink⟩ := hF i ck hck
              cases Option.some.inj (hct2.symm.trans hct)
              obtain ⟨-, hu, hfl, hnm, -, -⟩ := xc_at hC hct hcl
              obtain ⟨g1, g2, g3, g4⟩ := hfl _ _ hf
              obtain ⟨n1, n2⟩ := xs_fit hD hfit hy
              have hkN := (List.getElem?_eq_some_iff.mp hf).1
              have hklt : ck.2 < fs.length := by rw [hl]; exact Nat.le_of_ble_eq_true hlt
              have hty : ∀ k, k < fd.length → parseFieldDescriptor (T k).2.2.1 = some ((fun k => (fd.getD k (.int, false)).1) k) := fun k hk => by
                have e1 : fd[k]? = some (fd.getD k (.int, false)) := by simp [List.getD, hk]
                exact (hfl k _ e1).1
              have hnew : xr_e g φ tys (o.1, o.2.set ck.2 v) (.inr (ck.1, fs.set ck.2 y)) := by
                refine Or.inl ⟨by show 8 ≤ o.1; omega, _, by show _ = Sum.inr (o.1 - 8, _); rw [show o.1 - 8 = ck.1 by omega], by rw [List.length_set, List.length_set]; exact hl, fun j w hw => ?_⟩
                rcases xr_set hw with ⟨rfl, rfl⟩ | ⟨hne, hw⟩
                · exact ⟨y, by rw [List.getElem?_set, if_pos rfl, if_pos hklt], hy⟩
                · obtain ⟨x1, hx1, hx2⟩ := hfs _ _ hw
                  exact ⟨x1, by rw [List.getElem?_set, if_neg (fun z => hne z.symm)]; exact hx1, hx2⟩
              cases hfin : f.2
              · rw [hfin] at h
                obtain ⟨rfl, rfl, rfl, rfl⟩ := by simpa using h
                exact va_put hx hb (ref := (T ck.2).1) hts (fun w hw => htb _ (hu w hw)) _ hty hnm hown hK hP hD0 hS b hE hcl ck.2 hkN (hts _ (htb _ hlink)) (fun _ z => z) (g2.trans hfin) g1 n1 n2 hklt hdg (fun H1 locs1 hP1 hD1 hS1 => k0 _ _ _ _ (hset _ _ hnew) hP1 hD1 hS1 hr)
              · rw [hfin] at h
                cases hini : Nat.beq ini 1 <;> simp only [hini, Bool.not_true, Bool.false_or, Bool.true_and, Bool.false_and, cond_true, cond_false] at h
                · cases h
                cases hw1 : Nat.beq wn ck.1 <;> simp only [hw1, cond_true, cond_false] at h
                · cases h
                obtain ⟨rfl, rfl, rfl, rfl⟩ := by simpa using h
                have hdecl : (T ck.2).1 = own := g3.trans (hwn _ _ _ (by rw [Nat.eq_of_beq_eq_true hw1]; exact hcl))
                exact va_putF hx hb (ref := (T ck.2).1) hts (fun w hw => htb _ (hu w hw)) _ hty hnm hown hK hP hD0 hS b hE hcl ck.2 hkN (hts _ (htb _ hlink)) (fun _ z => z) (g2.trans hfin) (hin (Nat.eq_of_beq_eq_true hini)) hdecl g1 n1 n2 hklt hdg (fun H1 locs1 hP1 hD1 hS1 => k0 _ _ _ _ (hset _ _ hnew) hP1 hD1 hS1 hr)
            · cases h
          · cases h
        · cases h
      · cases h
    · cases h
  case new i =>
    simp only [xv_mem] at h
    split at h
    · rename_i ci hci
      split at h
      · rename_i fd hct
        cases hlt : Nat.blt ci 1000 <;> simp only [hlt, cond_true, cond_false] at h
        · cases h
        obtain ⟨rfl, rfl, rfl, rfl⟩ := by simpa using h
        obtain ⟨C, T, N, hcl, hlink⟩ := (hN i ci hci).1 (Nat.le_of_ble_eq_true hlt)
        obtain ⟨rfl, hu, hfl, -, hi1, hi2⟩ := xc_at hC hct hcl
        have hty : ∀ k, k < fd.length → parseFieldDescriptor (T k).2.2.1 = some ((fun k => (fd.getD k (.int, false)).1) k) := fun k hk => by
          have e1 : fd[k]? = some (fd.getD k (.int, false)) := by simp [List.getD, hk]
          exact (hfl k _ e1).1
        refine va_new (fs := fd.map (fun f => defaultValue f.1)) hx hb hts (fun w hw => htb _ (hu w hw)) _ hty hown (hts _ (htb _ hlink)) (hts _ (htb _ hi1)) (hts _ (htb _ hi2)) hK hP hD0 hS hA hcl (fun j hj => ?_) hc1 hc2 hdg (fun q H1 hP1 hD1 hS1 => ?_)
        · simp [vp_V, List.getD, hj]
        · refine kk [q] _ _ _ _ (xr_m_push hm ?_) hP1 hD1 hS1 ⟨_, _, rfl, ⟨q, by rw [hmlen]; exact xs_last φ q, rfl⟩, xr_s_mono hs⟩
          refine Or.inl ⟨by show 8 ≤ 8 + ci; omega, _, by show _ = Sum.inr (8 + ci - 8, _); rw [Nat.add_sub_cancel_left], by simp, fun j w hw => ?_⟩
          rw [List.getElem?_map] at hw
          cases hfj : fd[j]? with
          | none => rw [hfj] at hw; cases hw
          | some f =>
            rw [hfj] at hw
            cases Option.some.inj hw
            exact ⟨defaultValue f.1, by rw [List.getElem?_map, hfj]; rfl, xs_dflt hD _ (hfl _ _ hfj).2.2.2⟩
      · cases h
    · cases h
  case newarray at1 =>
    cases at1
    all_goals (first | (simp only [xv_mem, reduceCtorEq] at h; done) | skip)
    case int =>
      simp only [xv_mem] at h
      obtain ⟨S1, n, rest, rfl, rfl, rfl, hlt, rfl, hr, hn0, hn⟩ := xs_newa hD h hs
      obtain ⟨c0, ht0⟩ := hY.1
      refine va_newa (atype := .int) (a0 := (ds, .inl (fun _ => 0))) hx hb (hts _ (htb _ hR.1)) rfl hK hP hD0 hS hA (fun cA => rfl) hn0 hn (by show ds * 4 ≤ _; omega) hc1 hc2 hdg (fun q cA H1 hK1 hP1 hD1 hS1 => ?_)
      have e0 : cA = c0 := va_RA_one (hK1.2 tys.length _ (xs_last tys _)).2 (hK.2 0 _ ht0).2
      subst e0
      refine kk [q] _ _ _ _ (xr_m_push hm ?_) hP1 hD1 hS1 ⟨_, _, rfl, ⟨q, by rw [hmlen]; exact xs_last φ q, rfl⟩, xr_s_mono hr⟩
      refine Or.inr ⟨_, _, ht0, Or.inl ⟨Or.inl rfl, fun _ => 0, by show _ = Sum.inl (_, (List.replicate _ _).length, _); rw [List.length_replicate], fun j w hw => ?_⟩⟩
      cases xs_rep hw
      exact ⟨0, rfl, hD.1 0⟩
    case long =>
      simp only [xv_mem] at h
      obtain ⟨S1, n, rest, rfl, rfl, rfl, hlt, rfl, hr, hn0, hn⟩ := xs_newa hD h hs
      obtain ⟨c0, ht0⟩ := hY.2.1
      refine va_newa (atype := .long) (a0 := (ds, .inr (.inl (fun _ => 0)))) hx hb (hts _ (htb _ hR.2.1)) rfl hK hP hD0 hS hA (fun cA => rfl) hn0 hn (by show ds * 8 ≤ _; omega) hc1 hc2 hdg (fun q cA H1 hK1 hP1 hD1 hS1 => ?_)
      have e0 : cA = c0 := va_RA_one (hK1.2 tys.length _ (xs_last tys _)).2 (hK.2 1 _ ht0).2
      subst e0
      refine kk [q] _ _ _ _ (xr_m_push hm ?_) hP1 hD1 hS1 ⟨_, _, rfl, ⟨q, by rw [hmlen]; exact xs_last φ q, rfl⟩, xr_s_mono hr⟩
      refine Or.inr ⟨_, _, ht0, Or.inr (Or.inl ⟨rfl, fun _ => 0, by show _ = Sum.inl (_, (List.replicate _ _).length, _); rw [List.length_replicate], fun j w hw => ?_⟩)⟩
      cases xs_rep hw
      exact ⟨0, rfl, hD.2.1 0⟩
    case boolean =>
      simp only [xv_mem] at h
      obtain ⟨S1, n, rest, rfl, rfl, rfl, hlt, rfl, hr, hn0, hn⟩ := xs_newa hD h hs
      obtain ⟨c0, ht0⟩ := hY.2.2.1
      refine va_newa (atype := .boolean) (a0 := (ds, .inl (fun _ => 0))) hx hb (hts _ (htb _ hR.2.2)) rfl hK hP hD0 hS hA (fun cA => rfl) hn0 hn (by show ds * 1 ≤ _; omega) hc1 hc2 hdg (fun q cA H1 hK1 hP1 hD1 hS1 => ?_)
      have e0 : cA = c0 := va_RA_one (hK1.2 tys.length _ (xs_last tys _)).2 (hK.2 2 _ ht0).2
      subst e0
      refine kk [q] _ _ _ _ (xr_m_push hm ?_) hP1 hD1 hS1 ⟨_, _, rfl, ⟨q, by rw [hmlen]; exact xs_last φ q, rfl⟩, xr_s_mono hr⟩
      refine Or.inr ⟨_, _, ht0, Or.inl ⟨Or.inr rfl, fun _ => 0, by show _ = Sum.inl (_, (List.replicate _ _).length, _); rw [List.length_replicate], fun j w hw => ?_⟩⟩
      cases xs_rep hw
      exact ⟨0, rfl, hD.1 0⟩
  case anewarray i =>
    simp only [xv_mem] at h
    split at h
    · rename_i ci hci
      cases h1 : Nat.ble 1000 ci <;> simp only [h1, Bool.true_and, Bool.false_and, cond_true, cond_false] at h
      · cases h
      cases h2 : Nat.blt ci 1003 <;> simp only [h2, cond_true, cond_false] at h
      · cases h
      have g1 := Nat.le_of_ble_eq_true h1
      have g2 : ci < 1003 := Nat.le_of_ble_eq_true h2
      obtain ⟨S1, n, rest, rfl, rfl, rfl, hlt, rfl, hr, hn0, hn⟩ := xs_newa hD h hs
      obtain ⟨cj, C, T, N, hat, hcl, hlink⟩ := (hN _ ci hci).2 g1 g2
      rw [Nat.add_sub_cancel_left] at hlink
      obtain ⟨c0, ht0⟩ := hY.2.2.2.1 _ _ _ _ _ hat hcl
      rw [show 4 + (ci - 1000) = ci - 996 by omega] at ht0
      refine va_newq hx hb hown (hts _ (htb _ hlink)) (hO _ _ _ _ _ hat hcl) hK hP hD0 hS hA hn0 hn (by omega) hc1 hc2 hdg (fun q cA H1 hK1 hP1 hD1 hS1 => ?_)
      have e0 : cA = c0 := va_RA_one (hK1.2 tys.length _ (xs_last tys _)).2 (hK.2 _ _ ht0).2
      subst e0
      refine kk [q] _ _ _ _ (xr_m_push hm ?_) hP1 hD1 hS1 ⟨_, _, rfl, ⟨q, by rw [hmlen]; exact xs_last φ q, rfl⟩, xr_s_mono hr⟩
      refine Or.inr ⟨_, _, ht0, Or.inr (Or.inr ⟨⟨by show 4 ≤ ci - 996; omega, by show ci - 996 < 7; omega⟩, fun _ => none, by show _ = Sum.inl (_, (List.replicate _ _).length, _); rw [List.length_replicate], fun j w hw => ?_⟩)⟩
      cases xs_rep hw
      exact rfl
    · cases h
  case arraylength =>
    simp only [xv_mem] at h
    split at h
    · rename_i a S1
      obtain ⟨_, r1, rfl, ⟨q, hq, rfl⟩, hr⟩ := hs
      split at h
      · rename_i o ho
        cases h1 : Nat.blt o.1 7 <;> simp only [h1, Bool.true_and, Bool.false_and, cond_true, cond_false] at h
        · cases h
        cases h2 : Nat.ble o.2.length 4096 <;> simp only [h2, cond_true, cond_false] at h
        · cases h
        obtain ⟨rfl, rfl, rfl, rfl⟩ := by simpa using h
        have g1 : o.1 < 7 := Nat.le_of_ble_eq_true h1
        have hx0 : xr_v g φ (Sum.inl (D.1 (Int32.ofNat o.2.length))) (.int (Int32.ofNat o.2.length)) := ⟨_, rfl, hD.1 _⟩
        by_cases h33 : o.1 = 3
        · obtain ⟨L, xs, g1, g2, g3, g4, -⟩ := hcst _ _ _ (xr_m_cst hm ho h33) hq
          rw [g4] at hx0 k0
          exact va_slen hx hb g1 g2 g3 hS hdg (k0 _ _ _ _ hm hP hD0 hS ⟨_, _, rfl, hx0, hr⟩)
        obtain ⟨b, E, hE, he, -⟩ := xr_m_at hm ho hq (by omega) h33
        rcases he with ⟨h8, -⟩ | ⟨cA, ty, ht, he | he | he⟩
        · omega
        · obtain ⟨-, f, rfl, -⟩ := he
          exact va_alen hx hb hK hP b o.1 hE ht rfl hdg (k0 _ _ _ _ hm hP hD0 hS ⟨_, _, rfl, hx0, hr⟩)
        · obtain ⟨-, f, rfl, -⟩ := he
          exact va_alen hx hb hK hP b o.1 hE ht rfl hdg (k0 _ _ _ _ hm hP hD0 hS ⟨_, _, rfl, hx0, hr⟩)
        · obtain ⟨-, f, rfl, -⟩ := he
          exact va_alen hx hb hK hP b o.1 hE ht rfl hdg (k0 _ _ _ _ hm hP hD0 hS ⟨_, _, rfl, hx0, hr⟩)
      · cases h
    · cases h
  case iaload =>
    simp only [xv_mem] at h
    split at h
    rotate_left
    · unfold xv_ald at h
      split at h
      · rename_i i a S1
        obtain ⟨_, r1, rfl, ⟨x, rfl, hx1⟩, _, r2, rfl, ⟨q, hq, rfl⟩, hr⟩ := hs
        split at h
        · rename_i o ho
          cases hc : Nat.ble 3 o.1 <;> simp only [hc, Bool.true_and, Bool.false_and, cond_true, cond_false] at h
          · cases h
          cases hd : Nat.ble o.1 3 <;> simp only [hd, cond_true, cond_false] at h
          · cases h
          split at h
          · rename_i k hk
            split at h
            · rename_i v hv
              obtain ⟨rfl, rfl, rfl, rfl⟩ := by simpa using h
              have l1 := Nat.le_of_ble_eq_true hc
              have l2 := Nat.le_of_ble_eq_true hd
              obtain ⟨L, xs, g1, g2, g3, g4, g5⟩ := hcst _ _ _ (xr_m_cst hm ho (by omega)) hq
              obtain ⟨-, hin1, rfl, -⟩ := xs_ix hD hk hx1
              rw [g4] at hin1
              exact va_sld hx hb g1 g2 g3 hS hin1 hdg (k0 _ _ _ _ hm hP hD0 hS ⟨_, _, rfl, g5 _ _ hv, hr⟩)
            · cases h
          · cases h
        · cases h
      · cases h
    rename_i r0 h0
    cases Option.some.inj h
    have h := h0
    obtain ⟨a, q, k, o, E, v, S1, x, rest, rfl, rfl, rfl, rfl, rfl, hr, ho, hE, he, hv, hin1, rfl⟩ := xs_ald hD (by decide) h hs hm
    have ho0 : o.1 = 0 := by omega
    obtain ⟨cA, ty, f, ht, rfl, hf⟩ := xr_e_int he (Or.inl ho0)
    obtain ⟨c0, ht0⟩ := hY.1
    rw [ho0] at ht
    cases Option.some.inj (ht.symm.trans ht0)
    exact va_iald hx hb hK hP a 0 hE ht0 hin1 hdg (k0 _ _ _ _ hm hP hD0 hS ⟨_, _, rfl, hf _ _ hv, hr⟩)
  case baload =>
    simp only [xv_mem] at h
    obtain ⟨a, q, k, o, E, v, S1, x, rest, rfl, rfl, rfl, rfl, rfl, hr, ho, hE, he, hv, hin1, rfl⟩ := xs_ald hD (by decide) h hs hm
    have ho0 : o.1 = 2 := by omega
    obtain ⟨cA, ty, f, ht, rfl, hf⟩ := xr_e_int he (Or.inr ho0)
    obtain ⟨c0, ht0⟩ := hY.2.2.1
    rw [ho0] at ht
    cases Option.some.inj (ht.symm.trans ht0)
    exact va_zald hx hb hK hP a 2 hE ht0 hin1 hdg (k0 _ _ _ _ hm hP hD0 hS ⟨_, _, rfl, hf _ _ hv, hr⟩)
  case laload =>
    simp only [xv_mem] at h
    obtain ⟨a, q, k, o, E, v, S1, x, rest, rfl, rfl, rfl, rfl, rfl, hr, ho, hE, he, hv, hin1, rfl⟩ := xs_ald hD (by decide) h hs hm
    have ho0 : o.1 = 1 := by omega
    obtain ⟨cA, ty, f, ht, rfl, hf⟩ := xr_e_long he ho0
    obtain ⟨c0, ht0⟩ := hY.2.1
    rw [ho0] at ht
    cases Option.some.inj (ht.symm.trans ht0)
    exact va_lald hx hb hK hP a 1 hE ht0 hin1 hdg (k0 _ _ _ _ hm hP hD0 hS ⟨_, _, rfl, hf _ _ hv, hr⟩)
  case aaload =>
    simp only [xv_mem] at h
    obtain ⟨a, q, k, o, E, v, S1, x, rest, rfl, rfl, rfl, rfl, rfl, hr, ho, hE, he, hv, hin1, rfl⟩ := xs_ald hD (by decide) h hs hm
    obtain ⟨cA, ty, f, ht, rfl, hf⟩ := xr_e_ref he ⟨ho.1, by omega⟩
    obtain ⟨C, rfl⟩ : ∃ C, ty = .object C := hY.2.2.2.2 _ _ ho.1 ht
    exact va_aldq hx hb hK hP a _ hE ht hin1 hdg (k0 _ _ _ _ hm hP hD0 hS ⟨_, _, rfl, hf _ _ hv, hr⟩)
  case iastore =>
    simp only [xv_mem] at h
    obtain ⟨a, q, k, o, E, v, y, x, rest, hset, rfl, rfl, rfl, hr, ho0, hE, he, hfit, hy, hin1, rfl⟩ := xs_ast hD (by decide) h hs hm
    obtain ⟨cA, ty, f, ht, rfl, hf⟩ := xr_e_int he (Or.inl ho0)
    obtain ⟨c0, ht0⟩ := hY.1
    rw [ho0] at ht
    cases Option.some.inj (ht.symm.trans ht0)
    rcases v with va | va | (_ | va) <;> first | (simp only [xv_fit, Bool.false_eq_true] at hfit; done) | skip
    obtain ⟨n, rfl, hn⟩ := hy
    refine va_iast hx hb hK hP hD0 hS a 0 hE ht0 hin1 hdg (fun H1 locs1 hP1 hD1 hS1 => k0 _ _ _ _ (hset _ ?_) hP1 hD1 hS1 hr)
    refine Or.inr ⟨_, _, by show tys[o.1]? = _; rw [ho0]; exact ht0, Or.inl ⟨Or.inl ho0, _, by show _ = Sum.inl (_, (List.set _ _ _).length, _); rw [List.length_set], fun j w hw => ?_⟩⟩
    rcases xr_set hw with ⟨rfl, rfl⟩ | ⟨hne, hw⟩
    · exact ⟨n, by rw [pk_us], hn⟩
    · rw [pk_un hne]
      exact hf _ _ hw
  case bastore =>
    simp only [xv_mem] at h
    obtain ⟨a, q, k, o, E, v, y, x, rest, hset, rfl, rfl, rfl, hr, ho0, hE, he, hfit, hy, hin1, rfl⟩ := xs_ast hD (by decide) h hs hm
    obtain ⟨cA, ty, f, ht, rfl, hf⟩ := xr_e_int he (Or.inr ho0)
    obtain ⟨c0, ht0⟩ := hY.2.2.1
    rw [ho0] at ht
    cases Option.some.inj (ht.symm.trans ht0)
    rcases v with va | va | (_ | va) <;> first | (simp only [xv_fit, Bool.false_eq_true] at hfit; done) | skip
    obtain ⟨n, rfl, hn⟩ := hy
    have hnar : vp_nar .boolean n = n := by
      rcases hD.2.2.2.2.2.2.2.2.2.2.2 va n hfit hn with rfl | rfl
      · rfl
      · rfl
    refine va_zast hx hb hK hP hD0 hS a 2 hE ht0 hin1 hdg (fun H1 locs1 hP1 hD1 hS1 => k0 _ _ _ _ (hset _ ?_) hP1 hD1 hS1 hr)
    refine Or.inr ⟨_, _, by show tys[o.1]? = _; rw [ho0]; exact ht0, Or.inl ⟨Or.inr ho0, _, by show _ = Sum.inl (_, (List.set _ _ _).length, _); rw [List.length_set], fun j w hw => ?_⟩⟩
    rcases xr_set hw with ⟨rfl, rfl⟩ | ⟨hne, hw⟩
    · exact ⟨n, by rw [pk_us, hnar], hn⟩
    · rw [pk_un hne]
      exact hf _ _ hw
  case lastore =>
    simp only [xv_mem] at h
    obtain ⟨a, q, k, o, E, v, y, x, rest, hset, rfl, rfl, rfl, hr, ho0, hE, he, hfit, hy, hin1, rfl⟩ := xs_ast hD (by decide) h hs hm
    obtain ⟨cA, ty, f, ht, rfl, hf⟩ := xr_e_long he ho0
    obtain ⟨c0, ht0⟩ := hY.2.1
    rw [ho0] at ht
    cases Option.some.inj (ht.symm.trans ht0)
    rcases v with va | va | (_ | va) <;> first | (simp only [xv_fit, Bool.false_eq_true] at hfit; done) | skip
    obtain ⟨n, rfl, hn⟩ := hy
    refine va_last hx hb hK hP hD0 hS a 1 hE ht0 hin1 hdg (fun H1 locs1 hP1 hD1 hS1 => k0 _ _ _ _ (hset _ ?_) hP1 hD1 hS1 hr)
    refine Or.inr ⟨_, _, by show tys[o.1]? = _; rw [ho0]; exact ht0, Or.inr (Or.inl ⟨ho0, _, by show _ = Sum.inl (_, (List.set _ _ _).length, _); rw [List.length_set], fun j w hw => ?_⟩)⟩
    rcases xr_set hw with ⟨rfl, rfl⟩ | ⟨hne, hw⟩
    · exact ⟨n, by rw [pk_uLs], hn⟩
    · rw [pk_uLn hne]
      exact hf _ _ hw
  case aastore =>
    simp only [xv_mem] at h
    split at h
    · rename_i v i a S1
      obtain ⟨_, r0, rfl, ⟨qv, hqv, rfl⟩, _, r1, rfl, ⟨x, rfl, hx1⟩, _, r2, rfl, ⟨q, hq, rfl⟩, hr⟩ := hs
      split at h
      · rename_i o ov ho hov
        split at h
        · rename_i ci hat
          cases h1 : Nat.ble 4 o.1 <;> simp only [h1, Bool.true_and, Bool.false_and, cond_true, cond_false] at h
          · cases h
          cases h2 : Nat.blt o.1 7 <;> simp only [h2, Bool.true_and, Bool.false_and, cond_true, cond_false] at h
          · cases h
          cases h3 : Nat.beq ov.1 (8 + ci) <;> simp only [h3, cond_true, cond_false] at h
          · cases h
          split at h
          · rename_i k hk
            obtain ⟨rfl, rfl, rfl, rfl⟩ := by simpa using h
            have g1 := Nat.le_of_ble_eq_true h1
            have g2 : o.1 < 7 := Nat.le_of_ble_eq_true h2
            obtain ⟨b, E, hE, he, hset⟩ := xr_m_at hm ho hq (by omega) (by omega)
            obtain ⟨bv, Ev, hEv, hev, -⟩ := xr_m_at hm hov hqv (by have := Nat.eq_of_beq_eq_true h3; omega) (by have := Nat.eq_of_beq_eq_true h3; omega)
            obtain ⟨fs, rfl, -⟩ := xr_e_obj hev (Nat.eq_of_beq_eq_true h3)
            obtain ⟨cA, ty, f, ht, rfl, hf⟩ := xr_e_ref he ⟨g1, g2⟩
            obtain ⟨-, hin1, rfl, -⟩ := xs_ix hD hk hx1
            obtain ⟨r, hr1, -⟩ := hP bv _ hEv
            obtain ⟨C, T, N⟩ := r
            obtain ⟨c0, ht0⟩ := hY.2.2.2.1 _ _ _ _ _ hat hr1
            rw [show 4 + (o.1 - 4) = o.1 by omega] at ht0
            cases Option.some.inj (ht.symm.trans ht0)
            refine va_astq hx hb hK hP hD0 hS b o.1 bv ci hE ht0 hEv hr1 hin1 hdg (fun H1 locs1 hP1 hD1 hS1 => k0 _ _ _ _ (hset _ _ ?_) hP1 hD1 hS1 hr)
            refine Or.inr ⟨_, _, ht0, Or.inr (Or.inr ⟨⟨g1, g2⟩, _, by show _ = Sum.inl (_, (List.set _ _ _).length, _); rw [List.length_set], fun j w hw => ?_⟩)⟩
            rcases xr_set hw with ⟨rfl, rfl⟩ | ⟨hne, hw⟩
            · exact ⟨qv, hqv, by simp [va_up, va_rf]⟩
            · have := hf _ _ hw
              simpa [va_up, hne] using this
          · cases h
        · cases h
      · cases h
    · cases h
end XSO
end
section
section XSR
variable {V : Type} {D : xv_D V} {g : V → Value → Prop} {φ : List Nat} {tys : List (ClassId × FieldType)}
theorem xr_s_len : ∀ {S : List (xv_V V)} {st : List Value}, xr_s g φ S st → st.length = S.length
  | [], _, h => by rw [show _ = ([] : List Value) from h]; rfl
  | _ :: _, _, ⟨_, _, e, _, k⟩ => by rw [e, List.length_cons, List.length_cons, xr_s_len k]
theorem xr_s_app : ∀ {S S2 : List (xv_V V)} {st st2 : List Value}, xr_s g φ S st → xr_s g φ S2 st2 → xr_s g φ (S ++ S2) (st ++ st2)
  | [], _, _, _, h, h2 => by rw [show _ = ([] : List Value) from h]; exact h2
  | _ :: _, _, _, _, ⟨x, r, e, hv, k⟩, h2 => by rw [e]; exact ⟨x, r ++ _, rfl, hv, xr_s_app k h2⟩
theorem xr_s_take : ∀ {S : List (xv_V V)} {st : List Value} (n : Nat), xr_s g φ S st → xr_s g φ (S.take n) (st.take n)
  | _, _, 0, _ => by rw [List.take_zero, List.take_zero]; exact rfl
  | [], _, n + 1, h => by rw [show _ = ([] : List Value) from h]; exact rfl
  | _ :: _, _, n + 1, ⟨x, r, e, hv, k⟩ => by rw [e, List.take_succ_cons, List.take_succ_cons]; exact ⟨x, _, rfl, hv, xr_s_take n k⟩
theorem xr_s_drop : ∀ {S : List (xv_V V)} {st : List Value} (n : Nat), xr_s g φ S st → xr_s g φ (S.drop n) (st.drop n)
  | _, _, 0, h => by rw [List.drop_zero, List.drop_zero]; exact h
  | [], _, n + 1, h => by rw [show _ = ([] : List Value) from h]; exact rfl
  | _ :: _, _, n + 1, ⟨x, r, e, hv, k⟩ => by rw [e, List.drop_succ_cons, List.drop_succ_cons]; exact xr_s_drop n k
theorem xr_s_rev : ∀ {S : List (xv_V V)} {st : List Value}, xr_s g φ S st → xr_s g φ S.reverse st.reverse
  | [], _, h => by rw [show _ = ([] : List Value) from h]; exact rfl
  | _ :: _, _, ⟨x, r, e, hv, k⟩ => by
    rw [e, List.reverse_cons, List.reverse_cons]
    exact xr_s_app (xr_s_rev k) ⟨x, [], rfl, hv, rfl⟩
theorem xr_s_sl : ∀ {S : List (xv_V V)} {st : List Value}, xr_s g φ S st → (lg_sl st).length = xv_cats S
  | [], _, h => by rw [show _ = ([] : List Value) from h]; rfl
  | v :: _, _, ⟨x, r, e, hv, k⟩ => by
    have hc := xr_v_cat hv
    have ih := xr_s_sl k
    rw [e]
    have h2 : lg_sl (x :: r) = (if x.category = 2 then [.val x, .second] else [.val x]) ++ lg_sl r := by simp [lg_sl]
    rw [h2, List.length_append, ih]
    show _ = xv_cat v + _
    rcases lv_cat x with q | q
    · rw [if_neg (by rw [q]; decide), ← hc, q]; rfl
    · rw [if_pos q, ← hc, q]; rfl
theorem xv_in_len : ∀ (as : List (xv_V V)) (n : Nat), xv_cats as ≤ n → (xv_in as n).length = n
  | [], n, _ => by simp [xv_in]
  | .inr (.inl a) :: r, n, h => by
    have h1 : 2 + xv_cats r ≤ n := h
    simp only [xv_in, List.length_cons]
    rw [xv_in_len r (n - 2) (by omega)]
    omega
  | .inl a :: r, n, h => by
    have h1 : 1 + xv_cats r ≤ n := h
    simp only [xv_in, List.length_cons]
    rw [xv_in_len r (n - 1) (by omega)]
    omega
  | .inr (.inr a) :: r, n, h => by
    have h1 : 1 + xv_cats r ≤ n := h
    simp only [xv_in, List.length_cons]
    rw [xv_in_len r (n - 1) (by omega)]
    omega
theorem xv_in_at : ∀ {as : List (xv_V V)} {vs : List Value} (k n i : Nat) {v : xv_V V}, xr_s g φ as vs → (xv_in as n)[i]? = some (some v) → ∃ x : Value, (k + i, x) ∈ lv_args k vs ∧ xr_v g φ v x
  | [], _, k, n, i, v, _, h => by
    simp only [xv_in] at h
    have := List.eq_of_mem_replicate (List.mem_of_getElem? h)
    cases this
  | .inr (.inl a) :: r, _, k, n, i, v, ⟨x, vr, e, hv, hr⟩, h => by
    have hc : x.category = 2 := xr_v_cat hv
    rw [e]
    simp only [lv_args, hc, if_true]
    simp only [xv_in] at h
    match i, h with
    | 0, h =>
      cases Option.some.inj (Option.some.inj h)
      exact ⟨x, List.mem_cons_self, hv⟩
    | 1, h => simp at h
    | j + 2, h =>
      obtain ⟨y, hy, hyv⟩ := xv_in_at (k + 2) (n - 2) j hr (by simpa using h)
      exact ⟨y, List.mem_cons_of_mem _ (by rw [show k + (j + 2) = k + 2 + j by omega]; exact hy), hyv⟩
  | .inl a :: r, _, k, n, i, v, ⟨x, vr, e, hv, hr⟩, h => by
    have hc : x.category = 1 := xr_v_cat hv
    rw [e]
    simp only [lv_args, hc]
    simp only [xv_in] at h
    match i, h with
    | 0, h =>
      cases Option.some.inj (Option.some.inj h)
      exact ⟨x, List.mem_cons_self, hv⟩
    | j + 1, h =>
      obtain ⟨y, hy, hyv⟩ := xv_in_at (k + 1) (n - 1) j hr (by simpa using h)
      exact ⟨y, List.mem_cons_of_mem _ (by rw [show k + (j + 1) = k + 1 + j by omega]; exact hy), hyv⟩
  | .inr (.inr a) :: r, _, k, n, i, v, ⟨x, vr, e, hv, hr⟩, h => by
    have hc : x.category = 1 := xr_v_cat hv
    rw [e]
    simp only [lv_args, hc]
    simp only [xv_in] at h
    match i, h with
    | 0, h =>
      cases Option.some.inj (Option.some.inj h)
      exact ⟨x, List.mem_cons_self, hv⟩
    | j + 1, h =>
      obtain ⟨y, hy, hyv⟩ := xv_in_at (k + 1) (n - 1) j hr (by simpa using h)
      exact ⟨y, List.mem_cons_of_mem _ (by rw [show k + (j + 1) = k + 1 + j by omega]; exact hy), hyv⟩
/-- what a copy lays -/
theorem xs_cpy {f h : Nat → Int32} {xa xb : List (xv_V V)} {sp dp n j : Nat} {v : xv_V V} (ha : ∀ (j : Nat) (v : xv_V V), xa[j]? = some v → xr_v g φ v (.int (f j))) (hb : ∀ (j : Nat) (v : xv_V V), xb[j]? = some v → xr_v g φ v (.int (h j))) (h1 : sp + n ≤ xa.length) (h2 : dp + n ≤ xb.length)
    (hv : (xb.take dp ++ ((xa.drop sp).take n ++ xb.drop (dp + n)))[j]? = some v) : xr_v g φ v (.int (va_cpy f h sp dp n j)) := by
  unfold va_cpy
  have l1 : (xb.take dp).length = dp := by rw [List.length_take]; omega
  have l2 : ((xa.drop sp).take n).length = n := by rw [List.length_take, List.length_drop]; omega
  by_cases q1 : j < dp
  · rw [List.getElem?_append_left (by omega), List.getElem?_take, if_pos q1] at hv
    rw [if_neg (by omega)]
    exact hb _ _ hv
  · rw [List.getElem?_append_right (by omega), l1] at hv
    by_cases q2 : j < dp + n
    · rw [List.getElem?_append_left (by omega), List.getElem?_take, if_pos (by omega), List.getElem?_drop] at hv
      rw [if_pos ⟨by omega, q2⟩]
      exact ha _ _ hv
    · rw [List.getElem?_append_right (by omega), l2, List.getElem?_drop] at hv
      rw [if_neg (by omega)]
      rw [show dp + n + (j - dp - n) = j by omega] at hv
      exact hb _ _ hv
end XSR
section XST
variable {p : Program} {l : Launch} {e : Env} {R : Room} {s : State} {m : MethodId} {args : Array Value} {below : List Frame} {meth : Method} {c : Code} {H : Heap} {locs : List Loc} {cells slots : Nat} {Q : State → Prop}
variable {cc : ByteArray} {pc : Nat} {V : Type} {C : Nat → xv_O V → Prop} {D : xv_D V} {g : V → Value → Prop} {φ : List Nat} {M M' : xv_M V} {S S' : List (xv_V V)} {ls : Array Slot} {st : List Value}
variable {Dg : va_G} {cl : List vw_C} {tys : List (ClassId × FieldType)} {A : Nat → Prop} {H0 : Heap} {ws : va_W}
set_option maxHeartbeats 4000000 in
/-- CALLS THAT ARE NO WALK -/
theorem xs_nat (hx : p.tables.exec = Jvm.exec) (hb : c.code = cc) (hml : c.maxLocals = ls.size) {own : String} (hown : s.vm.findClass own = some m.cls) (hD : xv_ok D g) {K : xv_K} {at_ : List Nat} (hY : xc_tys cl at_ tys)
    (h5 : ∀ i j : Nat, xv_find K.2.1 i = some (5, j) → (Jvm.Cond.methodLink own i Lib.objectInit).before args s = true) (h5i : (Jvm.Cond.instanceMethod Lib.objectInit).before args s = true) (h5c : (Jvm.Cond.code Lib.objectInit ⟨#[0xb1]⟩ 1 none).before args s = true)
    (h6 : ∀ i j : Nat, xv_find K.2.1 i = some (6, j) → (Jvm.Cond.methodLink own i arraycopyName).before args s = true) (h6n : (Jvm.Cond.native arraycopyName).before args s = true) (h6s : (Jvm.Cond.static arraycopyName).before args s = true) (h6i : (Jvm.Cond.initialized "java/lang/System").before args s = true)
    {sct : List (List Int32)}
    (hch : ∀ (i j n k : Nat) (cs : List Int32) (b x : Int32) (q : Nat) (rest : List Value), xv_find K.2.1 i = some (4, j) → sct[n]? = some cs → cs[k]? = some b → x.toNatClampNeg = k → ¬ x < 0 → φ[n]? = some q → (rest.map fun v => v.category).sum ≤ 8 → decode cc pc = .ok (.invokevirtual i, 3) → W p l e R s m args below meth c H locs cells slots Q (F0 m (pc + 3) ls (.int (b &&& 255) :: rest)) → W p l e R s m args below meth c H locs cells slots Q (F0 m pc ls (.int x :: .ref q :: rest)))
    (hRf : 1 ≤ R.frames) (hRl : 44 ≤ R.locals) (hK : va_K Dg cl tys s) {i : Instr} (h : xv_nat D sct K M S i = some (S', M')) (hdg : decode cc pc = .ok (i, xv_len i))
    (hm : xr_m C g φ tys M ws) (hP : va_P Dg cl ws H) (hD0 : va_D A ws) (hS : va_S A H0 H locs) (hs : xr_s g φ S st)
    (kk : ∀ (ws' : va_W) (H' : Heap) (locs' : List Loc) (st' : List Value), xr_m C g φ tys M' ws' → va_P Dg cl ws' H' → va_D A ws' → va_S A H0 H' locs' → xr_s g φ S' st' → W p l e R s m args below meth c H' locs' cells slots Q (F0 m (pc + 3) ls st')) :
    W p l e R s m args below meth c H locs cells slots Q (F0 m pc ls st) := by
  cases i
  all_goals (first | (simp only [xv_nat, reduceCtorEq] at h; done) | skip)
  case invokespecial i =>
    simp only [xv_nat] at h
    split at h
    · rename_i j hj
      split at h
      · rename_i a S1
        obtain ⟨_, r1, rfl, ⟨q, hq, rfl⟩, hr⟩ := hs
        cases hc : Nat.ble (xv_cats S1) 8 <;> simp only [hc, cond_true, cond_false] at h
        · cases h
        obtain ⟨rfl, rfl⟩ := by simpa using h
        have hcat := xr_s_cats hr
        have h8 := Nat.le_of_ble_eq_true hc
        refine W.objInit hx hb hown (h5 _ _ hj) h5i h5c rfl hml.symm rfl hdg hRf ?_ (kk _ _ _ _ hm hP hD0 hS hr)
        show 2 * 0 + _ + 12 ≤ R.locals
        rw [hcat]
        omega
      · cases h
    · cases h
  case invokestatic i =>
    simp only [xv_nat] at h
    split at h
    · rename_i j hj
      unfold xv_copy at h
      split at h
      · rename_i n dp b sp a S1
        obtain ⟨_, r0, rfl, ⟨xn, rfl, hn⟩, _, r1, rfl, ⟨xd, rfl, hd⟩, _, r2, rfl, ⟨qb, hqb, rfl⟩, _, r3, rfl, ⟨xsp, rfl, hsp⟩, _, r4, rfl, ⟨qa, hqa, rfl⟩, hr⟩ := hs
        split at h
        · rename_i oa ob hoa hob
          cases h1 : Nat.beq oa.1 0 <;> simp only [h1, Bool.true_and, Bool.false_and, cond_true, cond_false] at h
          · cases h
          cases h2 : Nat.beq ob.1 0 <;> simp only [h2, Bool.true_and, Bool.false_and, cond_true, cond_false] at h
          · cases h
          cases h3 : Nat.ble (xv_cats S1) 8 <;> simp only [h3, cond_true, cond_false] at h
          · cases h
          split at h
          · rename_i n' dp' sp' en ed es
            cases h4 : Nat.ble (sp' + n') oa.2.length <;> simp only [h4, Bool.true_and, Bool.false_and, cond_true, cond_false] at h
            · cases h
            cases h55 : Nat.ble (dp' + n') ob.2.length <;> simp only [h55, cond_true, cond_false] at h
            · cases h
            obtain ⟨rfl, rfl⟩ := by simpa using h
            obtain ⟨-, -, cn, nn⟩ := xs_ix hD en hn
            obtain ⟨-, -, cd, nd⟩ := xs_ix hD ed hd
            obtain ⟨-, -, csp, nsp⟩ := xs_ix hD es hsp
            have l4 := Nat.le_of_ble_eq_true h4
            have l5 := Nat.le_of_ble_eq_true h55
            have z1 := Nat.eq_of_beq_eq_true h1
            have z2 := Nat.eq_of_beq_eq_true h2
            obtain ⟨ia, Ea, hEa, hea, -⟩ := xr_m_at hm hoa hqa (by omega) (by omega)
            obtain ⟨ib, Eb, hEb, heb, hset⟩ := xr_m_at hm hob hqb (by omega) (by omega)
            obtain ⟨cA, ty, f, ht, rfl, hf⟩ := xr_e_int hea (Or.inl z1)
            obtain ⟨cB, tyb, f2, ht2, rfl, hf2⟩ := xr_e_int heb (Or.inl z2)
            obtain ⟨c0, ht0⟩ := hY.1
            rw [z1] at ht
            rw [z2] at ht2
            cases Option.some.inj (ht.symm.trans ht0)
            cases Option.some.inj (ht2.symm.trans ht0)
            have hcat := xr_s_cats hr
            have h8 := Nat.le_of_ble_eq_true h3
            refine va_copyi hx hb hml hown (h6 _ _ hj) h6n h6s h6i hK hP hD0 hS ia ib 0 0 hEa hEb ht0 ht0 rfl nsp nd nn (by rw [csp, cn]; exact l4) (by rw [cd, cn]; exact l5) (fun _ _ => rfl) hRf ?_ hdg (fun H1 locs1 hP1 hD1 hS1 => kk _ _ _ _ (hset _ _ ?_) hP1 hD1 hS1 hr)
            · rw [hcat, show nativeFrameWords "java/lang/System" "arraycopy" 5 = 7 by decide]
              omega
            · rw [cn, cd, csp]
              have hlen : (ob.2.take dp' ++ ((oa.2.drop sp').take n' ++ ob.2.drop (dp' + n'))).length = ob.2.length := by
                rw [List.length_append, List.length_append, List.length_take, List.length_take, List.length_drop, List.length_drop]
                omega
              refine Or.inr ⟨_, _, ht0, Or.inl ⟨Or.inl rfl, _, by rw [hlen], fun j w hw => ?_⟩⟩
              exact xs_cpy hf hf2 l4 l5 hw
          · cases h
        · cases h
      · cases h
    · cases h
  case invokevirtual i =>
    simp only [xv_nat] at h
    split at h
    · rename_i j hj
      split at h
      · rename_i a n S1
        obtain ⟨_, r0, rfl, ⟨x, rfl, hx1⟩, _, r1, rfl, ⟨q, hq, rfl⟩, hr⟩ := hs
        split at h
        · rename_i cs hcs
          split at h
          · rename_i k hk
            split at h
            · rename_i b hb1
              cases h3 : Nat.ble (xv_cats S1) 8 <;> simp only [h3, cond_true, cond_false] at h
              · cases h
              obtain ⟨rfl, rfl⟩ := by simpa using h
              obtain ⟨-, -, c1, c2⟩ := xs_ix hD hk hx1
              have hcat := xr_s_cats hr
              have h8 := Nat.le_of_ble_eq_true h3
              exact hch i j n k cs b x q r1 hj hcs hb1 c1 c2 hq (by rw [hcat]; exact h8) hdg (kk _ _ _ _ hm hP hD0 hS ⟨_, _, rfl, ⟨_, rfl, hD.1 _⟩, hr⟩)
            · cases h
          · cases h
        · cases h
      · cases h
    · cases h
end XST
end
section
abbrev xm_Z : Type := MethodName × ByteArray × Option FieldType
def xv_ret : Nat → Option FieldType
  | 0 => none
  | 1 => some .int
  | 2 => some .long
  | _ => some .boolean
/-- the constant texts: their bytes, their addresses, the addresses of their bytes, where they are named (class, entry, text, number); and then the constant arrays of ints: their numbers, lengths, contents -/
abbrev xk_C : Type := List (List Int32) × (Nat → Nat) × (Nat → Nat) × List (String × Nat × String × Nat) × List Nat × (Nat → Nat) × (Nat → Nat → Int32)
def xk_W (kx : xk_C) (A : Nat → Prop) (U : State) (H : Heap) : Prop := vk_S kx.1.length (kx.1.map List.length) kx.1 kx.2.1 kx.2.2.1 A U H ∧ ∀ k ∈ kx.2.2.2.2.1, va_X (kx.2.1 k) (kx.2.2.2.2.2.1 k) (kx.2.2.2.2.2.2 k) U H ∧ kx.2.1 k < H.size ∧ ¬ A (kx.2.1 k)
/-- a constant array's cell -/
def xk_c {V : Type} (g : V → Value → Prop) (kx : xk_C) (k : Nat) (o : xv_O V) : Prop := k ∈ kx.2.2.2.2.1 ∧ o.2.length = kx.2.2.2.2.2.1 k ∧ ∀ (j : Nat) (v : xv_V V), o.2[j]? = some v → ∃ a, v = .inl a ∧ g a (.int (kx.2.2.2.2.2.2 k j))
def xk_R (kx : xk_C) (U : State) : Prop := ∀ q ∈ kx.2.2.2.1, vk_R q.1 q.2.1 q.2.2.1 (kx.2.1 q.2.2.2) U
def xk_F (kx : xk_C) (φ : List Nat) : Prop := (∀ n, n < kx.1.length → φ[n]? = some (kx.2.1 n)) ∧ ∀ k ∈ kx.2.2.2.2.1, φ[k]? = some (kx.2.1 k)
def xk_y : MethodName := ⟨"java/lang/String", "charAt", "(I)C"⟩
def xk_rm : Room := { frames := 1, cells := 0, slots := 0, locals := 22 }
/-- charAt of a constant text -/
def xk_Ch (l : Launch) (tb : List Jvm.Cond) (kcc : ByteArray) (kx : xk_C) : Prop := ∀ (A : Nat → Prop) (n k : Nat) (cs : List Int32) (b x : Int32), kx.1[n]? = some cs → cs[k]? = some b → x.toNatClampNeg = k → ¬ x < 0 →
  Met l xk_y (.code xk_y kcc 2 (some .char) :: tb) xk_rm (va_Pc [.ref (kx.2.1 n), .int x] (fun U => vk_S kx.1.length (kx.1.map List.length) kx.1 kx.2.1 kx.2.2.1 A U U.heap)) (QcRead (b &&& 255)) 0 0 (fun _ => False)
theorem xk_F.mono {kx : xk_C} {φ t : List Nat} (h : xk_F kx φ) : xk_F kx (φ ++ t) := ⟨fun n hn => by
  have h1 := h.1 n hn
  rw [List.getElem?_append_left (List.getElem?_eq_some_iff.mp h1).1]
  exact h1, fun n hn => by
  have h1 := h.2 n hn
  rw [List.getElem?_append_left (List.getElem?_eq_some_iff.mp h1).1]
  exact h1⟩
theorem xk_W.moved {kx : xk_C} {A : Nat → Prop} {u U : State} {H : Heap} (hvm : u.vm.Alike U.vm) (h : xk_W kx A u H) : xk_W kx A U H := ⟨vk_S.moved hvm h.1, fun k hk => ⟨va_X.moved hvm (h.2 k hk).1, (h.2 k hk).2⟩⟩
theorem xk_W.kept {kx : xk_C} {A : Nat → Prop} {U : State} {H0 H : Heap} {locs : List Loc} (h : xk_W kx A U H0) (hS : va_S A H0 H locs) : xk_W kx A U H := ⟨vk_S.kept h.1 hS.2.1, fun k hk => ⟨va_X.kept (h.2 k hk).1 (hS.2.1 _ (h.2 k hk).2.1 (h.2 k hk).2.2), Nat.lt_of_lt_of_le (h.2 k hk).2.1 hS.1, (h.2 k hk).2.2⟩⟩
theorem xk_W.narrow {kx : xk_C} {A B : Nat → Prop} {U : State} {H : Heap} (h : xk_W kx A U H) (hAB : ∀ q, B q → A q) : xk_W kx B U H := ⟨vk_S.narrow h.1 hAB, fun k hk => ⟨(h.2 k hk).1, (h.2 k hk).2.1, fun z => (h.2 k hk).2.2 (hAB _ z)⟩⟩
def xm_K (Dg : va_G) (cl : List vw_C) (tys : List (ClassId × FieldType)) (at_ : List Nat) (nest : List (String × Nat × MethodName × String)) (kx : xk_C) (U : State) : Prop :=
  va_K Dg cl tys U ∧ xc_ao cl at_ U ∧ (∀ q ∈ nest, va_Nw (.methodLinkNest q.1 q.2.1 q.2.2.1 q.2.2.2) U) ∧ xk_R kx U
theorem xm_K.warm {Dg : va_G} {cl : List vw_C} {tys : List (ClassId × FieldType)} {at_ : List Nat} {nest : List (String × Nat × MethodName × String)} {kx : xk_C} {s U : State} (hW : s.WarmedH U.vm) (h : xm_K Dg cl tys at_ nest kx s) : xm_K Dg cl tys at_ nest kx U :=
  ⟨va_K.moved hW.alike h.1, fun n cj C T N h1 h2 => va_AO.moved hW.alike (h.2.1 n cj C T N h1 h2), fun q hq => va_Nw.warmM hW (h.2.2.1 q hq), fun q hq => vk_R.warm hW (h.2.2.2 q hq)⟩
theorem xm_K.calling {Dg : va_G} {cl : List vw_C} {tys : List (ClassId × FieldType)} {at_ : List Nat} {nest : List (String × Nat × MethodName × String)} {kx : xk_C} {U : State} {g : JFrame} {mk : MethodId} {a : Array Value} (h : xm_K Dg cl tys at_ nest kx U) : xm_K Dg cl tys at_ nest kx (U.calling g mk a) :=
  ⟨va_K.moved (u := U) (U := U.calling g mk a) (Vm.Alike.refl U.vm) h.1, fun n cj C T N h1 h2 => va_AO.moved (u := U) (U := U.calling g mk a) (Vm.Alike.refl U.vm) (h.2.1 n cj C T N h1 h2), fun q hq => va_Nw.same rfl rfl (h.2.2.1 q hq), fun q hq => vk_R.same rfl (h.2.2.2 q hq)⟩
def xm_rm (d : Nat) (y : xv_N) : Room := { frames := d + 1, cells := y.2.2.1.1, slots := y.2.2.1.2, locals := 44 * (d + 1) }
def xm_A {V : Type} (g : V → Value → Prop) (φ : List Nat) : Option (xv_V V) → Option Value → Prop
  | none, v => v = none
  | some a, v => ∃ x : Value, v = some x ∧ xr_v g φ a x
def xm_Q {V : Type} (C : Nat → xv_O V → Prop) (g : V → Value → Prop) (tys : List (ClassId × FieldType)) (Dg : va_G) (cl : List vw_C) (r : xv_R V) (φ : List Nat) (A : Nat → Prop) : Array Value → State → Outcome → State → Prop := fun _ st oc t =>
  (∃ (v : Option Value) (ts : List Nat) (ws' : va_W), oc = .returned v ∧ xm_A g (φ ++ ts) r.1 v ∧ xr_m C g (φ ++ ts) tys r.2 ws' ∧ va_P Dg cl ws' t.heap ∧ va_D A ws') ∧ va_F A st t
def xm_P (Dg : va_G) (cl : List vw_C) (tys : List (ClassId × FieldType)) (at_ : List Nat) (nest : List (String × Nat × MethodName × String)) (kx : xk_C) (ws : va_W) (sz : Nat) (vals : List Value) : Array Value → State → Prop :=
  va_Pc vals (fun U => U.heap.size = sz ∧ va_P Dg cl ws U.heap ∧ xm_K Dg cl tys at_ nest kx U ∧ va_D (fun _ => True) ws ∧ xk_W kx (va_A ws sz) U U.heap)
/-- THE CONTRACT of the method j out of the pure machine's run: at most d frames -/
def xm_Con (l : Launch) {V : Type} (g : V → Value → Prop) (tys : List (ClassId × FieldType)) (Dg : va_G) (cl : List vw_C) (at_ : List Nat) (nest : List (String × Nat × MethodName × String)) (kx : xk_C) (tb : List Jvm.Cond) (ms : List xv_N) (ys : List xm_Z) (d j : Nat) (as : List (xv_V V)) (M : xv_M V) (r : xv_R V) : Prop :=
  ∀ (y : xv_N) (z : xm_Z), ms[j]? = some y → ys[j]? = some z → ∀ (φ : List Nat) (ws : va_W) (vals : List Value) (sz : Nat), xr_m (xk_c g kx) g φ tys M ws → xr_s g φ as vals → xk_F kx φ →
    Met l z.1 (.code z.1 z.2.1 y.2.1.2.1 z.2.2 :: tb) (xm_rm d y) (xm_P Dg cl tys at_ nest kx ws sz vals) (xm_Q (xk_c g kx) g tys Dg cl r φ (va_A ws sz)) y.2.2.1.1 y.2.2.1.2 (va_A ws sz)
def xc_dec (cc : ByteArray) (q : xv_I) : Prop := ∃ len, decode cc q.1 = .ok (q.2, len) ∧ (xv_sw q.2 = true ∨ len = xv_len q.2)
def xc_mth (tb : List Jvm.Cond) (nest : List (String × Nat × MethodName × String)) (ys : List xm_Z) (own : String) (K : xv_K) : Prop := ∀ i k j : Nat, xv_find K.2.1 i = some (k, j) →
  (k = 0 → ∃ z, ys[j]? = some z ∧ Jvm.Cond.methodLink own i z.1 ∈ tb ∧ Jvm.Cond.instanceMethod z.1 ∈ tb ∧ Jvm.Cond.selects z.1.cls z.1 z.1 ∈ tb) ∧
  (k = 1 → ∃ z, ys[j]? = some z ∧ Jvm.Cond.methodLink own i z.1 ∈ tb ∧ Jvm.Cond.instanceMethod z.1 ∈ tb ∧ z.1.name = "<init>" ∧ z.2.2 = none) ∧
  (k = 2 → ∃ z host, ys[j]? = some z ∧ (own, i, z.1, host) ∈ nest ∧ Jvm.Cond.instanceMethod z.1 ∈ tb ∧ z.1.name = "<init>" ∧ z.2.2 = none) ∧
  (k = 3 → ∃ z, ys[j]? = some z ∧ Jvm.Cond.methodLink own i z.1 ∈ tb ∧ Jvm.Cond.static z.1 ∈ tb) ∧
  (k = 4 → Jvm.Cond.methodLink own i xk_y ∈ tb) ∧ (k = 5 → Jvm.Cond.methodLink own i Lib.objectInit ∈ tb) ∧ (k = 6 → Jvm.Cond.methodLink own i arraycopyName ∈ tb)
def xc_str (sct : List (List Int32)) (strs : List (String × Nat × String × Nat)) (own : String) (K : xv_K) : Prop := ∀ i n : Nat, xv_find K.2.2.1 i = some n → 2000 ≤ n → n - 2000 < sct.length ∧ ∃ tx, (own, i, tx, n - 2000) ∈ strs
def xc_cst (tb : List Jvm.Cond) (own : String) (K : xv_K) : Prop := (∀ (i : Nat) (v : Int32), xv_find K.2.2.2.1 i = some v → Jvm.Cond.constant own i v ∈ tb) ∧ ∀ (i : Nat) (v : Int64), xv_find K.2.2.2.2 i = some v → Jvm.Cond.constantLong own i v ∈ tb
def xc_nat (tb : List Jvm.Cond) (kcc : ByteArray) : Prop := (Jvm.Cond.instanceMethod xk_y ∈ tb ∧ Jvm.Cond.selects "java/lang/String" xk_y xk_y ∈ tb ∧ Jvm.Cond.initialized "java/lang/String" ∈ tb ∧ Jvm.Cond.code xk_y kcc 2 (some .char) ∈ tb) ∧ Jvm.Cond.instanceMethod Lib.objectInit ∈ tb ∧ Jvm.Cond.code Lib.objectInit ⟨#[0xb1]⟩ 1 none ∈ tb ∧ Jvm.Cond.native arraycopyName ∈ tb ∧ Jvm.Cond.static arraycopyName ∈ tb ∧ Jvm.Cond.initialized "java/lang/System" ∈ tb
/-- the body of a method: its instructions and links -/
def xc_bod (tb : List Jvm.Cond) (nest : List (String × Nat × MethodName × String)) (cl : List vw_C) (ct : List (List (FieldType × Bool))) (at_ : List Nat) (sct : List (List Int32)) (strs : List (String × Nat × String × Nat)) (ys : List xm_Z) (y : xv_N) (z : xm_Z) : Prop :=
  xv_ret y.2.1.2.2.1 = z.2.2 ∧ (y.2.1.2.2.2 = 1 → z.1.name = "<init>") ∧ (∀ (C : String) (T : u_T) (N : Nat), cl[y.1.1]? = some (C, T, N) → C = z.1.cls) ∧
  (∀ q ∈ y.2.2.2, xc_dec z.2.1 q) ∧ xc_fld tb cl ct z.1.cls y.1.2 ∧ xc_new tb cl at_ z.1.cls y.1.2 ∧ xc_cst tb z.1.cls y.1.2 ∧ xc_str sct strs z.1.cls y.1.2 ∧ xc_mth tb nest ys z.1.cls y.1.2
/-- a method of the table is what its row says -/
def xc_one (tb : List Jvm.Cond) (nest : List (String × Nat × MethodName × String)) (cl : List vw_C) (ct : List (List (FieldType × Bool))) (at_ : List Nat) (sct : List (List Int32)) (strs : List (String × Nat × String × Nat)) (ys : List xm_Z) (y : xv_N) (z : xm_Z) : Prop :=
  plainName z.1.cls = true ∧ Jvm.Cond.code z.1 z.2.1 y.2.1.2.1 z.2.2 ∈ tb ∧ Jvm.Cond.initialized z.1.cls ∈ tb ∧
  (z.1.cls ≠ "java/lang/invoke/MethodHandle" ∧ z.1.cls ≠ "java/lang/invoke/VarHandle" ∧ (parseMethodDescriptor z.1.desc).map (fun d => d.parameters.length) = some y.2.1.1) ∧
  y.2.1.2.1 ≤ 25 ∧ xc_bod tb nest cl ct at_ sct strs ys y z
/-- all tables -/
def xc_all (tb : List Jvm.Cond) (nest : List (String × Nat × MethodName × String)) (cl : List vw_C) (ct : List (List (FieldType × Bool))) (at_ : List Nat) (sct : List (List Int32)) (strs : List (String × Nat × String × Nat)) (kcc : ByteArray) (ms : List xv_N) (ys : List xm_Z) : Prop :=
  (∀ w ∈ tb, goodWord w = true) ∧ xc_cls tb cl ct ∧ xc_arr tb ∧ xc_nat tb kcc ∧ ∀ (j : Nat) (y : xv_N), ms[j]? = some y → ∃ z, ys[j]? = some z ∧ xc_one tb nest cl ct at_ sct strs ys y z
theorem xc_good {tb : List Jvm.Cond} (h : ∀ w ∈ tb, goodWord w = true) {w0 w1 : Jvm.Cond} (h1 : w1 ∈ tb) : GoodIn (w0 :: tb) (w1 :: tb) := by
  intro w hw
  have hm : w ∈ tb := by
    rcases List.mem_cons.mp hw with q | q
    · rw [q]; exact h1
    · exact q
  exact ⟨List.mem_cons_of_mem _ hm, good_of_word (h w hm)⟩
section XSU
variable {p : Program} {l : Launch} {e : Env} {R : Room} {s : State} {m : MethodId} {args : Array Value} {below : List Frame} {meth : Method} {c : Code} {H : Heap} {locs : List Loc} {cells slots : Nat} {Q : State → Prop}
variable {cc : ByteArray} {pc : Nat} {V : Type} {C : Nat → xv_O V → Prop} {D : xv_D V} {g : V → Value → Prop} {φ : List Nat} {M : xv_M V} {S : List (xv_V V)} {ls : Array Slot} {st : List Value}
variable {Dg : va_G} {cl : List vw_C} {tys : List (ClassId × FieldType)} {A : Nat → Prop} {H0 : Heap} {ws : va_W} {at_ : List Nat} {nest : List (String × Nat × MethodName × String)} {kx : xk_C} {kcc : ByteArray}
/-- behind a call -/
theorem xs_after {r : xv_R V} {rest st0 : List Value} {a : Array Value} {mc ms : Nat} (hr : va_Run p l e R s m args below meth c H locs cells slots mc ms (F0 m pc ls st0) rest (xm_Q C g tys Dg cl r φ (va_A ws H.size) a) (va_A ws H.size)) (hD0 : va_D A ws) (hS : va_S A H0 H locs) (hA : ∀ q, H0.size ≤ q → A q)
    (kk : ∀ (v : Option Value) (ts : List Nat) (ws' : va_W) (H1 : Heap) (locs1 : List Loc), xm_A g (φ ++ ts) r.1 v → xr_m C g (φ ++ ts) tys r.2 ws' → va_P Dg cl ws' H1 → va_D A ws' → va_S A H0 H1 locs1 → W p l e R s m args below meth c H1 locs1 (cells + mc) (slots + ms) Q (F0 m (pc + 3) ls (v.toList ++ rest))) :
    W p l e R s m args below meth c H locs cells slots Q (F0 m pc ls st0) := by
  have hAA : ∀ q, va_A ws H.size q → A q := fun q hq => by
    rcases hq with ⟨k, E, hk⟩ | hq
    · exact hD0.2 k _ hk
    · exact hA q (Nat.le_trans hS.1 hq)
  intro T hT X
  obtain ⟨v, st₀, t, T', L, h0, X', hL, e1, e2, ⟨⟨v', ts, ws', hv, h1, h2, h3, h4⟩, hz, hk⟩, st⟩ := hr T hT X
  cases hv
  rw [h0] at hz hk
  obtain ⟨t2, a1, b1⟩ := kk v ts ws' T'.heap (locs ++ L) h1 h2 (by rw [e1]; exact h3) (h4.weaken (fun _ _ _ z => hAA _ z))
    ⟨Nat.le_trans hS.1 (by rw [e1]; exact hz), fun q g1 g2 => by rw [e1, hk q (Nat.lt_of_lt_of_le g1 hS.1) (fun z => g2 (hAA q z))]; exact hS.2.1 q g1 g2, fun q hq => by
      rcases List.mem_append.mp hq with h | h
      · exact hS.2.2 q h
      · exact hAA _ (hL q h)⟩ T' rfl X'
  exact ⟨t2, st t2 a1, b1⟩
theorem xm_blind {ws : va_W} {sz : Nat} {vals : List Value} : FrameBlind (xm_P Dg cl tys at_ nest kx ws sz vals) := fun a U g mk q => ⟨q.1, q.2.1, q.2.2.1, q.2.2.2.1.calling, q.2.2.2.2.1, xk_W.moved (u := U) (U := U.calling g mk a) (Vm.Alike.refl U.vm) q.2.2.2.2.2⟩
theorem xm_pre {ws : va_W} {vals : List Value} (hK : xm_K Dg cl tys at_ nest kx s) (hkw : xk_W kx A s s.heap) (hP : va_P Dg cl ws H) (hD0 : va_D A ws) (hS : va_S A s.heap H locs) (hA : ∀ q, s.heap.size ≤ q → A q) : ∀ U : State, U.heap = H → s.WarmedH U.vm → xm_P Dg cl tys at_ nest kx ws H.size vals vals.toArray U := fun U hU hW =>
  ⟨rfl, by rw [hU], by rw [hU]; exact hP, hK.warm hW, hD0.weaken (fun _ _ _ _ => trivial), by
    rw [hU]
    refine xk_W.moved hW.alike (xk_W.narrow (xk_W.kept hkw hS) (fun q hq => ?_))
    rcases hq with ⟨k, E, hk⟩ | hq
    · exact hD0.2 k _ hk
    · exact hA q (Nat.le_trans hS.1 hq)⟩
set_option maxHeartbeats 4000000 in
/-- CALLS -/
theorem xs_call {own : String} {ys : List xm_Z} {ms : List xv_N} {K : xv_K} {tb : List Jvm.Cond} {ct : List (List (FieldType × Bool))} {w0 : Jvm.Cond} {d nL : Nat} (hx : p.tables.exec = Jvm.exec) (hb : c.code = cc) (hml : c.maxLocals = nL) (hls : ls.size = nL) (hown : s.vm.findClass own = some m.cls) (hts : ∀ w ∈ (w0 :: tb), w.before args s = true)
    {sct : List (List Int32)} {strs : List (String × Nat × String × Nat)} (hall : xc_all tb nest cl ct at_ sct strs kcc ms ys) (hMt : xc_mth tb nest ys own K) (hK : xm_K Dg cl tys at_ nest kx s) (hkw : xk_W kx A s s.heap) (hkF : xk_F kx φ) (hRf : d + 2 ≤ R.frames) (hRl : 44 * (d + 2) ≤ R.locals) (hA : ∀ q, s.heap.size ≤ q → A q)
    {i : Instr} {j : Nat} {as Rs : List (xv_V V)} (h : xv_arg ms K M S i = some (j, as, Rs)) {z : xv_N} (hz : ms[j]? = some z) {r : xv_R V} (hcon : xm_Con l g tys Dg cl at_ nest kx tb ms ys d j as M r) (hdg : decode cc pc = .ok (i, xv_len i))
    (hm : xr_m (xk_c g kx) g φ tys M ws) (hP : va_P Dg cl ws H) (hD0 : va_D A ws) (hS : va_S A s.heap H locs) (hs : xr_s g φ S st) (hc1 : cells + z.2.2.1.1 ≤ R.cells) (hc2 : slots + z.2.2.1.2 ≤ R.slots)
    (kk : ∀ (t : List Nat) (ws' : va_W) (H' : Heap) (locs' : List Loc) (st' : List Value), xr_m (xk_c g kx) g (φ ++ t) tys r.2 ws' → va_P Dg cl ws' H' → va_D A ws' → va_S A s.heap H' locs' → xr_s g (φ ++ t) (r.1.toList ++ Rs) st' → W p l e R s m args below meth c H' locs' (cells + z.2.2.1.1) (slots + z.2.2.1.2) Q (F0 m (pc + 3) ls st')) :
    W p l e R s m args below meth c H locs cells slots Q (F0 m pc ls st) := by
  have htb : ∀ w ∈ tb, w ∈ (w0 :: tb) := fun w hw => List.mem_cons_of_mem _ hw
  obtain ⟨y, hy, hp1, hcode, hini, hd, hml2, hret, -, hcn, -⟩ := hall.2.2.2.2 j z hz
  have hG : GoodIn (w0 :: tb) (Jvm.Cond.code y.1 y.2.1 z.2.1.2.1 y.2.2 :: tb) := xc_good hall.1 hcode
  have hroom : (xm_rm d z).frames + 1 ≤ R.frames ∧ 8 + (z.2.1.2.1 + 11) + (xm_rm d z).locals ≤ R.locals := ⟨hRf, by show 8 + (z.2.1.2.1 + 11) + 44 * (d + 1) ≤ R.locals; omega⟩
  have fin : ∀ {rest : List Value} {a : Array Value}, xr_s g φ Rs rest → va_Run p l e R s m args below meth c H locs cells slots z.2.2.1.1 z.2.2.1.2 (F0 m pc ls st) rest (xm_Q (xk_c g kx) g tys Dg cl r φ (va_A ws H.size) a) (va_A ws H.size) → W p l e R s m args below meth c H locs cells slots Q (F0 m pc ls st) := fun hrs hrun =>
    xs_after hrun hD0 hS hA (fun v ts ws' H1 locs1 h1 h2 h3 h4 h5 => by
      refine kk ts ws' H1 locs1 _ h2 h3 h4 h5 ?_
      cases hr1 : r.1 with
      | none =>
        rw [hr1] at h1
        rw [show v = none from h1]
        exact xr_s_mono hrs
      | some av =>
        rw [hr1] at h1
        obtain ⟨x, rfl, hxv⟩ := h1
        exact ⟨x, _, rfl, hxv, xr_s_mono hrs⟩)
  cases i
  all_goals (first | (simp only [xv_arg, reduceCtorEq] at h; done) | skip)
  case invokevirtual i =>
    simp only [xv_arg] at h
    split at h
    · rename_i j' hj
      split at h
      · rename_i y' hy'
        split at h
        · rename_i a R1 hdrop
          split at h
          · rename_i o ho
            cases h1 : Nat.beq o.1 (8 + y'.1.1) <;> simp only [h1, Bool.true_and, Bool.false_and, cond_true, cond_false] at h
            · cases h
            cases h2 : Nat.ble (xv_cats R1) 8 <;> simp only [h2, cond_true, cond_false] at h
            · cases h
            obtain ⟨rfl, rfl, rfl⟩ := by simpa using h
            cases Option.some.inj (hy'.symm.trans hz)
            obtain ⟨z2, hz2, hl1, hl2, hl3⟩ := (hMt i 0 _ hj).1 rfl
            cases Option.some.inj (hz2.symm.trans hy)
            have hsd := xr_s_drop z.2.1.1 hs
            rw [hdrop] at hsd
            obtain ⟨_, rest, hst, ⟨q, hq, rfl⟩, hrs⟩ := hsd
            have hlen : (st.take z.2.1.1).reverse.length = z.2.1.1 := by
              rw [List.length_reverse, List.length_take]
              have hl : (st.drop z.2.1.1).length = rest.length + 1 := by rw [hst]; rfl
              rw [List.length_drop] at hl
              omega
            have hstk : st = ((st.take z.2.1.1).reverse).reverse ++ .ref q :: rest := by rw [List.reverse_reverse, ← hst, List.take_append_drop]
            obtain ⟨ia, E, hE, he, -⟩ := xr_m_at hm ho hq (by have := Nat.eq_of_beq_eq_true h1; omega) (by have := Nat.eq_of_beq_eq_true h1; omega)
            obtain ⟨fs, rfl, -⟩ := xr_e_obj he (Nat.eq_of_beq_eq_true h1)
            obtain ⟨⟨C, T, N⟩, hr1, -⟩ := hP ia _ hE
            have hC := hcn C T N hr1
            subst hC
            have hcat := xr_s_cats hrs
            have h8 := Nat.le_of_ble_eq_true h2
            refine fin (a := (Value.ref q :: (st.take z.2.1.1).reverse).toArray) hrs (va_runV (C := y.1.cls) (As := (st.take z.2.1.1).reverse) (rest := rest) ⟨hx, hb, hml, hown, hts⟩ (hcon z y hz hy φ ws (.ref q :: (st.take z.2.1.1).reverse) H.size hm ⟨_, _, rfl, ⟨q, hq, rfl⟩, xr_s_rev (xr_s_take _ hs)⟩ hkF) ⟨callB_of z.2.1.1 hts hG rfl rfl rfl (hts _ (htb _ hini)) (hts _ (htb _ hl1)) hd hroom, hts _ (htb _ hl2), hts _ (htb _ hl3)⟩ ⟨xm_blind, va_recv hK.1 hP hr1 hE, xm_pre hK hkw hP hD0 hS hA⟩ rfl hlen hls hstk ?_ hdg ⟨hc1, hc2⟩)
            show 2 * 0 + _ ≤ 8
            rw [hcat]
            omega
          · cases h
        · cases h
      · cases h
    · cases h
  case invokespecial i =>
    simp only [xv_arg] at h
    split at h
    · rename_i k j' hj
      cases hk : (Nat.beq k 1 || Nat.beq k 2) <;> simp only [hk, cond_true, cond_false] at h
      · cases h
      split at h
      · rename_i y' hy'
        split at h
        · rename_i a R1 hdrop
          cases h2 : Nat.ble (xv_cats R1) 8 <;> simp only [h2, cond_true, cond_false] at h
          · cases h
          obtain ⟨rfl, rfl, rfl⟩ := by simpa using h
          cases Option.some.inj (hy'.symm.trans hz)
          have hsd := xr_s_drop z.2.1.1 hs
          rw [hdrop] at hsd
          obtain ⟨_, rest, hst, ⟨q, hq, rfl⟩, hrs⟩ := hsd
          have hlen : (st.take z.2.1.1).reverse.length = z.2.1.1 := by
            rw [List.length_reverse, List.length_take]
            have hl : (st.drop z.2.1.1).length = rest.length + 1 := by rw [hst]; rfl
            rw [List.length_drop] at hl
            omega
          have hstk : st = ((st.take z.2.1.1).reverse).reverse ++ .ref q :: rest := by rw [List.reverse_reverse, ← hst, List.take_append_drop]
          have hcat := xr_s_cats hrs
          have h8 := Nat.le_of_ble_eq_true h2
          rcases Bool.or_eq_true_iff.mp hk with hk1 | hk1
          · obtain ⟨z2, hz2, hl1, hl2, hl3, hl4⟩ := (hMt i k _ hj).2.1 (Nat.eq_of_beq_eq_true hk1)
            cases Option.some.inj (hz2.symm.trans hy)
            obtain ⟨zn, zb, zr⟩ := y
            obtain rfl : zr = none := hl4
            refine fin (a := (Value.ref q :: (st.take z.2.1.1).reverse).toArray) hrs (va_runI (As := (st.take z.2.1.1).reverse) (rest := rest) ⟨hx, hb, hml, hown, hts⟩ (hcon z (zn, zb, none) hz hy φ ws (.ref q :: (st.take z.2.1.1).reverse) H.size hm ⟨_, _, rfl, ⟨q, hq, rfl⟩, xr_s_rev (xr_s_take _ hs)⟩ hkF) ⟨callB_of z.2.1.1 hts hG rfl rfl rfl (hts _ (htb _ hini)) (hts _ (htb _ hl1)) hd hroom, hl3, hts _ (htb _ hl2)⟩ ⟨xm_blind, xm_pre hK hkw hP hD0 hS hA⟩ rfl hlen hls hstk ?_ hdg ⟨hc1, hc2⟩)
            show 2 * 0 + _ ≤ 8
            rw [hcat]
            omega
          · obtain ⟨z2, host, hz2, hl1, hl2, hl3, hl4⟩ := (hMt i k _ hj).2.2.1 (Nat.eq_of_beq_eq_true hk1)
            cases Option.some.inj (hz2.symm.trans hy)
            obtain ⟨zn, zb, zr⟩ := y
            obtain rfl : zr = none := hl4
            refine fin (a := (Value.ref q :: (st.take z.2.1.1).reverse).toArray) hrs (va_runIN (host := host) (As := (st.take z.2.1.1).reverse) (rest := rest) ⟨hx, hb, hml, hown, hts⟩ (hcon z (zn, zb, none) hz hy φ ws (.ref q :: (st.take z.2.1.1).reverse) H.size hm ⟨_, _, rfl, ⟨q, hq, rfl⟩, xr_s_rev (xr_s_take _ hs)⟩ hkF) ⟨va_cnB z.2.1.1 hts hG rfl rfl rfl (hK.2.2.1 _ hl1) (hts _ (htb _ hini)) hd hroom, hl3, hts _ (htb _ hl2)⟩ ⟨xm_blind, xm_pre hK hkw hP hD0 hS hA⟩ rfl hlen hls hstk ?_ hdg ⟨hc1, hc2⟩)
            show 2 * 0 + _ ≤ 8
            rw [hcat]
            omega
        · cases h
      · cases h
    · cases h
  case invokestatic i =>
    simp only [xv_arg] at h
    split at h
    · rename_i j' hj
      split at h
      · rename_i y' hy'
        cases h1 : Nat.ble y'.2.1.1 S.length <;> simp only [h1, Bool.true_and, Bool.false_and, cond_true, cond_false] at h
        · cases h
        cases h2 : Nat.ble (xv_cats (S.drop y'.2.1.1)) 8 <;> simp only [h2, cond_true, cond_false] at h
        · cases h
        obtain ⟨rfl, rfl, rfl⟩ := by simpa using h
        cases Option.some.inj (hy'.symm.trans hz)
        obtain ⟨z2, hz2, hl1, hl2⟩ := (hMt i 3 _ hj).2.2.2.1 rfl
        cases Option.some.inj (hz2.symm.trans hy)
        have hrs := xr_s_drop z.2.1.1 hs
        have hsl := xr_s_len hs
        have hle := Nat.le_of_ble_eq_true h1
        have hlen : (st.take z.2.1.1).reverse.length = z.2.1.1 := by
          rw [List.length_reverse, List.length_take]
          omega
        have hstk : st = ((st.take z.2.1.1).reverse).reverse ++ st.drop z.2.1.1 := by rw [List.reverse_reverse, List.take_append_drop]
        have hcat := xr_s_cats hrs
        have h8 := Nat.le_of_ble_eq_true h2
        refine fin (a := ((st.take z.2.1.1).reverse).toArray) hrs (va_runS (As := (st.take z.2.1.1).reverse) (rest := st.drop z.2.1.1) ⟨hx, hb, hml, hown, hts⟩ (hcon z y hz hy φ ws ((st.take z.2.1.1).reverse) H.size hm (xr_s_rev (xr_s_take _ hs)) hkF) ⟨callB_of z.2.1.1 hts hG rfl rfl rfl (hts _ (htb _ hini)) (hts _ (htb _ hl1)) hd hroom, hts _ (htb _ hl2)⟩ ⟨xm_blind, xm_pre hK hkw hP hD0 hS hA⟩ rfl hlen hls hstk ?_ hdg ⟨hc1, hc2⟩)
        show 2 * 0 + _ ≤ 8
        rw [hcat]
        omega
      · cases h
    · cases h
end XSU
end
section
section XSW
variable {l : Launch} {V : Type} {C : Nat → xv_O V → Prop} {D : xv_D V} {g : V → Value → Prop} {Dg : va_G} {cl : List vw_C} {tys : List (ClassId × FieldType)} {at_ : List Nat} {nest : List (String × Nat × MethodName × String)} {tb : List Jvm.Cond} {ct : List (List (FieldType × Bool))} {ms : List xv_N} {ys : List xm_Z} {kx : xk_C} {kcc : ByteArray}
theorem xv_to_mem : ∀ {cs : List xv_I} {i : Nat} {q : xv_I}, q ∈ xv_to cs i → q ∈ cs
  | [], _, _, h => h
  | c :: cs, i, q, h => by
    unfold xv_to at h
    cases hc : Nat.beq c.1 i <;> simp only [hc, cond_true, cond_false] at h
    · exact List.mem_cons_of_mem _ (xv_to_mem h)
    · exact h
/-- what stands fast in the body of a method -/
def xw_fix (Dg : va_G) (cl : List vw_C) (tys : List (ClassId × FieldType)) (at_ : List Nat) (nest : List (String × Nat × MethodName × String)) (kx : xk_C) (tb : List Jvm.Cond) (ct : List (List (FieldType × Bool))) (ys : List xm_Z) (d : Nat) (y : xv_N) (z : xm_Z) (p : Program) (R : Room) (s : State) (m : MethodId) (args : Array Value) (meth : Method) (c : Code) (A : Nat → Prop) : Prop :=
  p.tables.exec = Jvm.exec ∧ c.code = z.2.1 ∧ c.maxLocals = y.2.1.2.1 ∧ s.vm.findClass z.1.cls = some m.cls ∧ (∃ w0, ∀ w ∈ (w0 :: tb), w.before args s = true) ∧ xm_K Dg cl tys at_ nest kx s ∧ xk_W kx A s s.heap ∧ (d + 2 ≤ R.frames ∧ 44 * (d + 2) ≤ R.locals ∧ R.cells = y.2.2.1.1 ∧ R.slots = y.2.2.1.2) ∧ (∀ q, s.heap.size ≤ q → A q) ∧ meth.name = z.1.name ∧ xc_bod tb nest cl ct at_ kx.1 kx.2.2.2.1 ys y z
/-- from every state that stands so the machine comes to Q -/
def xw_st (p : Program) (l : Launch) (e : Env) (R : Room) (s : State) (m : MethodId) (args : Array Value) (below : List Frame) (meth : Method) (c : Code) (Q : State → Prop) {V : Type} (g : V → Value → Prop) (Dg : va_G) (cl : List vw_C) (tys : List (ClassId × FieldType)) (kx : xk_C) (A : Nat → Prop) (φ0 : List Nat) (y : xv_N) (pc : Nat) (L : xv_L V) (S : List (xv_V V)) (M : xv_M V) (cells slots : Nat) : Prop :=
  cells ≤ y.2.2.1.1 → slots ≤ y.2.2.1.2 → ∀ (t : List Nat) (ws : va_W) (H : Heap) (locs : List Loc) (ls : Array Slot) (st : List Value), xr_m (xk_c g kx) g (φ0 ++ t) tys M ws → va_P Dg cl ws H → va_D A ws → va_S A s.heap H locs → xr_l g (φ0 ++ t) L ls y.2.1.2.1 → xr_s g (φ0 ++ t) S st →
    W p l e R s m args below meth c H locs cells slots Q (F0 m pc ls st)
set_option maxHeartbeats 4000000 in
theorem xs_end {p : Program} {e : Env} {R : Room} {s : State} {m : MethodId} {args : Array Value} {below : List Frame} {meth : Method} {c : Code} {H : Heap} {locs : List Loc} {cells slots : Nat} {cc : ByteArray} {pc rc mc ms2 : Nat} {φ0 : List Nat} {M : xv_M V} {S : List (xv_V V)} {ls : Array Slot} {st : List Value} {A : Nat → Prop} {ws : va_W} {t : List Nat} {r : Option (xv_V V)}
    (hD : xv_ok D g) (hx : p.tables.exec = Jvm.exec) (hb : c.code = cc) (hr : meth.sig.returnType = xv_ret rc) (hlocks : meth.locks = false) {i : Instr} (h : xv_end D rc S i = some r) (hdg : decode cc pc = .ok (i, xv_len i))
    (hm : xr_m C g (φ0 ++ t) tys M ws) (hP : va_P Dg cl ws H) (hD0 : va_D A ws) (hS : va_S A s.heap H locs) (hs : xr_s g (φ0 ++ t) S st) (h1 : cells ≤ mc) (h2 : slots ≤ ms2) :
    W p l e R s m args below meth c H locs cells slots (MQ below (xm_Q C g tys Dg cl (r, M) φ0 A) args s mc ms2 A) (F0 m pc ls st) := by
  refine W.widen h1 h2 ?_
  cases i
  all_goals (first | (simp only [xv_end, reduceCtorEq] at h; done) | skip)
  case return_ =>
    simp only [xv_end] at h
    split at h
    · cases hc : Nat.beq rc 0 <;> simp only [hc, cond_true, cond_false] at h
      · cases h
      cases Option.some.inj h
      obtain rfl : st = [] := hs
      rw [Nat.eq_of_beq_eq_true hc] at hr
      exact W.vret hx hb hr (fun T hT _ => ⟨⟨none, t, ws, rfl, rfl, hm, by rw [hT]; exact hP, hD0⟩, hS.F hT⟩) hS.2.2 hdg hlocks
    · cases h
  case ireturn =>
    simp only [xv_end] at h
    split at h
    · rename_i a
      obtain ⟨_, r1, rfl, ⟨n, rfl, hn⟩, rfl⟩ := hs
      cases hc : (Nat.beq rc 1 || (Nat.beq rc 3 && D.2.2.2.2.2 a)) <;> simp only [hc, cond_true, cond_false] at h
      · cases h
      cases Option.some.inj h
      rcases Bool.or_eq_true_iff.mp hc with hc | hc
      · rw [Nat.eq_of_beq_eq_true hc] at hr
        exact W.iret hx hb hr (fun T hT _ => ⟨⟨some (.int n), t, ws, rfl, ⟨_, rfl, n, rfl, hn⟩, hm, by rw [hT]; exact hP, hD0⟩, hS.F hT⟩) hS.2.2 hdg hlocks
      · obtain ⟨c1, c2⟩ := Bool.and_eq_true_iff.mp hc
        rw [Nat.eq_of_beq_eq_true c1] at hr
        have hnar : narrow .boolean (.int n) = .int n := by
          rcases hD.2.2.2.2.2.2.2.2.2.2.2 a n c2 hn with rfl | rfl
          · rfl
          · rfl
        exact W.zret hx hb hr hnar (fun T hT _ => ⟨⟨some (.int n), t, ws, rfl, ⟨_, rfl, n, rfl, hn⟩, hm, by rw [hT]; exact hP, hD0⟩, hS.F hT⟩) hS.2.2 hdg hlocks
    · cases h
  case lreturn =>
    simp only [xv_end] at h
    split at h
    · rename_i a
      obtain ⟨_, r1, rfl, ⟨n, rfl, hn⟩, rfl⟩ := hs
      cases hc : Nat.beq rc 2 <;> simp only [hc, cond_true, cond_false] at h
      · cases h
      cases Option.some.inj h
      rw [Nat.eq_of_beq_eq_true hc] at hr
      exact W.lret hx hb hr (fun T hT _ => ⟨⟨some (.long n), t, ws, rfl, ⟨_, rfl, n, rfl, hn⟩, hm, by rw [hT]; exact hP, hD0⟩, hS.F hT⟩) hS.2.2 hdg hlocks
    · cases h
theorem xs_pure_sw {K : xv_K} {L : xv_L V} {S : List (xv_V V)} {i : Instr} {r : xv_L V × List (xv_V V)} (h : xv_pure D K L S i = some r) : xv_sw i = false := by
  cases i <;> first | rfl | (simp only [xv_pure, reduceCtorEq] at h; done)
theorem xs_mem_sw {K : xv_K} {w ini : Nat} {M : xv_M V} {S : List (xv_V V)} {i : Instr} {r : List (xv_V V) × xv_M V × Nat × Nat} (h : xv_mem D ct at_ K w ini M S i = some r) : xv_sw i = false := by
  cases i <;> first | rfl | (simp only [xv_mem, reduceCtorEq] at h; done)
theorem xs_arg_sw {K : xv_K} {M : xv_M V} {S : List (xv_V V)} {i : Instr} {r : Nat × List (xv_V V) × List (xv_V V)} (h : xv_arg ms K M S i = some r) : xv_sw i = false := by
  cases i <;> first | rfl | (simp only [xv_arg, reduceCtorEq] at h; done)
theorem xs_nat_sw {K : xv_K} {M : xv_M V} {S : List (xv_V V)} {i : Instr} {r : List (xv_V V) × xv_M V} (h : xv_nat D kx.1 K M S i = some r) : xv_sw i = false := by
  cases i <;> first | rfl | (simp only [xv_nat, reduceCtorEq] at h; done)
theorem xs_end_sw {rc : Nat} {S : List (xv_V V)} {i : Instr} {r : Option (xv_V V)} (h : xv_end D rc S i = some r) : xv_sw i = false := by
  cases i <;> first | rfl | (simp only [xv_end, reduceCtorEq] at h; done)
theorem xs_dec {cc : ByteArray} {q : xv_I} (h : xc_dec cc q) (hs : xv_sw q.2 = false) : decode cc q.1 = .ok (q.2, xv_len q.2) := by
  obtain ⟨len, h1, h2⟩ := h
  rcases h2 with h2 | h2
  · rw [hs] at h2; cases h2
  · rw [← h2]; exact h1
set_option maxHeartbeats 4000000 in
/-- ONE STEP in the body of a method -/
theorem xs_step {ρ : Type} (hD : xv_ok D g) (hall : xc_all tb nest cl ct at_ kx.1 kx.2.2.2.1 kcc ms ys) (hchar : xk_Ch l tb kcc kx) (hY : xc_tys cl at_ tys) {d : Nat} {call : Nat → List (xv_V V) → xv_M V → Option (xv_R V)} (hcall : ∀ (j : Nat) (as : List (xv_V V)) (M : xv_M V) (r : xv_R V), call j as M = some r → xm_Con l g tys Dg cl at_ nest kx tb ms ys d j as M r)
    {y : xv_N} {z : xm_Z} {p : Program} {e : Env} {R : Room} {s : State} {m : MethodId} {args : Array Value} {below : List Frame} {meth : Method} {c : Code} {A : Nat → Prop} {Q : State → Prop} {φ0 : List Nat} (hfix : xw_fix Dg cl tys at_ nest kx tb ct ys d y z p R s m args meth c A) (hkF : xk_F kx φ0)
    {fin : Option (xv_V V) → xv_M V → Option ρ} {ih : Nat → List xv_I → xv_L V → List (xv_V V) → xv_M V → Nat → Nat → Option ρ} {r : ρ} {pc : Nat} {cs : List xv_I} {L : xv_L V} {S : List (xv_V V)} {M : xv_M V} {cells slots : Nat}
    (h : xv_step D ct at_ kx.1 ms call y fin ih pc cs L S M cells slots = some r) (hcs : ∀ q ∈ cs, q ∈ y.2.2.2)
    (hih : ∀ (pc : Nat) (cs : List xv_I) (L : xv_L V) (S : List (xv_V V)) (M : xv_M V) (cells slots : Nat), ih pc cs L S M cells slots = some r → (∀ q ∈ cs, q ∈ y.2.2.2) → xw_st p l e R s m args below meth c Q g Dg cl tys kx A φ0 y pc L S M cells slots)
    (hfin : ∀ (i : Instr) (pc : Nat) (L : xv_L V) (S : List (xv_V V)) (M : xv_M V) (cells slots : Nat) (rv : Option (xv_V V)), xv_end D y.2.1.2.2.1 S i = some rv → fin rv M = some r → decode z.2.1 pc = .ok (i, xv_len i) → xw_st p l e R s m args below meth c Q g Dg cl tys kx A φ0 y pc L S M cells slots) :
    xw_st p l e R s m args below meth c Q g Dg cl tys kx A φ0 y pc L S M cells slots := by
  obtain ⟨hx, hb, hml, hown, ⟨w0, hts⟩, hK, hkw, ⟨r1, r2, r3, r4⟩, hA, hname, h6, h7, h8, h9, hF, hN, hcst, hstr, hMt⟩ := hfix
  have htb : ∀ w ∈ tb, w ∈ (w0 :: tb) := fun w hw => List.mem_cons_of_mem _ hw
  obtain ⟨⟨m1, m2, m3, m4⟩, n1, n2, n3, n4, n5⟩ := hall.2.2.2.1
  intro hc1 hc2 t ws H locs ls st hm hP hD0 hS hl hs
  cases cs with
  | nil => cases h
  | cons q cs =>
    unfold xv_step at h
    dsimp only at h
    have hcs' : ∀ q ∈ cs, q ∈ y.2.2.2 := fun q hq => hcs q (List.mem_cons_of_mem _ hq)
    have hdec := h9 q (hcs q List.mem_cons_self)
    cases hpc : Nat.beq q.1 pc <;> simp only [hpc, cond_true, cond_false] at h
    · cases h
    obtain rfl : q.1 = pc := Nat.eq_of_beq_eq_true hpc
    have hlsz : ls.size = y.2.1.2.1 := by obtain ⟨-, lv, hlv, -⟩ := hl; exact hlv.1
    split at h
    · rename_i LS hLS
      refine xs_pure hx hb hown hD (fun i v hv => hts _ (htb _ (hcst.1 i v hv))) (fun i v hv => hts _ (htb _ (hcst.2 i v hv))) (fun i n hn h2000 => ?_) hLS (xs_dec hdec (xs_pure_sw hLS)) hl hs (fun ls' st' hl' hs' => ?_)
      · obtain ⟨g1, tx, g2⟩ := hstr i n hn h2000
        exact ⟨tx, _, hK.2.2.2 _ g2, hkF.mono.1 _ g1⟩
      exact hih _ _ _ _ _ _ _ h hcs' hc1 hc2 t ws H locs ls' st' hm hP hD0 hS hl' hs'
    · split at h
      · rename_i tS htS
        obtain ⟨len, d1, d2⟩ := hdec
        refine xs_br hx hb hD htS d1 d2 hs (fun st' hs' => ?_)
        exact hih _ _ _ _ _ _ _ h (fun q hq => xv_to_mem hq) hc1 hc2 t ws H locs ls st' hm hP hD0 hS hl hs'
      · split at h
        · rename_i T hT
          cases hr1 : Nat.ble (cells + T.2.2.1) y.2.2.1.1 <;> simp only [hr1, Bool.true_and, Bool.false_and, cond_true, cond_false] at h
          · cases h
          cases hr2 : Nat.ble (slots + T.2.2.2) y.2.2.1.2 <;> simp only [hr2, cond_true, cond_false] at h
          · cases h
          have q1 := Nat.le_of_ble_eq_true hr1
          have q2 := Nat.le_of_ble_eq_true hr2
          refine xs_mem hx hb hown hts htb hD hall.2.1 hF hN hY hK.2.1 hall.2.2.1 (fun z => hname.trans (h7 z)) h8 hK.1 hA (fun k q o hC hq => ?_) hT (xs_dec hdec (xs_mem_sw hT)) hm hP hD0 hS hs (by rw [r3]; exact q1) (by rw [r4]; exact q2) (fun t' ws' H' locs' st' hm' hP' hD' hS' hs' => ?_)
          · obtain ⟨c1, c2, c3⟩ := hC
            cases Option.some.inj (hq.symm.trans (hkF.mono.2 k c1))
            exact ⟨_, _, (hkw.2 k c1).1, (hkw.2 k c1).2.1, (hkw.2 k c1).2.2, c2, fun j v hv => by
              obtain ⟨a, rfl, ha⟩ := c3 j v hv
              exact ⟨_, rfl, ha⟩⟩
          rw [List.append_assoc] at hm' hs'
          exact hih _ _ _ _ _ _ _ h hcs' q1 q2 (t ++ t') ws' H' locs' ls st' hm' hP' hD' hS' (by rw [← List.append_assoc]; exact xr_l_mono hl) hs'
        · split at h
          · rename_i Ar hAr
            split at h
            · rename_i zz hzz
              cases hr1 : Nat.ble (cells + zz.2.2.1.1) y.2.2.1.1 <;> simp only [hr1, Bool.true_and, Bool.false_and, cond_true, cond_false] at h
              · cases h
              cases hr2 : Nat.ble (slots + zz.2.2.1.2) y.2.2.1.2 <;> simp only [hr2, cond_true, cond_false] at h
              · cases h
              have q1 := Nat.le_of_ble_eq_true hr1
              have q2 := Nat.le_of_ble_eq_true hr2
              split at h
              · rename_i rr hrr
                refine xs_call hx hb hml hlsz hown hts hall hMt hK hkw hkF.mono r1 r2 hA hAr hzz (hcall _ _ _ _ hrr) (xs_dec hdec (xs_arg_sw hAr)) hm hP hD0 hS hs (by rw [r3]; exact q1) (by rw [r4]; exact q2) (fun t' ws' H' locs' st' hm' hP' hD' hS' hs' => ?_)
                rw [List.append_assoc] at hm' hs'
                exact hih _ _ _ _ _ _ _ h hcs' q1 q2 (t ++ t') ws' H' locs' ls st' hm' hP' hD' hS' (by rw [← List.append_assoc]; exact xr_l_mono hl) hs'
              · cases h
            · cases h
          · split at h
            · rename_i T hT
              refine xs_nat hx hb (by rw [hml, hlsz]) hown hD hY (fun i j hj => hts _ (htb _ ((hMt i 5 j hj).2.2.2.2.2.1 rfl))) (hts _ (htb _ n1)) (hts _ (htb _ n2)) (fun i j hj => hts _ (htb _ ((hMt i 6 j hj).2.2.2.2.2.2 rfl))) (hts _ (htb _ n3)) (hts _ (htb _ n4)) (hts _ (htb _ n5)) (fun i j n k cs b x q rest g1 g2 g3 g4 g5 g6 g7 g8 kk => ?_) (by omega) (by omega) hK.1 hT (xs_dec hdec (xs_nat_sw hT)) hm hP hD0 hS hs (fun ws' H' locs' st' hm' hP' hD' hS' hs' => ?_)
              · have hn : n < kx.1.length := (List.getElem?_eq_some_iff.mp g2).1
                cases Option.some.inj (g6.symm.trans (hkF.mono.1 n hn))
                refine W.callR (W.runV (C := "java/lang/String") (As := [.int x]) (rest := rest) ⟨hx, hb, hml, hown, hts⟩ (hchar A n k cs b x g2 g3 g4 g5) ⟨callB_of 1 hts (xc_good hall.1 m4) rfl rfl rfl (hts _ (htb _ m3)) (hts _ (htb _ ((hMt i 4 j g1).2.2.2.2.1 rfl))) (by decide +kernel) ⟨by show 1 + 1 ≤ R.frames; omega, by show 8 + (2 + 11) + 22 ≤ R.locals; omega⟩, hts _ (htb _ m1), hts _ (htb _ m2)⟩ ⟨fun a U g mk q => ⟨q.1, vk_S.moved (u := U) (U := U.calling g mk a) (Vm.Alike.refl U.vm) q.2⟩, vk_recv hkw.1 hn hS, fun U hU hW => ⟨rfl, by show vk_S _ _ _ _ _ A U U.heap; rw [hU]; exact vk_S.moved hW.alike (vk_S.kept hkw.1 hS.2.1)⟩⟩ rfl rfl hlsz rfl ?_ g8 ⟨by rw [r3]; exact hc1, by rw [r4]; exact hc2⟩) kk
                show 2 * 0 + _ ≤ 8
                omega
              exact hih _ _ _ _ _ _ _ h hcs' hc1 hc2 t ws' H' locs' ls st' hm' hP' hD' hS' hl hs'
            · split at h
              · rename_i rv hrv
                exact hfin _ _ _ _ _ _ _ _ hrv h (xs_dec hdec (xs_end_sw hrv)) hc1 hc2 t ws H locs ls st hm hP hD0 hS hl hs
              · cases h
/-- UP TO AN INSTRUCTION of the body -/
theorem xs_seg (hD : xv_ok D g) (hall : xc_all tb nest cl ct at_ kx.1 kx.2.2.2.1 kcc ms ys) (hchar : xk_Ch l tb kcc kx) (hY : xc_tys cl at_ tys) {d : Nat} {call : Nat → List (xv_V V) → xv_M V → Option (xv_R V)} (hcall : ∀ (j : Nat) (as : List (xv_V V)) (M : xv_M V) (r : xv_R V), call j as M = some r → xm_Con l g tys Dg cl at_ nest kx tb ms ys d j as M r)
    {y : xv_N} {z : xm_Z} {p : Program} {e : Env} {R : Room} {s : State} {m : MethodId} {args : Array Value} {below : List Frame} {meth : Method} {c : Code} {A : Nat → Prop} {Q : State → Prop} {φ0 : List Nat} (hfix : xw_fix Dg cl tys at_ nest kx tb ct ys d y z p R s m args meth c A) (hkF : xk_F kx φ0) {stop : Nat} {r : xv_L V × List (xv_V V) × xv_M V × Nat × Nat}
    (hr : xw_st p l e R s m args below meth c Q g Dg cl tys kx A φ0 y stop r.1 r.2.1 r.2.2.1 r.2.2.2.1 r.2.2.2.2) :
    ∀ (n pc : Nat) (cs : List xv_I) (L : xv_L V) (S : List (xv_V V)) (M : xv_M V) (cells slots : Nat), xv_seg D ct at_ kx.1 ms call y stop n pc cs L S M cells slots = some r → (∀ q ∈ cs, q ∈ y.2.2.2) → xw_st p l e R s m args below meth c Q g Dg cl tys kx A φ0 y pc L S M cells slots := by
  intro n
  induction n with
  | zero => intro pc cs L S M cells slots h; cases h
  | succ n ih =>
    intro pc cs L S M cells slots h hcs
    have h : xv_step D ct at_ kx.1 ms call y (fun _ _ => none) (fun pc cs L S M c s => bif Nat.beq pc stop then some (L, S, M, c, s) else xv_seg D ct at_ kx.1 ms call y stop n pc cs L S M c s) pc cs L S M cells slots = some r := h
    refine xs_step hD hall hchar hY hcall hfix hkF h hcs (fun pc cs L S M cells slots h hcs => ?_) (fun i pc L S M cells slots rv h1 h2 h3 => by cases h2)
    cases hpc : Nat.beq pc stop <;> simp only [hpc, cond_true, cond_false] at h
    · exact ih _ _ _ _ _ _ _ h hcs
    · cases Option.some.inj h
      rw [Nat.eq_of_beq_eq_true hpc]
      exact hr
/-- THE BODY of a method, by its steps; hend: what its end gives -/
theorem xs_loop (hD : xv_ok D g) (hall : xc_all tb nest cl ct at_ kx.1 kx.2.2.2.1 kcc ms ys) (hchar : xk_Ch l tb kcc kx) (hY : xc_tys cl at_ tys) {d : Nat} {call : Nat → List (xv_V V) → xv_M V → Option (xv_R V)} (hcall : ∀ (j : Nat) (as : List (xv_V V)) (M : xv_M V) (r : xv_R V), call j as M = some r → xm_Con l g tys Dg cl at_ nest kx tb ms ys d j as M r)
    {y : xv_N} {z : xm_Z} {p : Program} {e : Env} {R : Room} {s : State} {m : MethodId} {args : Array Value} {below : List Frame} {meth : Method} {c : Code} {A : Nat → Prop} {Q : State → Prop} {φ0 : List Nat} (hfix : xw_fix Dg cl tys at_ nest kx tb ct ys d y z p R s m args meth c A) (hkF : xk_F kx φ0) {r : xv_R V}
    (hend : ∀ (i : Instr) (pc : Nat) (L : xv_L V) (S : List (xv_V V)) (cells slots : Nat), xv_end D y.2.1.2.2.1 S i = some r.1 → decode z.2.1 pc = .ok (i, xv_len i) → xw_st p l e R s m args below meth c Q g Dg cl tys kx A φ0 y pc L S r.2 cells slots) :
    ∀ (n pc : Nat) (cs : List xv_I) (L : xv_L V) (S : List (xv_V V)) (M : xv_M V) (cells slots : Nat), xv_loop D ct at_ kx.1 ms call y n pc cs L S M cells slots = some r → (∀ q ∈ cs, q ∈ y.2.2.2) → xw_st p l e R s m args below meth c Q g Dg cl tys kx A φ0 y pc L S M cells slots := by
  intro n
  induction n with
  | zero => intro pc cs L S M cells slots h; cases h
  | succ n ih =>
    intro pc cs L S M cells slots h hcs
    have h : xv_step D ct at_ kx.1 ms call y (fun r M => some (r, M)) (xv_loop D ct at_ kx.1 ms call y n) pc cs L S M cells slots = some r := h
    refine xs_step hD hall hchar hY hcall hfix hkF h hcs (fun pc cs L S M cells slots h hcs => ih _ _ _ _ _ _ _ h hcs) (fun i pc L S M cells slots rv h1 h2 h3 => ?_)
    cases Option.some.inj h2
    exact hend i pc L S cells slots h1 h3
/-- a contract out of the walk of the body -/
theorem xm_of (hall : xc_all tb nest cl ct at_ kx.1 kx.2.2.2.1 kcc ms ys) {d j : Nat} {as : List (xv_V V)} {M : xv_M V} {r : xv_R V}
    (h : ∀ (y : xv_N) (z : xm_Z), ms[j]? = some y → ys[j]? = some z → ∀ {p : Program} {e : Env} {s : State} {m : MethodId} {args : Array Value} {below : List Frame} {meth : Method} {c : Code} {A : Nat → Prop} {φ0 : List Nat}, xw_fix Dg cl tys at_ nest kx tb ct ys d y z p (xm_rm (d + 1) y) s m args meth c A → xk_F kx φ0 → meth.sig.returnType = z.2.2 → meth.locks = false →
      xv_cats as ≤ y.2.1.2.1 ∧ xw_st p l e (xm_rm (d + 1) y) s m args below meth c (MQ below (xm_Q (xk_c g kx) g tys Dg cl r φ0 A) args s y.2.2.1.1 y.2.2.1.2 A) g Dg cl tys kx A φ0 y 0 (xv_in as y.2.1.2.1) [] M 0 0) :
    xm_Con l g tys Dg cl at_ nest kx tb ms ys (d + 1) j as M r := by
  intro y z hy hz φ ws vals sz hm hs hkF
  obtain ⟨z2, hz2, hone⟩ := hall.2.2.2.2 j y hy
  cases Option.some.inj (hz2.symm.trans hz)
  refine Met.ofW (cc := z.2.1) (maxL := y.2.1.2.1) (ret := z.2.2) hone.1 rfl ?_
  intro p e s m args below meth c s₁ B hml hv
  obtain ⟨rfl, hsz, hP, hK, hD0, hkw⟩ := hv
  subst hsz
  have hD1 := hD0.self (sz := s.heap.size)
  obtain ⟨hle, hst⟩ := h y z hy hz (p := p) (e := e) (below := below) (A := va_A ws s.heap.size) (φ0 := φ) ⟨B.exec, B.bytes, hml, findClass_of_methodNamed B.named, ⟨_, atoms_spec B.pre⟩, hK, hkw, ⟨Nat.le_refl _, Nat.le_refl _, rfl, rfl⟩, fun q hq => Or.inr hq, (name_of_methodNamed B.named B.method).1, hone.2.2.2.2.2⟩ hkF B.returns B.notSynchronized
  have hl := lv_entry vals (n := y.2.1.2.1) (by rw [xr_s_sl hs]; exact hle)
  rw [lg_entry_eq]
  refine hst (Nat.zero_le _) (Nat.zero_le _) [] ws s.heap [] _ _ (by rw [List.append_nil]; exact hm) hP hD1 va_S.rf ?_ rfl
  rw [List.append_nil]
  refine ⟨xv_in_len as _ hle, _, hl, fun i v hi => ?_⟩
  obtain ⟨x, hx1, hx2⟩ := xv_in_at 0 y.2.1.2.1 i hs hi
  exact ⟨x, by rw [Nat.zero_add] at hx1; exact hx1, hx2⟩
/-- THE PURE MACHINE IS RIGHT: what it runs, the method does -/
theorem xs_run (hD : xv_ok D g) (hall : xc_all tb nest cl ct at_ kx.1 kx.2.2.2.1 kcc ms ys) (hchar : xk_Ch l tb kcc kx) (hY : xc_tys cl at_ tys) {ext : Nat → Nat → List (xv_V V) → xv_M V → Option (xv_R V)} (hext : ∀ (d j : Nat) (as : List (xv_V V)) (M : xv_M V) (r : xv_R V), ext d j as M = some r → xm_Con l g tys Dg cl at_ nest kx tb ms ys d j as M r) (fuel : Nat) :
    ∀ (d j : Nat) (as : List (xv_V V)) (M : xv_M V) (r : xv_R V), xv_run D ct at_ kx.1 ms ext fuel d j as M = some r → xm_Con l g tys Dg cl at_ nest kx tb ms ys d j as M r := by
  intro d
  induction d with
  | zero => intro j as M r h; cases h
  | succ d ih =>
    intro j as M r h
    have h : (match ext (d + 1) j as M with
      | some r => some r
      | none => match ms[j]? with
        | some y => bif Nat.ble (xv_cats as) y.2.1.2.1 then xv_loop D ct at_ kx.1 ms (xv_run D ct at_ kx.1 ms ext fuel d) y fuel 0 y.2.2.2 (xv_in as y.2.1.2.1) [] M 0 0 else none
        | none => none) = some r := h
    split at h
    · rename_i r' hr'
      cases Option.some.inj h
      exact hext _ _ _ _ _ hr'
    · refine xm_of hall (fun y z hy hz => ?_)
      intro p e s m args below meth c A φ0 hfix hkF hret hlocks
      rw [hy] at h
      dsimp only at h
      cases hc : Nat.ble (xv_cats as) y.2.1.2.1 <;> simp only [hc, cond_true, cond_false] at h
      · cases h
      refine ⟨Nat.le_of_ble_eq_true hc, xs_loop hD hall hchar hY ih hfix hkF (fun i pc L S cells slots h1 h2 => ?_) fuel 0 _ _ _ _ 0 0 h (fun q hq => hq)⟩
      intro hc1 hc2 t ws H locs ls st hm hP hD0 hS hl hs
      obtain ⟨hx, hb, -, -, -, -, -, -, -, -, hbod⟩ := hfix
      exact xs_end hD hx hb (by rw [hret]; exact hbod.1.symm) hlocks h1 h2 hm hP hD0 hS hs hc1 hc2
end XSW
end
section
/-! ONE LOOP FOR BOTH: to the end of the body (.inl), or up to the instruction at stop (.inr) -/
abbrev xv_B (V : Type) : Type := xv_R V ⊕ (xv_L V × List (xv_V V) × xv_M V × Nat × Nat)
noncomputable def xv_lp {V : Type} (D : xv_D V) (ct : List (List (FieldType × Bool))) (at_ : List Nat) (sct : List (List Int32)) (ms : List xv_N) (call : Nat → List (xv_V V) → xv_M V → Option (xv_R V)) (y : xv_N) (stop : Nat) : Nat → Nat → List xv_I → xv_L V → List (xv_V V) → xv_M V → Nat → Nat → Option (xv_B V) :=
  Nat.rec (fun _ _ _ _ _ _ _ => none) (fun _ ih => xv_step D ct at_ sct ms call y (fun r M => some (.inl (r, M))) (fun pc cs L S M c s => bif Nat.beq pc stop then some (.inr (L, S, M, c, s)) else ih pc cs L S M c s))
def xv_un {V : Type} : Option (xv_B V) → Option (xv_R V)
  | some (.inl r) => some r
  | _ => none
noncomputable def xv_rn {V : Type} (D : xv_D V) (ct : List (List (FieldType × Bool))) (at_ : List Nat) (sct : List (List Int32)) (ms : List xv_N) (ext : Nat → Nat → List (xv_V V) → xv_M V → Option (xv_R V)) (fuel : Nat) : Nat → Nat → List (xv_V V) → xv_M V → Option (xv_R V) :=
  Nat.rec (fun _ _ _ => none) (fun d ih j as M => match ext (d + 1) j as M with
    | some r => some r
    | none => match ms[j]? with
      | some y => bif Nat.ble (xv_cats as) y.2.1.2.1 then xv_un (xv_lp D ct at_ sct ms ih y 100000 fuel 0 y.2.2.2 (xv_in as y.2.1.2.1) [] M 0 0) else none
      | none => none)
section XSV
variable {l : Launch} {V : Type} {D : xv_D V} {g : V → Value → Prop} {Dg : va_G} {cl : List vw_C} {tys : List (ClassId × FieldType)} {at_ : List Nat} {nest : List (String × Nat × MethodName × String)} {tb : List Jvm.Cond} {ct : List (List (FieldType × Bool))} {ms : List xv_N} {ys : List xm_Z} {kx : xk_C} {kcc : ByteArray}
/-- THE BODY of a method: to its end, or up to stop -/
theorem xs_lp (hD : xv_ok D g) (hall : xc_all tb nest cl ct at_ kx.1 kx.2.2.2.1 kcc ms ys) (hchar : xk_Ch l tb kcc kx) (hY : xc_tys cl at_ tys) {d : Nat} {call : Nat → List (xv_V V) → xv_M V → Option (xv_R V)} (hcall : ∀ (j : Nat) (as : List (xv_V V)) (M : xv_M V) (r : xv_R V), call j as M = some r → xm_Con l g tys Dg cl at_ nest kx tb ms ys d j as M r)
    {y : xv_N} {z : xm_Z} {p : Program} {e : Env} {R : Room} {s : State} {m : MethodId} {args : Array Value} {below : List Frame} {meth : Method} {c : Code} {A : Nat → Prop} {Q : State → Prop} {φ0 : List Nat} (hfix : xw_fix Dg cl tys at_ nest kx tb ct ys d y z p R s m args meth c A) (hkF : xk_F kx φ0) {stop : Nat} {r : xv_B V}
    (hend : ∀ q : xv_R V, r = .inl q → ∀ (i : Instr) (pc : Nat) (L : xv_L V) (S : List (xv_V V)) (cells slots : Nat), xv_end D y.2.1.2.2.1 S i = some q.1 → decode z.2.1 pc = .ok (i, xv_len i) → xw_st p l e R s m args below meth c Q g Dg cl tys kx A φ0 y pc L S q.2 cells slots)
    (hstop : ∀ q : xv_L V × List (xv_V V) × xv_M V × Nat × Nat, r = .inr q → xw_st p l e R s m args below meth c Q g Dg cl tys kx A φ0 y stop q.1 q.2.1 q.2.2.1 q.2.2.2.1 q.2.2.2.2) :
    ∀ (n pc : Nat) (cs : List xv_I) (L : xv_L V) (S : List (xv_V V)) (M : xv_M V) (cells slots : Nat), xv_lp D ct at_ kx.1 ms call y stop n pc cs L S M cells slots = some r → (∀ q ∈ cs, q ∈ y.2.2.2) → xw_st p l e R s m args below meth c Q g Dg cl tys kx A φ0 y pc L S M cells slots := by
  intro n
  induction n with
  | zero => intro pc cs L S M cells slots h; cases h
  | succ n ih =>
    intro pc cs L S M cells slots h hcs
    have h : xv_step D ct at_ kx.1 ms call y (fun r M => some (Sum.inl (r, M))) (fun pc cs L S M c s => bif Nat.beq pc stop then some (Sum.inr (L, S, M, c, s)) else xv_lp D ct at_ kx.1 ms call y stop n pc cs L S M c s) pc cs L S M cells slots = some r := h
    refine xs_step hD hall hchar hY hcall hfix hkF h hcs (fun pc cs L S M cells slots h hcs => ?_) (fun i pc L S M cells slots rv h1 h2 h3 => ?_)
    · cases hpc : Nat.beq pc stop <;> simp only [hpc, cond_true, cond_false] at h
      · exact ih _ _ _ _ _ _ _ h hcs
      · have h := Option.some.inj h
        rw [Nat.eq_of_beq_eq_true hpc]
        exact hstop _ h.symm
    · have h2 := Option.some.inj h2
      exact hend _ h2.symm i pc L S cells slots h1 h3
theorem xv_un_some {x : Option (xv_B V)} {r : xv_R V} (h : xv_un x = some r) : x = some (.inl r) := by
  unfold xv_un at h
  split at h
  · cases h; rfl
  · cases h
/-- what it runs, the method does -/
theorem xs_rn (hD : xv_ok D g) (hall : xc_all tb nest cl ct at_ kx.1 kx.2.2.2.1 kcc ms ys) (hchar : xk_Ch l tb kcc kx) (hY : xc_tys cl at_ tys) {ext : Nat → Nat → List (xv_V V) → xv_M V → Option (xv_R V)} (hext : ∀ (d j : Nat) (as : List (xv_V V)) (M : xv_M V) (r : xv_R V), ext d j as M = some r → xm_Con l g tys Dg cl at_ nest kx tb ms ys d j as M r) (fuel : Nat) :
    ∀ (d j : Nat) (as : List (xv_V V)) (M : xv_M V) (r : xv_R V), xv_rn D ct at_ kx.1 ms ext fuel d j as M = some r → xm_Con l g tys Dg cl at_ nest kx tb ms ys d j as M r := by
  intro d
  induction d with
  | zero => intro j as M r h; cases h
  | succ d ih =>
    intro j as M r h
    have h : (match ext (d + 1) j as M with
      | some r => some r
      | none => match ms[j]? with
        | some y => bif Nat.ble (xv_cats as) y.2.1.2.1 then xv_un (xv_lp D ct at_ kx.1 ms (xv_rn D ct at_ kx.1 ms ext fuel d) y 100000 fuel 0 y.2.2.2 (xv_in as y.2.1.2.1) [] M 0 0) else none
        | none => none) = some r := h
    split at h
    · rename_i r' hr'
      cases Option.some.inj h
      exact hext _ _ _ _ _ hr'
    · refine xm_of hall (fun y z hy hz => ?_)
      intro p e s m args below meth c A φ0 hfix hkF hret hlocks
      rw [hy] at h
      dsimp only at h
      cases hc : Nat.ble (xv_cats as) y.2.1.2.1 <;> simp only [hc, cond_true, cond_false] at h
      · cases h
      refine ⟨Nat.le_of_ble_eq_true hc, xs_lp hD hall hchar hY ih hfix hkF (fun q hq i pc L S cells slots h1 h2 => ?_) (fun q hq => by cases hq) fuel 0 _ _ _ _ 0 0 (xv_un_some h) (fun q hq => hq)⟩
      cases hq
      intro hc1 hc2 t ws H locs ls st hm hP hD0 hS hl hs
      obtain ⟨hx, hb, -, -, -, -, -, -, -, -, hbod⟩ := hfix
      exact xs_end hD hx hb (by rw [hret]; exact hbod.1.symm) hlocks h1 h2 hm hP hD0 hS hs hc1 hc2
end XSV
end
section
/-! THE FAST MACHINE: the same steps, each instruction a function of its own, lists laid out at once (by continuations), the memory in rows of 16 cells -/
noncomputable def xf_get {α : Type} (l : List α) : Nat → Option α :=
  List.rec (motive := fun _ => Nat → Option α) (fun _ => none) (fun h _ ih n => Nat.rec (motive := fun _ => Option α) (some h) (fun m _ => ih m) n) l
theorem xf_get_eq {α : Type} : ∀ (l : List α) (n : Nat), xf_get l n = l[n]?
  | [], _ => by simp [xf_get]
  | _ :: _, 0 => rfl
  | _ :: t, n + 1 => by rw [List.getElem?_cons_succ, ← xf_get_eq t n]; rfl
noncomputable def xf_set {α β : Type} (a : α) (l : List α) : Nat → (List α → β) → β :=
  List.rec (motive := fun _ => Nat → (List α → β) → β) (fun _ k => k []) (fun h t ih n k => Nat.rec (motive := fun _ => β) (k (a :: t)) (fun m _ => ih m (fun r => k (h :: r))) n) l
theorem xf_set_eq {α β : Type} {a : α} : ∀ (l : List α) (n : Nat) (k : List α → β), xf_set a l n k = k (l.set n a)
  | [], _, _ => rfl
  | _ :: _, 0, _ => rfl
  | h :: t, n + 1, k => by
    show xf_set a t n (fun r => k (h :: r)) = _
    rw [xf_set_eq t n]
    rfl
noncomputable def xf_rep {α β : Type} (v : α) (n : Nat) : (List α → β) → β :=
  Nat.rec (motive := fun _ => (List α → β) → β) (fun k => k []) (fun _ ih k => ih (fun r => k (v :: r))) n
theorem xf_rep_eq {α β : Type} {v : α} : ∀ (n : Nat) (k : List α → β), xf_rep v n k = k (List.replicate n v)
  | 0, _ => rfl
  | n + 1, k => by
    show xf_rep v n (fun r => k (v :: r)) = _
    rw [xf_rep_eq n]
    rfl
noncomputable def xf_lay {α β : Type} (l : List α) : (List α → β) → β :=
  List.rec (motive := fun _ => (List α → β) → β) (fun k => k []) (fun h _ ih k => ih (fun r => k (h :: r))) l
theorem xf_lay_eq {α β : Type} : ∀ (l : List α) (k : List α → β), xf_lay l k = k l
  | [], _ => rfl
  | h :: t, k => by
    show xf_lay t (fun r => k (h :: r)) = _
    rw [xf_lay_eq t]
noncomputable def xf_nat {β : Type} (n : Nat) (k : Nat → β) : β := Nat.rec (motive := fun _ => β) (k 0) (fun m _ => k (m + 1)) n
theorem xf_nat_eq {β : Type} (n : Nat) (k : Nat → β) : xf_nat n k = k n := by cases n <;> rfl
/-- the upper n of the stack, the lowest first, and the rest -/
noncomputable def xf_pop {α β : Type} (n : Nat) : List α → List α → (List α → List α → Option β) → Option β :=
  Nat.rec (motive := fun _ => List α → List α → (List α → List α → Option β) → Option β) (fun S a k => k a S) (fun _ ih S a k => List.rec (motive := fun _ => Option β) none (fun v S _ => ih S (v :: a) k) S) n
theorem xf_pop_eq {α β : Type} : ∀ (n : Nat) (S a : List α) (k : List α → List α → Option β) (r : β), xf_pop n S a k = some r → n ≤ S.length ∧ k ((S.take n).reverse ++ a) (S.drop n) = some r
  | 0, S, a, k, r, h => ⟨Nat.zero_le _, h⟩
  | n + 1, [], a, k, r, h => by cases h
  | n + 1, v :: S, a, k, r, h => by
    have h2 := xf_pop_eq n S (v :: a) k r h
    refine ⟨Nat.succ_le_succ h2.1, ?_⟩
    rw [List.take_succ_cons, List.reverse_cons, List.append_assoc, List.drop_succ_cons]
    exact h2.2
section XF0
variable {V : Type}
noncomputable def xf_in {β : Type} (as : List (xv_V V)) : Nat → (xv_L V → β) → β :=
  List.rec (motive := fun _ => Nat → (xv_L V → β) → β) (fun n k => xf_rep none n k) (fun v _ ih n k => match v with
    | .inr (.inl a) => ih (n - 2) (fun r => k (some (.inr (.inl a)) :: none :: r))
    | v => ih (n - 1) (fun r => k (some v :: r))) as
theorem xf_in_eq {β : Type} : ∀ (as : List (xv_V V)) (n : Nat) (k : xv_L V → β), xf_in as n k = k (xv_in as n)
  | [], n, k => by show xf_rep none n k = _; rw [xf_rep_eq]; rfl
  | .inr (.inl a) :: r, n, k => by
    show xf_in r (n - 2) (fun r => k (some (.inr (.inl a)) :: none :: r)) = _
    rw [xf_in_eq r]; rfl
  | .inl a :: r, n, k => by
    show xf_in r (n - 1) (fun r => k (some (.inl a) :: r)) = _
    rw [xf_in_eq r]; rfl
  | .inr (.inr a) :: r, n, k => by
    show xf_in r (n - 1) (fun r => k (some (.inr (.inr a)) :: r)) = _
    rw [xf_in_eq r]; rfl
/-- the memory: rows of 16 places -/
abbrev xf_T (V : Type) : Type := List (List (Option (xv_O V)))
def xf_at (T : xf_T V) (a : Nat) : Option (xv_O V) := match T[a / 16]? with
  | some ch => match ch[a % 16]? with
    | some o => o
    | none => none
  | none => none
def xf_R (n : Nat) (T : xf_T V) (M : xv_M V) : Prop := M.length = n ∧ ∀ a, xf_at T a = M[a]?
noncomputable def xf_cell {β : Type} (T : xf_T V) (a : Nat) (k : xv_O V → Option β) : Option β := match xf_get T (Nat.div a 16) with
  | some ch => match xf_get ch (Nat.mod a 16) with
    | some (some o) => k o
    | _ => none
  | none => none
theorem xf_cell_ok {β : Type} {T : xf_T V} {a : Nat} {k : xv_O V → Option β} {r : β} (h : xf_cell T a k = some r) : ∃ o, xf_at T a = some o ∧ k o = some r := by
  unfold xf_cell at h
  rw [xf_get_eq] at h
  split at h
  · rename_i ch hch
    rw [xf_get_eq] at h
    split at h
    · rename_i o ho
      refine ⟨o, ?_, h⟩
      unfold xf_at
      rw [show T[a / 16]? = some ch from hch]
      dsimp only
      rw [show ch[a % 16]? = some (some o) from ho]
    · cases h
  · cases h
noncomputable def xf_upd {β : Type} (T : xf_T V) (a : Nat) (o : xv_O V) (k : xf_T V → Option β) : Option β := match xf_get T (Nat.div a 16) with
  | some ch => match xf_get ch (Nat.mod a 16) with
    | some _ => xf_set (some o) ch (Nat.mod a 16) (fun ch => xf_set ch T (Nat.div a 16) k)
    | none => none
  | none => none
theorem xf_upd_ok {β : Type} {T : xf_T V} {a : Nat} {o : xv_O V} {k : xf_T V → Option β} {r : β} (h : xf_upd T a o k = some r) : ∃ T', k T' = some r ∧ ∀ b, xf_at T' b = if b = a then some o else xf_at T b := by
  unfold xf_upd at h
  rw [xf_get_eq] at h
  split at h
  · rename_i ch hch
    rw [xf_get_eq] at h
    split at h
    · rename_i o0 ho
      rw [xf_set_eq, xf_set_eq] at h
      refine ⟨_, h, fun b => ?_⟩
      have hch : T[a / 16]? = some ch := hch
      have ho : ch[a % 16]? = some o0 := ho
      have l1 := (List.getElem?_eq_some_iff.mp hch).1
      have l2 := (List.getElem?_eq_some_iff.mp ho).1
      unfold xf_at
      rw [show Nat.div a 16 = a / 16 from rfl, show Nat.mod a 16 = a % 16 from rfl, List.getElem?_set]
      by_cases e1 : a / 16 = b / 16
      · rw [if_pos e1, if_pos l1]
        dsimp only
        rw [List.getElem?_set]
        by_cases e2 : a % 16 = b % 16
        · have e : b = a := by omega
          rw [if_pos e2, if_pos l2, if_pos e]
        · have e : ¬ b = a := fun q => e2 (by rw [q])
          rw [if_neg e2, if_neg e, ← e1, hch]
      · have e : ¬ b = a := fun q => e1 (by rw [q])
        rw [if_neg e1, if_neg e]
    · cases h
  · cases h
noncomputable def xf_push {β : Type} (T : xf_T V) (n : Nat) (o : xv_O V) (k : xf_T V → Option β) : Option β := xf_upd T n o k
theorem xf_R.set {n a : Nat} {T T' : xf_T V} {M : xv_M V} {o o0 : xv_O V} (h : xf_R n T M) (h0 : M[a]? = some o0) (hT : ∀ b, xf_at T' b = if b = a then some o else xf_at T b) : xf_R n T' (M.set a o) := by
  refine ⟨by rw [List.length_set]; exact h.1, fun b => ?_⟩
  rw [hT b, List.getElem?_set, h.2 b]
  by_cases e : b = a
  · rw [if_pos e, if_pos e.symm, if_pos (List.getElem?_eq_some_iff.mp h0).1]
  · rw [if_neg e, if_neg (fun q => e q.symm)]
theorem xf_R.push {n : Nat} {T T' : xf_T V} {M : xv_M V} {o : xv_O V} (h : xf_R n T M) (hT : ∀ b, xf_at T' b = if b = n then some o else xf_at T b) : xf_R (n + 1) T' (M ++ [o]) := by
  refine ⟨by rw [List.length_append, h.1]; rfl, fun b => ?_⟩
  rw [hT b, h.2 b]
  by_cases e : b = n
  · subst e
    rw [if_pos rfl, List.getElem?_append_right (by rw [h.1]; exact Nat.le_refl _), h.1, Nat.sub_self]
    rfl
  · rw [if_neg e]
    by_cases l : b < M.length
    · rw [List.getElem?_append_left l]
    · rw [List.getElem?_eq_none (by omega), List.getElem?_append_right (by omega), List.getElem?_eq_none (by show 1 ≤ _; rw [h.1] at *; omega)]
end XF0
end
section
section XF1
variable {V : Type}
abbrev xf_P (V : Type) : Type := (Option (xv_V V) × Nat × xf_T V) ⊕ (xv_L V × List (xv_V V) × (Nat × xf_T V) × Nat × Nat)
abbrev xf_C (V : Type) : Type := xv_L V → List (xv_V V) → Nat → xf_T V → Nat → Nat → Option (xf_P V)
abbrev xf_K (V : Type) : Type := Nat → List (xv_V V) → Nat → xf_T V → Option (Option (xv_V V) × Nat × xf_T V)
abbrev xf_F (V : Type) : Type := xf_C V → (Nat → xf_C V) → xf_K V → xf_C V
abbrev xf_fv (V : Type) : Type := V → (V → Option (xf_P V)) → Option (xf_P V)
def xf_no : xf_F V := fun _ _ _ _ _ _ _ _ _ => none
def xf_cst (v : xv_V V) : xf_F V := fun next _ _ L S n T c s => next L (v :: S) n T c s
noncomputable def xf_ldi (i : Nat) : xf_F V := fun next _ _ L S n T c s => match xf_get L i with
  | some (some (.inl a)) => next L (.inl a :: S) n T c s
  | _ => none
noncomputable def xf_ldl (i : Nat) : xf_F V := fun next _ _ L S n T c s => match xf_get L i with
  | some (some (.inr (.inl a))) => next L (.inr (.inl a) :: S) n T c s
  | _ => none
noncomputable def xf_lda (i : Nat) : xf_F V := fun next _ _ L S n T c s => match xf_get L i with
  | some (some (.inr (.inr (some a)))) => next L (.inr (.inr (some a)) :: S) n T c s
  | _ => none
noncomputable def xf_put1 {β : Type} (L : xv_L V) (i : Nat) (v : xv_V V) (k : xv_L V → β) : β := match i with
  | 0 => xf_set (some v) L 0 k
  | j + 1 => match xf_get L j with
    | some (some (.inr (.inl _))) => xf_set none L j (fun L => xf_set (some v) L (j + 1) k)
    | _ => xf_set (some v) L (j + 1) k
theorem xf_put1_eq {β : Type} {L : xv_L V} {i : Nat} {v : xv_V V} {k : xv_L V → β} : xf_put1 L i v k = k (xv_put1 L i v) := by
  cases i with
  | zero => simp only [xf_put1, xf_set_eq, xv_put1, xv_kill]
  | succ j =>
    simp only [xf_put1, xf_get_eq, xv_put1, xv_kill]
    split
    · rename_i a ha
      simp only [xf_set_eq, ha]
    · rename_i hn
      simp only [xf_set_eq]
noncomputable def xf_put2 {β : Type} (L : xv_L V) (i : Nat) (v : xv_V V) (k : xv_L V → β) : β := match i with
  | 0 => xf_set none L 1 (fun L => xf_set (some v) L 0 k)
  | j + 1 => match xf_get L j with
    | some (some (.inr (.inl _))) => xf_set none L j (fun L => xf_set none L (j + 2) (fun L => xf_set (some v) L (j + 1) k))
    | _ => xf_set none L (j + 2) (fun L => xf_set (some v) L (j + 1) k)
theorem xf_put2_eq {β : Type} {L : xv_L V} {i : Nat} {v : xv_V V} {k : xv_L V → β} : xf_put2 L i v k = k (xv_put2 L i v) := by
  cases i with
  | zero => simp only [xf_put2, xf_set_eq, xv_put2, xv_kill]
  | succ j =>
    simp only [xf_put2, xf_get_eq, xv_put2, xv_kill]
    split
    · rename_i a ha
      simp only [xf_set_eq, ha]
    · rename_i hn
      simp only [xf_set_eq]
noncomputable def xf_sti (i : Nat) : xf_F V := fun next _ _ L S n T c s => match S with
  | .inl a :: S => match xf_get L i with
    | some _ => xf_put1 L i (.inl a) (fun L => next L S n T c s)
    | none => none
  | _ => none
noncomputable def xf_stl (i : Nat) : xf_F V := fun next _ _ L S n T c s => match S with
  | .inr (.inl a) :: S => match xf_get L (i + 1) with
    | some _ => xf_put2 L i (.inr (.inl a)) (fun L => next L S n T c s)
    | none => none
  | _ => none
noncomputable def xf_sta (i : Nat) : xf_F V := fun next _ _ L S n T c s => match S with
  | .inr (.inr (some a)) :: S => match xf_get L i with
    | some _ => xf_put1 L i (.inr (.inr (some a))) (fun L => next L S n T c s)
    | none => none
  | _ => none
noncomputable def xf_iinc (op : V → V → Option V) (fv : xf_fv V) (i : Nat) (b : V) : xf_F V := fun next _ _ L S n T c s => match xf_get L i with
  | some (some (.inl a)) => match op a b with
    | some r => fv r (fun r => xf_put1 L i (.inl r) (fun L => next L S n T c s))
    | none => none
  | _ => none
def xf_i2 (op : V → V → Option V) (fv : xf_fv V) : xf_F V := fun next _ _ L S n T c s => match S with
  | .inl b :: .inl a :: S => match op a b with
    | some r => fv r (fun r => next L (.inl r :: S) n T c s)
    | none => none
  | _ => none
def xf_l2 (op : V → V → Option V) (fv : xf_fv V) : xf_F V := fun next _ _ L S n T c s => match S with
  | .inr (.inl b) :: .inr (.inl a) :: S => match op a b with
    | some r => fv r (fun r => next L (.inr (.inl r) :: S) n T c s)
    | none => none
  | _ => none
def xf_s2 (op : V → V → Option V) (fv : xf_fv V) : xf_F V := fun next _ _ L S n T c s => match S with
  | .inl b :: .inr (.inl a) :: S => match op a b with
    | some r => fv r (fun r => next L (.inr (.inl r) :: S) n T c s)
    | none => none
  | _ => none
def xf_lc (op : V → V → Option V) (fv : xf_fv V) : xf_F V := fun next _ _ L S n T c s => match S with
  | .inr (.inl b) :: .inr (.inl a) :: S => match op a b with
    | some r => fv r (fun r => next L (.inl r :: S) n T c s)
    | none => none
  | _ => none
def xf_u00 (op : V → V → Option V) (fv : xf_fv V) : xf_F V := fun next _ _ L S n T c s => match S with
  | .inl a :: S => match op a a with
    | some r => fv r (fun r => next L (.inl r :: S) n T c s)
    | none => none
  | _ => none
def xf_u11 (op : V → V → Option V) (fv : xf_fv V) : xf_F V := fun next _ _ L S n T c s => match S with
  | .inr (.inl a) :: S => match op a a with
    | some r => fv r (fun r => next L (.inr (.inl r) :: S) n T c s)
    | none => none
  | _ => none
def xf_u01 (op : V → V → Option V) (fv : xf_fv V) : xf_F V := fun next _ _ L S n T c s => match S with
  | .inl a :: S => match op a a with
    | some r => fv r (fun r => next L (.inr (.inl r) :: S) n T c s)
    | none => none
  | _ => none
def xf_u10 (op : V → V → Option V) (fv : xf_fv V) : xf_F V := fun next _ _ L S n T c s => match S with
  | .inr (.inl a) :: S => match op a a with
    | some r => fv r (fun r => next L (.inl r :: S) n T c s)
    | none => none
  | _ => none
def xf_dup : xf_F V := fun next _ _ L S n T c s => match S with
  | v :: S => bif Nat.beq (xv_cat v) 1 then next L (v :: v :: S) n T c s else none
  | _ => none
def xf_pop1 : xf_F V := fun next _ _ L S n T c s => match S with
  | v :: S => bif Nat.beq (xv_cat v) 1 then next L S n T c s else none
  | _ => none
def xf_dup2 : xf_F V := fun next _ _ L S n T c s => match S with
  | v :: w :: S => bif Nat.beq (xv_cat v) 1 && Nat.beq (xv_cat w) 1 then next L (v :: w :: v :: w :: S) n T c s else none
  | _ => none
def xf_goto (t : Nat) : xf_F V := fun _ jmp _ L S n T c s => jmp t L S n T c s
def xf_c2 (cmp : V → V → Option Bool) (t : Nat) : xf_F V := fun next jmp _ L S n T c s => match S with
  | .inl b :: .inl a :: S => match cmp a b with
    | some true => jmp t L S n T c s
    | some false => next L S n T c s
    | none => none
  | _ => none
def xf_c1 (cmp : V → V → Option Bool) (z : V) (t : Nat) : xf_F V := fun next jmp _ L S n T c s => match S with
  | .inl a :: S => match cmp a z with
    | some true => jmp t L S n T c s
    | some false => next L S n T c s
    | none => none
  | _ => none
def xf_sw (f : List (xv_V V) → Option (Nat × List (xv_V V))) : xf_F V := fun _ jmp _ L S n T c s => match f S with
  | some tS => jmp tS.1 L tS.2 n T c s
  | none => none
noncomputable def xf_gf (tag k : Nat) : xf_F V := fun next _ _ L S n T c s => match S with
  | .inr (.inr (some a)) :: S => xf_cell T a (fun o => bif Nat.beq o.1 tag then match xf_get o.2 k with
      | some v => next L (v :: S) n T c s
      | none => none
    else none)
  | _ => none
noncomputable def xf_pf (fit : xv_V V → Bool) (tag k : Nat) : xf_F V := fun next _ _ L S n T c s => match S with
  | v :: .inr (.inr (some a)) :: S => xf_cell T a (fun o => bif Nat.beq o.1 tag && fit v then match xf_get o.2 k with
      | some _ => xf_set v o.2 k (fun fs => xf_upd T a (tag, fs) (fun T => next L S n T c s))
      | none => none
    else none)
  | _ => none
noncomputable def xf_new (tag : Nat) (fs : List (xv_V V)) (len yc ys : Nat) : xf_F V := fun next _ _ L S n T c s =>
  bif Nat.ble (c + 1) yc && Nat.ble (s + len) ys then xf_nat n (fun n => xf_push T n (tag, fs) (fun T => next L (.inr (.inr (some n)) :: S) (n + 1) T (c + 1) (s + len))) else none
noncomputable def xf_na (ix : V → Nat → Option Nat) (tag : Nat) (v : xv_V V) (yc ys : Nat) : xf_F V := fun next _ _ L S n T c s => match S with
  | .inl m :: S => match ix m 4096 with
    | some k => bif Nat.ble (c + 1) yc && Nat.ble (s + k) ys then xf_nat n (fun n => xf_rep v k (fun vs => xf_push T n (tag, vs) (fun T => next L (.inr (.inr (some n)) :: S) (n + 1) T (c + 1) (s + k)))) else none
    | none => none
  | _ => none
noncomputable def xf_al (i1 : Int32 → V) (fv : xf_fv V) : xf_F V := fun next _ _ L S n T c s => match S with
  | .inr (.inr (some a)) :: S => xf_cell T a (fun o => bif Nat.blt o.1 7 && Nat.ble o.2.length 4096 then fv (i1 (Int32.ofNat o.2.length)) (fun r => next L (.inl r :: S) n T c s) else none)
  | _ => none
noncomputable def xf_ald (val : V → Option Int) (t0 t1 : Nat) : xf_F V := fun next _ _ L S n T c s => match S with
  | .inl i :: .inr (.inr (some a)) :: S => match val i with
    | some (.ofNat k) => xf_cell T a (fun o => bif Nat.ble t0 o.1 && Nat.ble o.1 t1 then match xf_get o.2 k with
        | some v => next L (v :: S) n T c s
        | none => none
      else none)
    | _ => none
  | _ => none
noncomputable def xf_iald (val : V → Option Int) : xf_F V := fun next _ _ L S n T c s => match S with
  | .inl i :: .inr (.inr (some a)) :: S => match val i with
    | some (.ofNat k) => xf_cell T a (fun o => bif Nat.beq o.1 0 || Nat.beq o.1 3 then match xf_get o.2 k with
        | some v => next L (v :: S) n T c s
        | none => none
      else none)
    | _ => none
  | _ => none
noncomputable def xf_ast (val : V → Option Int) (fit : xv_V V → Bool) (t : Nat) : xf_F V := fun next _ _ L S n T c s => match S with
  | v :: .inl i :: .inr (.inr (some a)) :: S => match val i with
    | some (.ofNat k) => xf_cell T a (fun o => bif Nat.beq o.1 t && fit v then match xf_get o.2 k with
        | some _ => xf_set v o.2 k (fun fs => xf_upd T a (t, fs) (fun T => next L S n T c s))
        | none => none
      else none)
    | _ => none
  | _ => none
noncomputable def xf_aast (val : V → Option Int) (at_ : List Nat) : xf_F V := fun next _ _ L S n T c s => match S with
  | .inr (.inr (some v)) :: .inl i :: .inr (.inr (some a)) :: S => match val i with
    | some (.ofNat k) => xf_cell T a (fun o => xf_cell T v (fun ov => match at_[o.1 - 4]? with
      | some ci => bif Nat.ble 4 o.1 && Nat.blt o.1 7 && Nat.beq ov.1 (8 + ci) then match xf_get o.2 k with
          | some _ => xf_set (.inr (.inr (some v))) o.2 k (fun fs => xf_upd T a (o.1, fs) (fun T => next L S n T c s))
          | none => none
        else none
      | none => none))
    | _ => none
  | _ => none
/-- behind a call -/
def xf_aft (next : xf_C V) (L : xv_L V) (R : List (xv_V V)) (c s : Nat) : Option (Option (xv_V V) × Nat × xf_T V) → Option (xf_P V)
  | some (some v, n, T) => next L (v :: R) n T c s
  | some (none, n, T) => next L R n T c s
  | none => none
noncomputable def xf_cv (j np tag zc zs yc ys : Nat) : xf_F V := fun next _ call L S n T c s => xf_pop np S [] (fun as R => match R with
  | .inr (.inr (some a)) :: R => xf_cell T a (fun o => bif Nat.beq o.1 tag && Nat.ble (xv_cats R) 8 && (Nat.ble (c + zc) yc && Nat.ble (s + zs) ys) then xf_aft next L R (c + zc) (s + zs) (call j (.inr (.inr (some a)) :: as) n T) else none)
  | _ => none)
noncomputable def xf_ci (j np zc zs yc ys : Nat) : xf_F V := fun next _ call L S n T c s => xf_pop np S [] (fun as R => match R with
  | .inr (.inr (some a)) :: R => bif Nat.ble (xv_cats R) 8 && (Nat.ble (c + zc) yc && Nat.ble (s + zs) ys) then xf_aft next L R (c + zc) (s + zs) (call j (.inr (.inr (some a)) :: as) n T) else none
  | _ => none)
noncomputable def xf_cs (j np zc zs yc ys : Nat) : xf_F V := fun next _ call L S n T c s => xf_pop np S [] (fun as R => bif Nat.ble (xv_cats R) 8 && (Nat.ble (c + zc) yc && Nat.ble (s + zs) ys) then xf_aft next L R (c + zc) (s + zs) (call j as n T) else none)
def xf_obj : xf_F V := fun next _ _ L S n T c s => match S with
  | .inr (.inr (some _)) :: S => bif Nat.ble (xv_cats S) 8 then next L S n T c s else none
  | _ => none
noncomputable def xf_cp (ix : V → Nat → Option Nat) : xf_F V := fun next _ _ L S n T c s => match S with
  | .inl m :: .inl dp :: .inr (.inr (some b)) :: .inl sp :: .inr (.inr (some a)) :: S => xf_cell T a (fun oa => xf_cell T b (fun ob => bif Nat.beq oa.1 0 && Nat.beq ob.1 0 && Nat.ble (xv_cats S) 8 then match ix m 4096, ix dp 4096, ix sp 4096 with
      | some m, some dp, some sp => bif Nat.ble (sp + m) oa.2.length && Nat.ble (dp + m) ob.2.length then xf_lay (ob.2.take dp ++ ((oa.2.drop sp).take m ++ ob.2.drop (dp + m))) (fun vs => xf_upd T b (0, vs) (fun T => next L S n T c s)) else none
      | _, _, _ => none
    else none))
  | _ => none
noncomputable def xf_ch (val : V → Option Int) (i1 : Int32 → V) (fv : xf_fv V) (sct : List (List Int32)) : xf_F V := fun next _ _ L S n T c s => match S with
  | .inl a :: .inr (.inr (some m)) :: S => match xf_get sct m, val a with
    | some cs, some (.ofNat k) => match xf_get cs k with
      | some b => bif Nat.ble (xv_cats S) 8 then fv (i1 (b &&& 255)) (fun r => next L (.inl r :: S) n T c s) else none
      | none => none
    | _, _ => none
  | _ => none
def xf_rv : xf_F V := fun _ _ _ _ S n T _ _ => match S with
  | [] => some (.inl (none, n, T))
  | _ => none
def xf_ri : xf_F V := fun _ _ _ _ S n T _ _ => match S with
  | [.inl a] => some (.inl (some (.inl a), n, T))
  | _ => none
def xf_rz (bit : V → Bool) : xf_F V := fun _ _ _ _ S n T _ _ => match S with
  | [.inl a] => bif bit a then some (.inl (some (.inl a), n, T)) else none
  | _ => none
def xf_rl : xf_F V := fun _ _ _ _ S n T _ _ => match S with
  | [.inr (.inl a)] => some (.inl (some (.inr (.inl a)), n, T))
  | _ => none
/-- the instruction's function -/
noncomputable def xf_of (D : xv_D V) (fv : xf_fv V) (ct : List (List (FieldType × Bool))) (at_ : List Nat) (sct : List (List Int32)) (ms : List xv_N) (y : xv_N) (pc : Nat) : Instr → xf_F V
  | .iconst n => xf_cst (.inl (D.1 (Int32.ofInt n)))
  | .bipush n => xf_cst (.inl (D.1 (Int8.ofInt n).toInt32))
  | .sipush n => xf_cst (.inl (D.1 (Int16.ofInt n).toInt32))
  | .lconst n => xf_cst (.inr (.inl (D.2.1 (Int64.ofNat (n : Nat)))))
  | .ldc i => match xv_find y.1.2.2.2.2.1 i with
    | some v => xf_cst (.inl (D.1 v))
    | none => match xv_find y.1.2.2.2.1 i with
      | some n => bif Nat.ble 2000 n then xf_cst (.inr (.inr (some (n - 2000)))) else xf_no
      | none => xf_no
  | .ldc2_w i => match xv_find y.1.2.2.2.2.2 i with
    | some v => xf_cst (.inr (.inl (D.2.1 v)))
    | none => xf_no
  | .iload_n k => xf_ldi k
  | .iload k => xf_ldi k
  | .lload_n k => xf_ldl k
  | .lload k => xf_ldl k
  | .aload_n k => xf_lda k
  | .aload k => xf_lda k
  | .istore_n k => xf_sti k
  | .istore k => xf_sti k
  | .lstore_n k => xf_stl k
  | .lstore k => xf_stl k
  | .astore_n k => xf_sta k
  | .astore k => xf_sta k
  | .iinc k n => xf_iinc (D.2.2.1 0) fv k (D.1 (Int32.ofInt n))
  | .iadd => xf_i2 (D.2.2.1 0) fv
  | .isub => xf_i2 (D.2.2.1 1) fv
  | .imul => xf_i2 (D.2.2.1 2) fv
  | .iand => xf_i2 (D.2.2.1 3) fv
  | .ior => xf_i2 (D.2.2.1 4) fv
  | .ishl => xf_i2 (D.2.2.1 5) fv
  | .ishr => xf_i2 (D.2.2.1 6) fv
  | .iushr => xf_i2 (D.2.2.1 7) fv
  | .idiv => xf_i2 (D.2.2.1 8) fv
  | .irem => xf_i2 (D.2.2.1 9) fv
  | .ineg => xf_u00 (D.2.2.1 10) fv
  | .ladd => xf_l2 (D.2.2.1 20) fv
  | .lsub => xf_l2 (D.2.2.1 21) fv
  | .lmul => xf_l2 (D.2.2.1 22) fv
  | .land => xf_l2 (D.2.2.1 23) fv
  | .lor => xf_l2 (D.2.2.1 24) fv
  | .ldiv => xf_l2 (D.2.2.1 25) fv
  | .lrem => xf_l2 (D.2.2.1 26) fv
  | .lneg => xf_u11 (D.2.2.1 27) fv
  | .lshl => xf_s2 (D.2.2.1 30) fv
  | .lshr => xf_s2 (D.2.2.1 31) fv
  | .i2l => xf_u01 (D.2.2.1 40) fv
  | .l2i => xf_u10 (D.2.2.1 41) fv
  | .lcmp => xf_lc (D.2.2.1 42) fv
  | .dup => xf_dup
  | .pop => xf_pop1
  | .dup2 => xf_dup2
  | .goto off => match xv_tgt pc off with
    | some t => xf_goto t
    | none => xf_no
  | .if_icmp .eq off => match xv_tgt pc off with
    | some t => xf_c2 (D.2.2.2.1 0) t
    | none => xf_no
  | .if_icmp .ne off => match xv_tgt pc off with
    | some t => xf_c2 (D.2.2.2.1 1) t
    | none => xf_no
  | .if_icmp .lt off => match xv_tgt pc off with
    | some t => xf_c2 (D.2.2.2.1 2) t
    | none => xf_no
  | .if_icmp .ge off => match xv_tgt pc off with
    | some t => xf_c2 (D.2.2.2.1 3) t
    | none => xf_no
  | .if_icmp .gt off => match xv_tgt pc off with
    | some t => xf_c2 (D.2.2.2.1 4) t
    | none => xf_no
  | .if_icmp .le off => match xv_tgt pc off with
    | some t => xf_c2 (D.2.2.2.1 5) t
    | none => xf_no
  | .ifCond .eq off => match xv_tgt pc off with
    | some t => xf_c1 (D.2.2.2.1 0) (D.1 0) t
    | none => xf_no
  | .ifCond .ne off => match xv_tgt pc off with
    | some t => xf_c1 (D.2.2.2.1 1) (D.1 0) t
    | none => xf_no
  | .ifCond .lt off => match xv_tgt pc off with
    | some t => xf_c1 (D.2.2.2.1 2) (D.1 0) t
    | none => xf_no
  | .ifCond .ge off => match xv_tgt pc off with
    | some t => xf_c1 (D.2.2.2.1 3) (D.1 0) t
    | none => xf_no
  | .ifCond .gt off => match xv_tgt pc off with
    | some t => xf_c1 (D.2.2.2.1 4) (D.1 0) t
    | none => xf_no
  | .ifCond .le off => match xv_tgt pc off with
    | some t => xf_c1 (D.2.2.2.1 5) (D.1 0) t
    | none => xf_no
  | .tableswitch a b c d => xf_sw (fun S => xv_br D pc S (.tableswitch a b c d))
  | .lookupswitch a b => xf_sw (fun S => xv_br D pc S (.lookupswitch a b))
  | .getfield i => match xv_find y.1.2.1 i with
    | some ck => xf_gf (8 + ck.1) ck.2
    | none => xf_no
  | .putfield i => match xv_find y.1.2.1 i with
    | some ck => match ct[ck.1]? with
      | some fs => match fs[ck.2]? with
        | some f => bif !f.2 || (Nat.beq y.2.1.2.2.2 1 && Nat.beq y.1.1 ck.1) then xf_pf (xv_fit D f.1) (8 + ck.1) ck.2 else xf_no
        | none => xf_no
      | none => xf_no
    | none => xf_no
  | .new i => match xv_find y.1.2.2.2.1 i with
    | some ci => match ct[ci]? with
      | some fs => bif Nat.blt ci 1000 then xf_new (8 + ci) (fs.map (fun f => xv_dflt D f.1)) fs.length y.2.2.1.1 y.2.2.1.2 else xf_no
      | none => xf_no
    | none => xf_no
  | .newarray .int => xf_na (xv_ix D) 0 (.inl (D.1 0)) y.2.2.1.1 y.2.2.1.2
  | .newarray .long => xf_na (xv_ix D) 1 (.inr (.inl (D.2.1 0))) y.2.2.1.1 y.2.2.1.2
  | .newarray .boolean => xf_na (xv_ix D) 2 (.inl (D.1 0)) y.2.2.1.1 y.2.2.1.2
  | .anewarray i => match xv_find y.1.2.2.2.1 (70000 + i) with
    | some ci => bif Nat.ble 1000 ci && Nat.blt ci 1003 then xf_na (xv_ix D) (ci - 996) (.inr (.inr none)) y.2.2.1.1 y.2.2.1.2 else xf_no
    | none => xf_no
  | .arraylength => xf_al D.1 fv
  | .iaload => xf_iald D.2.2.2.2.1
  | .laload => xf_ald D.2.2.2.2.1 1 1
  | .baload => xf_ald D.2.2.2.2.1 2 2
  | .aaload => xf_ald D.2.2.2.2.1 4 6
  | .iastore => xf_ast D.2.2.2.2.1 (xv_fit D .int) 0
  | .lastore => xf_ast D.2.2.2.2.1 (xv_fit D .long) 1
  | .bastore => xf_ast D.2.2.2.2.1 (xv_fit D .boolean) 2
  | .aastore => xf_aast D.2.2.2.2.1 at_
  | .invokevirtual i => match xv_find y.1.2.2.1 i with
    | some q => bif Nat.beq q.1 0 then match ms[q.2]? with
        | some z => xf_cv q.2 z.2.1.1 (8 + z.1.1) z.2.2.1.1 z.2.2.1.2 y.2.2.1.1 y.2.2.1.2
        | none => xf_no
      else bif Nat.beq q.1 4 then xf_ch D.2.2.2.2.1 D.1 fv sct else xf_no
    | none => xf_no
  | .invokespecial i => match xv_find y.1.2.2.1 i with
    | some q => bif Nat.beq q.1 1 || Nat.beq q.1 2 then match ms[q.2]? with
        | some z => xf_ci q.2 z.2.1.1 z.2.2.1.1 z.2.2.1.2 y.2.2.1.1 y.2.2.1.2
        | none => xf_no
      else bif Nat.beq q.1 5 then xf_obj else xf_no
    | none => xf_no
  | .invokestatic i => match xv_find y.1.2.2.1 i with
    | some q => bif Nat.beq q.1 3 then match ms[q.2]? with
        | some z => xf_cs q.2 z.2.1.1 z.2.2.1.1 z.2.2.1.2 y.2.2.1.1 y.2.2.1.2
        | none => xf_no
      else bif Nat.beq q.1 6 then xf_cp (xv_ix D) else xf_no
    | none => xf_no
  | .return_ => bif Nat.beq y.2.1.2.2.1 0 then xf_rv else xf_no
  | .ireturn => bif Nat.beq y.2.1.2.2.1 1 then xf_ri else bif Nat.beq y.2.1.2.2.1 3 then xf_rz D.2.2.2.2.2 else xf_no
  | .lreturn => bif Nat.beq y.2.1.2.2.1 2 then xf_rl else xf_no
  | _ => xf_no
/-- where a segment stops -/
def xf_stop : xf_F V := fun _ _ _ L S n T c s => some (.inr (L, S, (n, T), c, s))
/-- the loop over the instructions' functions -/
noncomputable def xf_to (cs : List (Nat × xf_F V)) (t : Nat) : List (Nat × xf_F V) :=
  List.rec (motive := fun _ => List (Nat × xf_F V)) [] (fun q r ih => bif Nat.beq q.1 t then q :: r else ih) cs
noncomputable def xf_lp (code : List (Nat × xf_F V)) (call : xf_K V) (fuel : Nat) : List (Nat × xf_F V) → xf_C V :=
  Nat.rec (motive := fun _ => List (Nat × xf_F V) → xf_C V) (fun _ _ _ _ _ _ _ => none)
    (fun _ ih cs => List.rec (motive := fun _ => xf_C V) (fun _ _ _ _ _ _ => none) (fun q cs _ => q.2 (ih cs) (fun t => ih (xf_to code t)) call) cs) fuel
def xf_un : Option (xf_P V) → Option (Option (xv_V V) × Nat × xf_T V)
  | some (.inl r) => some r
  | _ => none
/-- fs: the methods' locals and functions -/
noncomputable def xf_rn (fs : List (Nat × List (Nat × xf_F V))) (ext : Nat → xf_K V) (fuel : Nat) : Nat → xf_K V :=
  Nat.rec (motive := fun _ => xf_K V) (fun _ _ _ _ => none) (fun d ih j as n T => match ext (d + 1) j as n T with
    | some r => some r
    | none => match xf_get fs j with
      | some y => bif Nat.ble (xv_cats as) y.1 then xf_in as y.1 (fun L => xf_un (xf_lp y.2 ih fuel y.2 L [] n T 0 0)) else none
      | none => none)
end XF1
end
section
theorem xf_nn {α : Type} {a : α} {P : Prop} (h : (none : Option α) = some a) : P := by cases h
section XF2
variable {V : Type} {D : xv_D V} {fv : xf_fv V} {ct : List (List (FieldType × Bool))} {at_ : List Nat} {sct : List (List Int32)} {ms : List xv_N} {y : xv_N}
def xf_Q (p : xf_P V) (b : xv_B V) : Prop := (∃ v n T M, p = .inl (v, n, T) ∧ b = .inl (v, M) ∧ xf_R n T M) ∨ ∃ L S n T c s M, p = .inr (L, S, (n, T), c, s) ∧ b = .inr (L, S, M, c, s) ∧ xf_R n T M
def xf_S (y : xv_N) (K : xf_C V) (K' : xv_L V → List (xv_V V) → xv_M V → Nat → Nat → Option (xv_B V)) : Prop := ∀ (L : xv_L V) (S : List (xv_V V)) (n : Nat) (T : xf_T V) (c s : Nat) (p : xf_P V), c ≤ y.2.2.1.1 ∧ s ≤ y.2.2.1.2 → K L S n T c s = some p → ∀ M, xf_R n T M → ∃ b, K' L S M c s = some b ∧ xf_Q p b
section XF3
variable {call : Nat → List (xv_V V) → xv_M V → Option (xv_R V)} {fin : Option (xv_V V) → xv_M V → Option (xv_B V)} {ih : Nat → List xv_I → xv_L V → List (xv_V V) → xv_M V → Nat → Nat → Option (xv_B V)} {pc : Nat} {cs : List xv_I} {L : xv_L V} {S : List (xv_V V)} {M : xv_M V} {c s : Nat} {i : Instr}
theorem xt_pure {L' : xv_L V} {S' : List (xv_V V)} (h : xv_pure D y.1.2 L S i = some (L', S')) : xv_step D ct at_ sct ms call y fin ih pc ((pc, i) :: cs) L S M c s = ih (pc + xv_len i) cs L' S' M c s := by
  simp only [xv_step, Nat.beq_refl, cond_true, h]
theorem xt_br {t : Nat} {S' : List (xv_V V)} (h0 : xv_pure D y.1.2 L S i = none) (h : xv_br D pc S i = some (t, S')) : xv_step D ct at_ sct ms call y fin ih pc ((pc, i) :: cs) L S M c s = ih t (xv_to y.2.2.2 t) L S' M c s := by
  simp only [xv_step, Nat.beq_refl, cond_true, h0, h]
theorem xt_mem {S' : List (xv_V V)} {M' : xv_M V} {dc ds : Nat} (h0 : xv_pure D y.1.2 L S i = none) (h1 : xv_br D pc S i = none) (h : xv_mem D ct at_ y.1.2 y.1.1 y.2.1.2.2.2 M S i = some (S', M', dc, ds)) (b1 : Nat.ble (c + dc) y.2.2.1.1 = true) (b2 : Nat.ble (s + ds) y.2.2.1.2 = true) : xv_step D ct at_ sct ms call y fin ih pc ((pc, i) :: cs) L S M c s = ih (pc + xv_len i) cs L S' M' (c + dc) (s + ds) := by
  simp only [xv_step, Nat.beq_refl, cond_true, h0, h1, h, b1, b2, Bool.and_self]
theorem xt_call {j : Nat} {as R : List (xv_V V)} {z : xv_N} {v : Option (xv_V V)} {M' : xv_M V} (h0 : xv_pure D y.1.2 L S i = none) (h1 : xv_br D pc S i = none) (h2 : xv_mem D ct at_ y.1.2 y.1.1 y.2.1.2.2.2 M S i = none) (h : xv_arg ms y.1.2 M S i = some (j, as, R)) (hz : ms[j]? = some z) (b1 : Nat.ble (c + z.2.2.1.1) y.2.2.1.1 = true) (b2 : Nat.ble (s + z.2.2.1.2) y.2.2.1.2 = true) (hc : call j as M = some (v, M')) : xv_step D ct at_ sct ms call y fin ih pc ((pc, i) :: cs) L S M c s = ih (pc + 3) cs L (v.toList ++ R) M' (c + z.2.2.1.1) (s + z.2.2.1.2) := by
  simp only [xv_step, Nat.beq_refl, cond_true, h0, h1, h2, h, hz, b1, b2, Bool.and_self, hc]
theorem xt_nat {S' : List (xv_V V)} {M' : xv_M V} (h0 : xv_pure D y.1.2 L S i = none) (h1 : xv_br D pc S i = none) (h2 : xv_mem D ct at_ y.1.2 y.1.1 y.2.1.2.2.2 M S i = none) (h3 : xv_arg ms y.1.2 M S i = none) (h : xv_nat D sct y.1.2 M S i = some (S', M')) : xv_step D ct at_ sct ms call y fin ih pc ((pc, i) :: cs) L S M c s = ih (pc + 3) cs L S' M' c s := by
  simp only [xv_step, Nat.beq_refl, cond_true, h0, h1, h2, h3, h]
theorem xt_end {v : Option (xv_V V)} (h0 : xv_pure D y.1.2 L S i = none) (h1 : xv_br D pc S i = none) (h2 : xv_mem D ct at_ y.1.2 y.1.1 y.2.1.2.2.2 M S i = none) (h3 : xv_arg ms y.1.2 M S i = none) (h4 : xv_nat D sct y.1.2 M S i = none) (h : xv_end D y.2.1.2.2.1 S i = some v) : xv_step D ct at_ sct ms call y fin ih pc ((pc, i) :: cs) L S M c s = fin v M := by
  simp only [xv_step, Nat.beq_refl, cond_true, h0, h1, h2, h3, h4, h]
end XF3
theorem xf_ixv {a : V} {k n : Nat} {α : Type} {xs : List α} {v : α} (h : D.2.2.2.2.1 a = some (.ofNat k)) (hv : xs[k]? = some v) (hn : n = xs.length) : xv_ix D a n = some k := by
  have hk : k < xs.length := (List.getElem?_eq_some_iff.mp hv).1
  simp only [xv_ix, h]
  rw [hn, show Nat.blt k xs.length = true from Nat.ble_eq_true_of_le hk]
  rfl
theorem xf_lt {α : Type} {xs : List α} {k : Nat} {v : α} (hv : xs[k]? = some v) : Nat.blt k xs.length = true := Nat.ble_eq_true_of_le (List.getElem?_eq_some_iff.mp hv).1
theorem xf_nbeq {a b : Nat} (h : ¬ a = b) : Nat.beq a b = false := by
  cases e : Nat.beq a b
  · rfl
  · exact absurd (Nat.eq_of_beq_eq_true e) h
theorem xf_mem0 {call : Nat → List (xv_V V) → xv_M V → Option (xv_R V)} {fin : Option (xv_V V) → xv_M V → Option (xv_B V)} {ih : Nat → List xv_I → xv_L V → List (xv_V V) → xv_M V → Nat → Nat → Option (xv_B V)} {pc : Nat} {cs : List xv_I} {L : xv_L V} {S : List (xv_V V)} {M : xv_M V} {c s : Nat} {i : Instr} {S' : List (xv_V V)} {M' : xv_M V} {b : xv_B V} (h0 : xv_pure D y.1.2 L S i = none) (h1 : xv_br D pc S i = none) (h : xv_mem D ct at_ y.1.2 y.1.1 y.2.1.2.2.2 M S i = some (S', M', 0, 0)) (hB : c ≤ y.2.2.1.1 ∧ s ≤ y.2.2.1.2) (hb : ih (pc + xv_len i) cs L S' M' c s = some b) : xv_step D ct at_ sct ms call y fin ih pc ((pc, i) :: cs) L S M c s = some b := by
  rw [xt_mem h0 h1 h (Nat.ble_eq_true_of_le hB.1) (Nat.ble_eq_true_of_le hB.2)]
  exact hb
theorem xf_aft_ok {call : xf_K V} {call' : Nat → List (xv_V V) → xv_M V → Option (xv_R V)} (hcall : ∀ (j : Nat) (as : List (xv_V V)) (n : Nat) (T : xf_T V) (v : Option (xv_V V)) (n' : Nat) (T' : xf_T V), call j as n T = some (v, n', T') → ∀ M, xf_R n T M → ∃ M', call' j as M = some (v, M') ∧ xf_R n' T' M') {n : Nat} {T : xf_T V} {M : xv_M V} (hR : xf_R n T M) {next : xf_C V} {L : xv_L V} {R : List (xv_V V)} {c s j : Nat} {as : List (xv_V V)} {p : xf_P V} (h : xf_aft next L R c s (call j as n T) = some p) :
    ∃ v n' T' M', call' j as M = some (v, M') ∧ xf_R n' T' M' ∧ next L (v.toList ++ R) n' T' c s = some p := by
  cases hc : call j as n T with
  | none => rw [hc] at h; cases h
  | some q =>
    obtain ⟨v, n', T'⟩ := q
    rw [hc] at h
    obtain ⟨M', h1, h2⟩ := hcall _ _ _ _ _ _ _ hc M hR
    refine ⟨v, n', T', M', h1, h2, ?_⟩
    cases v with
    | none => exact h
    | some v => exact h
set_option maxHeartbeats 8000000 in
/-- ONE INSTRUCTION: what its function does, the step does -/
theorem xf_one (hfv : ∀ (r : V) (k : V → Option (xf_P V)), fv r k = k r) {call : xf_K V} {call' : Nat → List (xv_V V) → xv_M V → Option (xv_R V)} (hcall : ∀ (j : Nat) (as : List (xv_V V)) (n : Nat) (T : xf_T V) (v : Option (xv_V V)) (n' : Nat) (T' : xf_T V), call j as n T = some (v, n', T') → ∀ M, xf_R n T M → ∃ M', call' j as M = some (v, M') ∧ xf_R n' T' M')
    {ih : Nat → List xv_I → xv_L V → List (xv_V V) → xv_M V → Nat → Nat → Option (xv_B V)} {pc : Nat} {cs : List xv_I} {next : xf_C V} {jmp : Nat → xf_C V} {i : Instr} (hn : xv_sw i = false → xf_S y next (fun L S M c s => ih (pc + xv_len i) cs L S M c s)) (hb : xv_len i = 3 → xf_S y next (fun L S M c s => ih (pc + 3) (xv_to y.2.2.2 (pc + 3)) L S M c s)) (hj : ∀ t, xf_S y (jmp t) (fun L S M c s => ih t (xv_to y.2.2.2 t) L S M c s))
    {L : xv_L V} {S : List (xv_V V)} {n : Nat} {T : xf_T V} {c s : Nat} {p : xf_P V} {M : xv_M V} (hB : c ≤ y.2.2.1.1 ∧ s ≤ y.2.2.1.2) (h : xf_of D fv ct at_ sct ms y pc i next jmp call L S n T c s = some p) (hR : xf_R n T M) :
    ∃ b, xv_step D ct at_ sct ms call' y (fun r M => some (.inl (r, M))) ih pc ((pc, i) :: cs) L S M c s = some b ∧ xf_Q p b := by
  cases i
  all_goals (first | (exact xf_nn (show (none : Option (xf_P V)) = some p from h)) | skip)

  case iconst n =>
    simp only [xf_of, xf_cst] at h
    rw [xt_pure (L' := L) (S' := .inl (D.1 (Int32.ofInt n)) :: S) (by rfl)]
    exact hn rfl _ _ _ _ _ _ _ hB h M hR
  case bipush n =>
    simp only [xf_of, xf_cst] at h
    rw [xt_pure (L' := L) (S' := .inl (D.1 (Int8.ofInt n).toInt32) :: S) (by rfl)]
    exact hn rfl _ _ _ _ _ _ _ hB h M hR
  case sipush n =>
    simp only [xf_of, xf_cst] at h
    rw [xt_pure (L' := L) (S' := .inl (D.1 (Int16.ofInt n).toInt32) :: S) (by rfl)]
    exact hn rfl _ _ _ _ _ _ _ hB h M hR
  case lconst n =>
    simp only [xf_of, xf_cst] at h
    rw [xt_pure (L' := L) (S' := .inr (.inl (D.2.1 (Int64.ofNat (n : Nat)))) :: S) (by rfl)]
    exact hn rfl _ _ _ _ _ _ _ hB h M hR
  case ldc k =>
    rcases hv : xv_find y.1.2.2.2.2.1 k with _ | v
    · rcases hm : xv_find y.1.2.2.2.1 k with _ | m
      · simp only [xf_of, hv, hm] at h
        exact xf_nn (show (none : Option (xf_P V)) = some p from h)
      · simp only [xf_of, hv, hm] at h
        cases h2 : Nat.ble 2000 m <;> simp only [h2, cond_true, cond_false, xf_no, xf_cst, reduceCtorEq] at h
        rw [xt_pure (L' := L) (S' := .inr (.inr (some (m - 2000))) :: S) (by simp only [xv_pure, hv, hm, h2, cond_true])]
        exact hn rfl _ _ _ _ _ _ _ hB h M hR
    · simp only [xf_of, hv, xf_cst] at h
      rw [xt_pure (L' := L) (S' := .inl (D.1 v) :: S) (by simp only [xv_pure, hv])]
      exact hn rfl _ _ _ _ _ _ _ hB h M hR
  case ldc2_w k =>
    rcases hv : xv_find y.1.2.2.2.2.2 k with _ | v
    · simp only [xf_of, hv] at h
      exact xf_nn (show (none : Option (xf_P V)) = some p from h)
    · simp only [xf_of, hv, xf_cst] at h
      rw [xt_pure (L' := L) (S' := .inr (.inl (D.2.1 v)) :: S) (by simp only [xv_pure, hv])]
      exact hn rfl _ _ _ _ _ _ _ hB h M hR
  case iload_n k =>
    simp only [xf_of, xf_ldi, xf_get_eq] at h
    split at h
    · rename_i a ha
      rw [xt_pure (L' := L) (S' := .inl a :: S) (by simp only [xv_pure, xv_ld, ha]; rfl)]
      exact hn rfl _ _ _ _ _ _ _ hB h M hR
    · cases h
  case iload k =>
    simp only [xf_of, xf_ldi, xf_get_eq] at h
    split at h
    · rename_i a ha
      rw [xt_pure (L' := L) (S' := .inl a :: S) (by simp only [xv_pure, xv_ld, ha]; rfl)]
      exact hn rfl _ _ _ _ _ _ _ hB h M hR
    · cases h
  case lload_n k =>
    simp only [xf_of, xf_ldl, xf_get_eq] at h
    split at h
    · rename_i a ha
      rw [xt_pure (L' := L) (S' := .inr (.inl a) :: S) (by simp only [xv_pure, xv_ld, ha]; rfl)]
      exact hn rfl _ _ _ _ _ _ _ hB h M hR
    · cases h
  case lload k =>
    simp only [xf_of, xf_ldl, xf_get_eq] at h
    split at h
    · rename_i a ha
      rw [xt_pure (L' := L) (S' := .inr (.inl a) :: S) (by simp only [xv_pure, xv_ld, ha]; rfl)]
      exact hn rfl _ _ _ _ _ _ _ hB h M hR
    · cases h
  case aload_n k =>
    simp only [xf_of, xf_lda, xf_get_eq] at h
    split at h
    · rename_i a ha
      rw [xt_pure (L' := L) (S' := .inr (.inr (some a)) :: S) (by simp only [xv_pure, xv_ld, ha]; rfl)]
      exact hn rfl _ _ _ _ _ _ _ hB h M hR
    · cases h
  case aload k =>
    simp only [xf_of, xf_lda, xf_get_eq] at h
    split at h
    · rename_i a ha
      rw [xt_pure (L' := L) (S' := .inr (.inr (some a)) :: S) (by simp only [xv_pure, xv_ld, ha]; rfl)]
      exact hn rfl _ _ _ _ _ _ _ hB h M hR
    · cases h
  case istore_n k =>
    simp only [xf_of, xf_sti, xf_get_eq, xf_put1_eq] at h
    split at h
    · rename_i a S1
      split at h
      · rename_i v hv
        rw [xt_pure (L' := xv_put1 L k (.inl a)) (S' := S1) (by simp only [xv_pure, xv_sto, xf_lt hv]; rfl)]
        exact hn rfl _ _ _ _ _ _ _ hB h M hR
      · cases h
    · cases h
  case istore k =>
    simp only [xf_of, xf_sti, xf_get_eq, xf_put1_eq] at h
    split at h
    · rename_i a S1
      split at h
      · rename_i v hv
        rw [xt_pure (L' := xv_put1 L k (.inl a)) (S' := S1) (by simp only [xv_pure, xv_sto, xf_lt hv]; rfl)]
        exact hn rfl _ _ _ _ _ _ _ hB h M hR
      · cases h
    · cases h
  case lstore_n k =>
    simp only [xf_of, xf_stl, xf_get_eq, xf_put2_eq] at h
    split at h
    · rename_i a S1
      split at h
      · rename_i v hv
        rw [xt_pure (L' := xv_put2 L k (.inr (.inl a))) (S' := S1) (by simp only [xv_pure, xv_sto, xf_lt hv]; rfl)]
        exact hn rfl _ _ _ _ _ _ _ hB h M hR
      · cases h
    · cases h
  case lstore k =>
    simp only [xf_of, xf_stl, xf_get_eq, xf_put2_eq] at h
    split at h
    · rename_i a S1
      split at h
      · rename_i v hv
        rw [xt_pure (L' := xv_put2 L k (.inr (.inl a))) (S' := S1) (by simp only [xv_pure, xv_sto, xf_lt hv]; rfl)]
        exact hn rfl _ _ _ _ _ _ _ hB h M hR
      · cases h
    · cases h
  case astore_n k =>
    simp only [xf_of, xf_sta, xf_get_eq, xf_put1_eq] at h
    split at h
    · rename_i a S1
      split at h
      · rename_i v hv
        rw [xt_pure (L' := xv_put1 L k (.inr (.inr (some a)))) (S' := S1) (by simp only [xv_pure, xv_sto, xf_lt hv]; rfl)]
        exact hn rfl _ _ _ _ _ _ _ hB h M hR
      · cases h
    · cases h
  case astore k =>
    simp only [xf_of, xf_sta, xf_get_eq, xf_put1_eq] at h
    split at h
    · rename_i a S1
      split at h
      · rename_i v hv
        rw [xt_pure (L' := xv_put1 L k (.inr (.inr (some a)))) (S' := S1) (by simp only [xv_pure, xv_sto, xf_lt hv]; rfl)]
        exact hn rfl _ _ _ _ _ _ _ hB h M hR
      · cases h
    · cases h
  case iinc k m =>
    simp only [xf_of, xf_iinc, xf_get_eq] at h
    split at h
    · rename_i a ha
      split at h
      · rename_i r hr
        rw [hfv, xf_put1_eq] at h
        rw [xt_pure (L' := xv_put1 L k (.inl r)) (S' := S) (by simp only [xv_pure, xv_iinc, ha, hr])]
        exact hn rfl _ _ _ _ _ _ _ hB h M hR
      · cases h
    · cases h
  case iadd =>
    simp only [xf_of, xf_i2] at h
    split at h
    · rename_i b a S1
      split at h
      · rename_i r hr
        rw [hfv] at h
        rw [xt_pure (L' := L) (S' := .inl r :: S1) (by simp only [xv_pure, xv_i2, hr])]
        exact hn rfl _ _ _ _ _ _ _ hB h M hR
      · cases h
    · cases h
  case isub =>
    simp only [xf_of, xf_i2] at h
    split at h
    · rename_i b a S1
      split at h
      · rename_i r hr
        rw [hfv] at h
        rw [xt_pure (L' := L) (S' := .inl r :: S1) (by simp only [xv_pure, xv_i2, hr])]
        exact hn rfl _ _ _ _ _ _ _ hB h M hR
      · cases h
    · cases h
  case imul =>
    simp only [xf_of, xf_i2] at h
    split at h
    · rename_i b a S1
      split at h
      · rename_i r hr
        rw [hfv] at h
        rw [xt_pure (L' := L) (S' := .inl r :: S1) (by simp only [xv_pure, xv_i2, hr])]
        exact hn rfl _ _ _ _ _ _ _ hB h M hR
      · cases h
    · cases h
  case iand =>
    simp only [xf_of, xf_i2] at h
    split at h
    · rename_i b a S1
      split at h
      · rename_i r hr
        rw [hfv] at h
        rw [xt_pure (L' := L) (S' := .inl r :: S1) (by simp only [xv_pure, xv_i2, hr])]
        exact hn rfl _ _ _ _ _ _ _ hB h M hR
      · cases h
    · cases h
  case ior =>
    simp only [xf_of, xf_i2] at h
    split at h
    · rename_i b a S1
      split at h
      · rename_i r hr
        rw [hfv] at h
        rw [xt_pure (L' := L) (S' := .inl r :: S1) (by simp only [xv_pure, xv_i2, hr])]
        exact hn rfl _ _ _ _ _ _ _ hB h M hR
      · cases h
    · cases h
  case ishl =>
    simp only [xf_of, xf_i2] at h
    split at h
    · rename_i b a S1
      split at h
      · rename_i r hr
        rw [hfv] at h
        rw [xt_pure (L' := L) (S' := .inl r :: S1) (by simp only [xv_pure, xv_i2, hr])]
        exact hn rfl _ _ _ _ _ _ _ hB h M hR
      · cases h
    · cases h
  case ishr =>
    simp only [xf_of, xf_i2] at h
    split at h
    · rename_i b a S1
      split at h
      · rename_i r hr
        rw [hfv] at h
        rw [xt_pure (L' := L) (S' := .inl r :: S1) (by simp only [xv_pure, xv_i2, hr])]
        exact hn rfl _ _ _ _ _ _ _ hB h M hR
      · cases h
    · cases h
  case iushr =>
    simp only [xf_of, xf_i2] at h
    split at h
    · rename_i b a S1
      split at h
      · rename_i r hr
        rw [hfv] at h
        rw [xt_pure (L' := L) (S' := .inl r :: S1) (by simp only [xv_pure, xv_i2, hr])]
        exact hn rfl _ _ _ _ _ _ _ hB h M hR
      · cases h
    · cases h
  case idiv =>
    simp only [xf_of, xf_i2] at h
    split at h
    · rename_i b a S1
      split at h
      · rename_i r hr
        rw [hfv] at h
        rw [xt_pure (L' := L) (S' := .inl r :: S1) (by simp only [xv_pure, xv_i2, hr])]
        exact hn rfl _ _ _ _ _ _ _ hB h M hR
      · cases h
    · cases h
  case irem =>
    simp only [xf_of, xf_i2] at h
    split at h
    · rename_i b a S1
      split at h
      · rename_i r hr
        rw [hfv] at h
        rw [xt_pure (L' := L) (S' := .inl r :: S1) (by simp only [xv_pure, xv_i2, hr])]
        exact hn rfl _ _ _ _ _ _ _ hB h M hR
      · cases h
    · cases h
  case ladd =>
    simp only [xf_of, xf_l2] at h
    split at h
    · rename_i b a S1
      split at h
      · rename_i r hr
        rw [hfv] at h
        rw [xt_pure (L' := L) (S' := .inr (.inl r) :: S1) (by simp only [xv_pure, xv_l2, hr])]
        exact hn rfl _ _ _ _ _ _ _ hB h M hR
      · cases h
    · cases h
  case lsub =>
    simp only [xf_of, xf_l2] at h
    split at h
    · rename_i b a S1
      split at h
      · rename_i r hr
        rw [hfv] at h
        rw [xt_pure (L' := L) (S' := .inr (.inl r) :: S1) (by simp only [xv_pure, xv_l2, hr])]
        exact hn rfl _ _ _ _ _ _ _ hB h M hR
      · cases h
    · cases h
  case lmul =>
    simp only [xf_of, xf_l2] at h
    split at h
    · rename_i b a S1
      split at h
      · rename_i r hr
        rw [hfv] at h
        rw [xt_pure (L' := L) (S' := .inr (.inl r) :: S1) (by simp only [xv_pure, xv_l2, hr])]
        exact hn rfl _ _ _ _ _ _ _ hB h M hR
      · cases h
    · cases h
  case land =>
    simp only [xf_of, xf_l2] at h
    split at h
    · rename_i b a S1
      split at h
      · rename_i r hr
        rw [hfv] at h
        rw [xt_pure (L' := L) (S' := .inr (.inl r) :: S1) (by simp only [xv_pure, xv_l2, hr])]
        exact hn rfl _ _ _ _ _ _ _ hB h M hR
      · cases h
    · cases h
  case lor =>
    simp only [xf_of, xf_l2] at h
    split at h
    · rename_i b a S1
      split at h
      · rename_i r hr
        rw [hfv] at h
        rw [xt_pure (L' := L) (S' := .inr (.inl r) :: S1) (by simp only [xv_pure, xv_l2, hr])]
        exact hn rfl _ _ _ _ _ _ _ hB h M hR
      · cases h
    · cases h
  case ldiv =>
    simp only [xf_of, xf_l2] at h
    split at h
    · rename_i b a S1
      split at h
      · rename_i r hr
        rw [hfv] at h
        rw [xt_pure (L' := L) (S' := .inr (.inl r) :: S1) (by simp only [xv_pure, xv_l2, hr])]
        exact hn rfl _ _ _ _ _ _ _ hB h M hR
      · cases h
    · cases h
  case lrem =>
    simp only [xf_of, xf_l2] at h
    split at h
    · rename_i b a S1
      split at h
      · rename_i r hr
        rw [hfv] at h
        rw [xt_pure (L' := L) (S' := .inr (.inl r) :: S1) (by simp only [xv_pure, xv_l2, hr])]
        exact hn rfl _ _ _ _ _ _ _ hB h M hR
      · cases h
    · cases h
  case lshl =>
    simp only [xf_of, xf_s2] at h
    split at h
    · rename_i b a S1
      split at h
      · rename_i r hr
        rw [hfv] at h
        rw [xt_pure (L' := L) (S' := .inr (.inl r) :: S1) (by simp only [xv_pure, xv_s2, hr])]
        exact hn rfl _ _ _ _ _ _ _ hB h M hR
      · cases h
    · cases h
  case lshr =>
    simp only [xf_of, xf_s2] at h
    split at h
    · rename_i b a S1
      split at h
      · rename_i r hr
        rw [hfv] at h
        rw [xt_pure (L' := L) (S' := .inr (.inl r) :: S1) (by simp only [xv_pure, xv_s2, hr])]
        exact hn rfl _ _ _ _ _ _ _ hB h M hR
      · cases h
    · cases h
  case ineg =>
    simp only [xf_of, xf_u00] at h
    split at h
    · rename_i a S1
      split at h
      · rename_i r hr
        rw [hfv] at h
        rw [xt_pure (L' := L) (S' := .inl r :: S1) (by simp only [xv_pure, hr])]
        exact hn rfl _ _ _ _ _ _ _ hB h M hR
      · cases h
    · cases h
  case lneg =>
    simp only [xf_of, xf_u11] at h
    split at h
    · rename_i a S1
      split at h
      · rename_i r hr
        rw [hfv] at h
        rw [xt_pure (L' := L) (S' := .inr (.inl r) :: S1) (by simp only [xv_pure, hr])]
        exact hn rfl _ _ _ _ _ _ _ hB h M hR
      · cases h
    · cases h
  case i2l =>
    simp only [xf_of, xf_u01] at h
    split at h
    · rename_i a S1
      split at h
      · rename_i r hr
        rw [hfv] at h
        rw [xt_pure (L' := L) (S' := .inr (.inl r) :: S1) (by simp only [xv_pure, hr])]
        exact hn rfl _ _ _ _ _ _ _ hB h M hR
      · cases h
    · cases h
  case l2i =>
    simp only [xf_of, xf_u10] at h
    split at h
    · rename_i a S1
      split at h
      · rename_i r hr
        rw [hfv] at h
        rw [xt_pure (L' := L) (S' := .inl r :: S1) (by simp only [xv_pure, hr])]
        exact hn rfl _ _ _ _ _ _ _ hB h M hR
      · cases h
    · cases h
  case lcmp =>
    simp only [xf_of, xf_lc] at h
    split at h
    · rename_i b a S1
      split at h
      · rename_i r hr
        rw [hfv] at h
        rw [xt_pure (L' := L) (S' := .inl r :: S1) (by simp only [xv_pure, hr])]
        exact hn rfl _ _ _ _ _ _ _ hB h M hR
      · cases h
    · cases h
  case dup =>
    simp only [xf_of, xf_dup] at h
    split at h
    · rename_i v S1
      cases hc : Nat.beq (xv_cat v) 1 <;> simp only [hc, cond_true, cond_false, reduceCtorEq] at h
      rw [xt_pure (L' := L) (S' := v :: v :: S1) (by simp only [xv_pure, hc, cond_true])]
      exact hn rfl _ _ _ _ _ _ _ hB h M hR
    · cases h
  case pop =>
    simp only [xf_of, xf_pop1] at h
    split at h
    · rename_i v S1
      cases hc : Nat.beq (xv_cat v) 1 <;> simp only [hc, cond_true, cond_false, reduceCtorEq] at h
      rw [xt_pure (L' := L) (S' := S1) (by simp only [xv_pure, hc, cond_true])]
      exact hn rfl _ _ _ _ _ _ _ hB h M hR
    · cases h
  case dup2 =>
    simp only [xf_of, xf_dup2] at h
    split at h
    · rename_i v v2 S1
      cases hc : (Nat.beq (xv_cat v) 1 && Nat.beq (xv_cat v2) 1) <;> simp only [hc, cond_true, cond_false, reduceCtorEq] at h
      rw [xt_pure (L' := L) (S' := v :: v2 :: v :: v2 :: S1) (by simp only [xv_pure, hc, cond_true])]
      exact hn rfl _ _ _ _ _ _ _ hB h M hR
    · cases h
  case goto off =>
    rcases ht : xv_tgt pc off with _ | t
    · simp only [xf_of, ht] at h
      exact xf_nn (show (none : Option (xf_P V)) = some p from h)
    · simp only [xf_of, ht, xf_goto] at h
      rw [xt_br (t := t) (S' := S) rfl (by simp only [xv_br, ht])]
      exact hj t _ _ _ _ _ _ _ hB h M hR
  case if_icmp cd off =>
    cases cd
    case eq =>
      rcases ht : xv_tgt pc off with _ | t
      · simp only [xf_of, ht] at h
        exact xf_nn (show (none : Option (xf_P V)) = some p from h)
      · simp only [xf_of, ht, xf_c2] at h
        split at h
        · rename_i b a S1
          split at h
          · rename_i hc
            rw [xt_br (t := t) (S' := S1) rfl (by simp only [xv_br, xv_cmp2, hc, ht, cond_true])]
            exact hj t _ _ _ _ _ _ _ hB h M hR
          · rename_i hc
            rw [xt_br (t := pc + 3) (S' := S1) rfl (by simp only [xv_br, xv_cmp2, hc, ht, cond_false])]
            exact hb rfl _ _ _ _ _ _ _ hB h M hR
          · cases h
        · cases h
    case ne =>
      rcases ht : xv_tgt pc off with _ | t
      · simp only [xf_of, ht] at h
        exact xf_nn (show (none : Option (xf_P V)) = some p from h)
      · simp only [xf_of, ht, xf_c2] at h
        split at h
        · rename_i b a S1
          split at h
          · rename_i hc
            rw [xt_br (t := t) (S' := S1) rfl (by simp only [xv_br, xv_cmp2, hc, ht, cond_true])]
            exact hj t _ _ _ _ _ _ _ hB h M hR
          · rename_i hc
            rw [xt_br (t := pc + 3) (S' := S1) rfl (by simp only [xv_br, xv_cmp2, hc, ht, cond_false])]
            exact hb rfl _ _ _ _ _ _ _ hB h M hR
          · cases h
        · cases h
    case lt =>
      rcases ht : xv_tgt pc off with _ | t
      · simp only [xf_of, ht] at h
        exact xf_nn (show (none : Option (xf_P V)) = some p from h)
      · simp only [xf_of, ht, xf_c2] at h
        split at h
        · rename_i b a S1
          split at h
          · rename_i hc
            rw [xt_br (t := t) (S' := S1) rfl (by simp only [xv_br, xv_cmp2, hc, ht, cond_true])]
            exact hj t _ _ _ _ _ _ _ hB h M hR
          · rename_i hc
            rw [xt_br (t := pc + 3) (S' := S1) rfl (by simp only [xv_br, xv_cmp2, hc, ht, cond_false])]
            exact hb rfl _ _ _ _ _ _ _ hB h M hR
          · cases h
        · cases h
    case ge =>
      rcases ht : xv_tgt pc off with _ | t
      · simp only [xf_of, ht] at h
        exact xf_nn (show (none : Option (xf_P V)) = some p from h)
      · simp only [xf_of, ht, xf_c2] at h
        split at h
        · rename_i b a S1
          split at h
          · rename_i hc
            rw [xt_br (t := t) (S' := S1) rfl (by simp only [xv_br, xv_cmp2, hc, ht, cond_true])]
            exact hj t _ _ _ _ _ _ _ hB h M hR
          · rename_i hc
            rw [xt_br (t := pc + 3) (S' := S1) rfl (by simp only [xv_br, xv_cmp2, hc, ht, cond_false])]
            exact hb rfl _ _ _ _ _ _ _ hB h M hR
          · cases h
        · cases h
    case gt =>
      rcases ht : xv_tgt pc off with _ | t
      · simp only [xf_of, ht] at h
        exact xf_nn (show (none : Option (xf_P V)) = some p from h)
      · simp only [xf_of, ht, xf_c2] at h
        split at h
        · rename_i b a S1
          split at h
          · rename_i hc
            rw [xt_br (t := t) (S' := S1) rfl (by simp only [xv_br, xv_cmp2, hc, ht, cond_true])]
            exact hj t _ _ _ _ _ _ _ hB h M hR
          · rename_i hc
            rw [xt_br (t := pc + 3) (S' := S1) rfl (by simp only [xv_br, xv_cmp2, hc, ht, cond_false])]
            exact hb rfl _ _ _ _ _ _ _ hB h M hR
          · cases h
        · cases h
    case le =>
      rcases ht : xv_tgt pc off with _ | t
      · simp only [xf_of, ht] at h
        exact xf_nn (show (none : Option (xf_P V)) = some p from h)
      · simp only [xf_of, ht, xf_c2] at h
        split at h
        · rename_i b a S1
          split at h
          · rename_i hc
            rw [xt_br (t := t) (S' := S1) rfl (by simp only [xv_br, xv_cmp2, hc, ht, cond_true])]
            exact hj t _ _ _ _ _ _ _ hB h M hR
          · rename_i hc
            rw [xt_br (t := pc + 3) (S' := S1) rfl (by simp only [xv_br, xv_cmp2, hc, ht, cond_false])]
            exact hb rfl _ _ _ _ _ _ _ hB h M hR
          · cases h
        · cases h
  case ifCond cd off =>
    cases cd
    case eq =>
      rcases ht : xv_tgt pc off with _ | t
      · simp only [xf_of, ht] at h
        exact xf_nn (show (none : Option (xf_P V)) = some p from h)
      · simp only [xf_of, ht, xf_c1] at h
        split at h
        · rename_i a S1
          split at h
          · rename_i hc
            rw [xt_br (t := t) (S' := S1) rfl (by simp only [xv_br, xv_cmp1, hc, ht, cond_true])]
            exact hj t _ _ _ _ _ _ _ hB h M hR
          · rename_i hc
            rw [xt_br (t := pc + 3) (S' := S1) rfl (by simp only [xv_br, xv_cmp1, hc, ht, cond_false])]
            exact hb rfl _ _ _ _ _ _ _ hB h M hR
          · cases h
        · cases h
    case ne =>
      rcases ht : xv_tgt pc off with _ | t
      · simp only [xf_of, ht] at h
        exact xf_nn (show (none : Option (xf_P V)) = some p from h)
      · simp only [xf_of, ht, xf_c1] at h
        split at h
        · rename_i a S1
          split at h
          · rename_i hc
            rw [xt_br (t := t) (S' := S1) rfl (by simp only [xv_br, xv_cmp1, hc, ht, cond_true])]
            exact hj t _ _ _ _ _ _ _ hB h M hR
          · rename_i hc
            rw [xt_br (t := pc + 3) (S' := S1) rfl (by simp only [xv_br, xv_cmp1, hc, ht, cond_false])]
            exact hb rfl _ _ _ _ _ _ _ hB h M hR
          · cases h
        · cases h
    case lt =>
      rcases ht : xv_tgt pc off with _ | t
      · simp only [xf_of, ht] at h
        exact xf_nn (show (none : Option (xf_P V)) = some p from h)
      · simp only [xf_of, ht, xf_c1] at h
        split at h
        · rename_i a S1
          split at h
          · rename_i hc
            rw [xt_br (t := t) (S' := S1) rfl (by simp only [xv_br, xv_cmp1, hc, ht, cond_true])]
            exact hj t _ _ _ _ _ _ _ hB h M hR
          · rename_i hc
            rw [xt_br (t := pc + 3) (S' := S1) rfl (by simp only [xv_br, xv_cmp1, hc, ht, cond_false])]
            exact hb rfl _ _ _ _ _ _ _ hB h M hR
          · cases h
        · cases h
    case ge =>
      rcases ht : xv_tgt pc off with _ | t
      · simp only [xf_of, ht] at h
        exact xf_nn (show (none : Option (xf_P V)) = some p from h)
      · simp only [xf_of, ht, xf_c1] at h
        split at h
        · rename_i a S1
          split at h
          · rename_i hc
            rw [xt_br (t := t) (S' := S1) rfl (by simp only [xv_br, xv_cmp1, hc, ht, cond_true])]
            exact hj t _ _ _ _ _ _ _ hB h M hR
          · rename_i hc
            rw [xt_br (t := pc + 3) (S' := S1) rfl (by simp only [xv_br, xv_cmp1, hc, ht, cond_false])]
            exact hb rfl _ _ _ _ _ _ _ hB h M hR
          · cases h
        · cases h
    case gt =>
      rcases ht : xv_tgt pc off with _ | t
      · simp only [xf_of, ht] at h
        exact xf_nn (show (none : Option (xf_P V)) = some p from h)
      · simp only [xf_of, ht, xf_c1] at h
        split at h
        · rename_i a S1
          split at h
          · rename_i hc
            rw [xt_br (t := t) (S' := S1) rfl (by simp only [xv_br, xv_cmp1, hc, ht, cond_true])]
            exact hj t _ _ _ _ _ _ _ hB h M hR
          · rename_i hc
            rw [xt_br (t := pc + 3) (S' := S1) rfl (by simp only [xv_br, xv_cmp1, hc, ht, cond_false])]
            exact hb rfl _ _ _ _ _ _ _ hB h M hR
          · cases h
        · cases h
    case le =>
      rcases ht : xv_tgt pc off with _ | t
      · simp only [xf_of, ht] at h
        exact xf_nn (show (none : Option (xf_P V)) = some p from h)
      · simp only [xf_of, ht, xf_c1] at h
        split at h
        · rename_i a S1
          split at h
          · rename_i hc
            rw [xt_br (t := t) (S' := S1) rfl (by simp only [xv_br, xv_cmp1, hc, ht, cond_true])]
            exact hj t _ _ _ _ _ _ _ hB h M hR
          · rename_i hc
            rw [xt_br (t := pc + 3) (S' := S1) rfl (by simp only [xv_br, xv_cmp1, hc, ht, cond_false])]
            exact hb rfl _ _ _ _ _ _ _ hB h M hR
          · cases h
        · cases h
  case tableswitch a1 a2 a3 a4 =>
    simp only [xf_of, xf_sw] at h
    split at h
    · rename_i tS hS
      rw [xt_br (t := tS.1) (S' := tS.2) rfl hS]
      exact hj _ _ _ _ _ _ _ _ hB h M hR
    · cases h
  case lookupswitch a1 a2 =>
    simp only [xf_of, xf_sw] at h
    split at h
    · rename_i tS hS
      rw [xt_br (t := tS.1) (S' := tS.2) rfl hS]
      exact hj _ _ _ _ _ _ _ _ hB h M hR
    · cases h
  case getfield k =>
    rcases hck : xv_find y.1.2.1 k with _ | ck
    · simp only [xf_of, hck] at h
      exact xf_nn (show (none : Option (xf_P V)) = some p from h)
    · simp only [xf_of, hck, xf_gf, xf_get_eq] at h
      split at h
      · rename_i a S1
        obtain ⟨o, ho, h⟩ := xf_cell_ok h
        rw [hR.2] at ho
        cases hc : Nat.beq o.1 (8 + ck.1) <;> simp only [hc, cond_true, cond_false, reduceCtorEq] at h
        split at h
        · rename_i v hv
          obtain ⟨b, hb1, hb2⟩ := hn rfl _ _ _ _ _ _ _ hB h M hR
          refine ⟨b, ?_, hb2⟩
          exact xf_mem0 rfl rfl (by simp only [xv_mem, hck, ho, hc, hv, cond_true]) hB hb1
        · cases h
      · cases h
  case putfield k =>
    rcases hck : xv_find y.1.2.1 k with _ | ck
    · simp only [xf_of, hck] at h
      exact xf_nn (show (none : Option (xf_P V)) = some p from h)
    · rcases hfs : ct[ck.1]? with _ | fs
      · simp only [xf_of, hck, hfs] at h
        exact xf_nn (show (none : Option (xf_P V)) = some p from h)
      · rcases hf : fs[ck.2]? with _ | f
        · simp only [xf_of, hck, hfs, hf] at h
          exact xf_nn (show (none : Option (xf_P V)) = some p from h)
        · simp only [xf_of, hck, hfs, hf] at h
          cases hfin : (!f.2 || (Nat.beq y.2.1.2.2.2 1 && Nat.beq y.1.1 ck.1)) <;> simp only [hfin, cond_true, cond_false, xf_no, reduceCtorEq] at h
          simp only [xf_pf, xf_get_eq, xf_set_eq] at h
          split at h
          · rename_i v a S1
            obtain ⟨o, ho, h⟩ := xf_cell_ok h
            rw [hR.2] at ho
            cases hc : Nat.beq o.1 (8 + ck.1) <;> simp only [hc, Bool.true_and, Bool.false_and, cond_true, cond_false, reduceCtorEq] at h
            cases hfit : xv_fit D f.1 v <;> simp only [hfit, cond_true, cond_false, reduceCtorEq] at h
            split at h
            · rename_i v0 hv0
              obtain ⟨T', h, hT⟩ := xf_upd_ok h
              rw [← Nat.eq_of_beq_eq_true hc] at hT
              obtain ⟨b, hb1, hb2⟩ := hn rfl _ _ _ _ _ _ _ hB h _ (hR.set ho hT)
              refine ⟨b, ?_, hb2⟩
              exact xf_mem0 rfl rfl (by simp only [xv_mem, hck, ho, hc, xf_lt hv0, hfs, hf, hfit, hfin, Bool.and_self, cond_true]) hB hb1
            · cases h
          · cases h
  case new k =>
    rcases hci : xv_find y.1.2.2.2.1 k with _ | ci
    · simp only [xf_of, hci] at h
      exact xf_nn (show (none : Option (xf_P V)) = some p from h)
    · rcases hfs : ct[ci]? with _ | fs
      · simp only [xf_of, hci, hfs] at h
        exact xf_nn (show (none : Option (xf_P V)) = some p from h)
      · simp only [xf_of, hci, hfs] at h
        cases hlt : Nat.blt ci 1000 <;> simp only [hlt, cond_true, cond_false, xf_no, reduceCtorEq] at h
        simp only [xf_new, xf_nat_eq, xf_push] at h
        cases b1 : Nat.ble (c + 1) y.2.2.1.1 <;> simp only [b1, Bool.true_and, Bool.false_and, cond_true, cond_false, reduceCtorEq] at h
        cases b2 : Nat.ble (s + fs.length) y.2.2.1.2 <;> simp only [b2, cond_true, cond_false, reduceCtorEq] at h
        obtain ⟨T', h, hT⟩ := xf_upd_ok h
        obtain ⟨b, hb1, hb2⟩ := hn rfl _ _ _ _ _ _ _ ⟨Nat.le_of_ble_eq_true b1, Nat.le_of_ble_eq_true b2⟩ h _ (hR.push hT)
        refine ⟨b, ?_, hb2⟩
        obtain rfl := hR.1
        rw [xt_mem (S' := .inr (.inr (some M.length)) :: S) (M' := M ++ [(8 + ci, fs.map (fun f => xv_dflt D f.1))]) (dc := 1) (ds := fs.length) rfl rfl (by simp only [xv_mem, hci, hfs, hlt, cond_true]) b1 b2]
        exact hb1
  case newarray ty =>
    cases ty
    all_goals (first | (exact xf_nn (show (none : Option (xf_P V)) = some p from h)) | skip)
    case boolean =>
      simp only [xf_of] at h
      simp only [xf_na, xf_nat_eq, xf_push, xf_rep_eq] at h
      split at h
      · rename_i m S1
        split at h
        · rename_i k1 hk
          cases b1 : Nat.ble (c + 1) y.2.2.1.1 <;> simp only [b1, Bool.true_and, Bool.false_and, cond_true, cond_false, reduceCtorEq] at h
          cases b2 : Nat.ble (s + k1) y.2.2.1.2 <;> simp only [b2, cond_true, cond_false, reduceCtorEq] at h
          obtain ⟨T', h, hT⟩ := xf_upd_ok h
          obtain ⟨b, hb1, hb2⟩ := hn rfl _ _ _ _ _ _ _ ⟨Nat.le_of_ble_eq_true b1, Nat.le_of_ble_eq_true b2⟩ h _ (hR.push hT)
          refine ⟨b, ?_, hb2⟩
          obtain rfl := hR.1
          rw [xt_mem (S' := .inr (.inr (some M.length)) :: S1) (M' := M ++ [(2, List.replicate k1 (.inl (D.1 0)))]) (dc := 1) (ds := k1) rfl rfl (by simp only [xv_mem, xv_newa, hk]) b1 b2]
          exact hb1
        · cases h
      · cases h
    case int =>
      simp only [xf_of] at h
      simp only [xf_na, xf_nat_eq, xf_push, xf_rep_eq] at h
      split at h
      · rename_i m S1
        split at h
        · rename_i k1 hk
          cases b1 : Nat.ble (c + 1) y.2.2.1.1 <;> simp only [b1, Bool.true_and, Bool.false_and, cond_true, cond_false, reduceCtorEq] at h
          cases b2 : Nat.ble (s + k1) y.2.2.1.2 <;> simp only [b2, cond_true, cond_false, reduceCtorEq] at h
          obtain ⟨T', h, hT⟩ := xf_upd_ok h
          obtain ⟨b, hb1, hb2⟩ := hn rfl _ _ _ _ _ _ _ ⟨Nat.le_of_ble_eq_true b1, Nat.le_of_ble_eq_true b2⟩ h _ (hR.push hT)
          refine ⟨b, ?_, hb2⟩
          obtain rfl := hR.1
          rw [xt_mem (S' := .inr (.inr (some M.length)) :: S1) (M' := M ++ [(0, List.replicate k1 (.inl (D.1 0)))]) (dc := 1) (ds := k1) rfl rfl (by simp only [xv_mem, xv_newa, hk]) b1 b2]
          exact hb1
        · cases h
      · cases h
    case long =>
      simp only [xf_of] at h
      simp only [xf_na, xf_nat_eq, xf_push, xf_rep_eq] at h
      split at h
      · rename_i m S1
        split at h
        · rename_i k1 hk
          cases b1 : Nat.ble (c + 1) y.2.2.1.1 <;> simp only [b1, Bool.true_and, Bool.false_and, cond_true, cond_false, reduceCtorEq] at h
          cases b2 : Nat.ble (s + k1) y.2.2.1.2 <;> simp only [b2, cond_true, cond_false, reduceCtorEq] at h
          obtain ⟨T', h, hT⟩ := xf_upd_ok h
          obtain ⟨b, hb1, hb2⟩ := hn rfl _ _ _ _ _ _ _ ⟨Nat.le_of_ble_eq_true b1, Nat.le_of_ble_eq_true b2⟩ h _ (hR.push hT)
          refine ⟨b, ?_, hb2⟩
          obtain rfl := hR.1
          rw [xt_mem (S' := .inr (.inr (some M.length)) :: S1) (M' := M ++ [(1, List.replicate k1 (.inr (.inl (D.2.1 0))))]) (dc := 1) (ds := k1) rfl rfl (by simp only [xv_mem, xv_newa, hk]) b1 b2]
          exact hb1
        · cases h
      · cases h
  case anewarray k =>
    rcases hci : xv_find y.1.2.2.2.1 (70000 + k) with _ | ci
    · simp only [xf_of, hci] at h
      exact xf_nn (show (none : Option (xf_P V)) = some p from h)
    · simp only [xf_of, hci] at h
      cases hlt : (Nat.ble 1000 ci && Nat.blt ci 1003) <;> simp only [hlt, cond_true, cond_false, xf_no, reduceCtorEq] at h
      simp only [xf_na, xf_nat_eq, xf_push, xf_rep_eq] at h
      split at h
      · rename_i m S1
        split at h
        · rename_i k1 hk
          cases b1 : Nat.ble (c + 1) y.2.2.1.1 <;> simp only [b1, Bool.true_and, Bool.false_and, cond_true, cond_false, reduceCtorEq] at h
          cases b2 : Nat.ble (s + k1) y.2.2.1.2 <;> simp only [b2, cond_true, cond_false, reduceCtorEq] at h
          obtain ⟨T', h, hT⟩ := xf_upd_ok h
          obtain ⟨b, hb1, hb2⟩ := hn rfl _ _ _ _ _ _ _ ⟨Nat.le_of_ble_eq_true b1, Nat.le_of_ble_eq_true b2⟩ h _ (hR.push hT)
          refine ⟨b, ?_, hb2⟩
          obtain rfl := hR.1
          rw [xt_mem (S' := .inr (.inr (some M.length)) :: S1) (M' := M ++ [(ci - 996, List.replicate k1 (.inr (.inr none)))]) (dc := 1) (ds := k1) rfl rfl (by simp only [xv_mem, xv_newa, hk, hci, hlt, cond_true]) b1 b2]
          exact hb1
        · cases h
      · cases h
  case arraylength =>
    simp only [xf_of, xf_al] at h
    split at h
    · rename_i a S1
      obtain ⟨o, ho, h⟩ := xf_cell_ok h
      rw [hR.2] at ho
      cases hc : (Nat.blt o.1 7 && Nat.ble o.2.length 4096) <;> simp only [hc, cond_true, cond_false, reduceCtorEq] at h
      rw [hfv] at h
      obtain ⟨b, hb1, hb2⟩ := hn rfl _ _ _ _ _ _ _ hB h M hR
      refine ⟨b, ?_, hb2⟩
      exact xf_mem0 rfl rfl (by simp only [xv_mem, ho, hc, cond_true]) hB hb1
    · cases h
  case laload =>
    simp only [xf_of, xf_ald, xf_get_eq] at h
    split at h
    · rename_i iv a S1
      split at h
      · rename_i k hk
        obtain ⟨o, ho, h⟩ := xf_cell_ok h
        rw [hR.2] at ho
        cases hc : (Nat.ble 1 o.1 && Nat.ble o.1 1) <;> simp only [hc, cond_true, cond_false, reduceCtorEq] at h
        split at h
        · rename_i v hv
          obtain ⟨b, hb1, hb2⟩ := hn rfl _ _ _ _ _ _ _ hB h M hR
          refine ⟨b, ?_, hb2⟩
          exact xf_mem0 rfl rfl (by simp only [xv_mem, xv_ald, ho, hc, xf_ixv hk hv rfl, hv, cond_true]) hB hb1
        · cases h
      · cases h
    · cases h
  case baload =>
    simp only [xf_of, xf_ald, xf_get_eq] at h
    split at h
    · rename_i iv a S1
      split at h
      · rename_i k hk
        obtain ⟨o, ho, h⟩ := xf_cell_ok h
        rw [hR.2] at ho
        cases hc : (Nat.ble 2 o.1 && Nat.ble o.1 2) <;> simp only [hc, cond_true, cond_false, reduceCtorEq] at h
        split at h
        · rename_i v hv
          obtain ⟨b, hb1, hb2⟩ := hn rfl _ _ _ _ _ _ _ hB h M hR
          refine ⟨b, ?_, hb2⟩
          exact xf_mem0 rfl rfl (by simp only [xv_mem, xv_ald, ho, hc, xf_ixv hk hv rfl, hv, cond_true]) hB hb1
        · cases h
      · cases h
    · cases h
  case aaload =>
    simp only [xf_of, xf_ald, xf_get_eq] at h
    split at h
    · rename_i iv a S1
      split at h
      · rename_i k hk
        obtain ⟨o, ho, h⟩ := xf_cell_ok h
        rw [hR.2] at ho
        cases hc : (Nat.ble 4 o.1 && Nat.ble o.1 6) <;> simp only [hc, cond_true, cond_false, reduceCtorEq] at h
        split at h
        · rename_i v hv
          obtain ⟨b, hb1, hb2⟩ := hn rfl _ _ _ _ _ _ _ hB h M hR
          refine ⟨b, ?_, hb2⟩
          exact xf_mem0 rfl rfl (by simp only [xv_mem, xv_ald, ho, hc, xf_ixv hk hv rfl, hv, cond_true]) hB hb1
        · cases h
      · cases h
    · cases h
  case iaload =>
    simp only [xf_of, xf_iald, xf_get_eq] at h
    split at h
    · rename_i iv a S1
      split at h
      · rename_i k hk
        obtain ⟨o, ho, h⟩ := xf_cell_ok h
        rw [hR.2] at ho
        cases hc : (Nat.beq o.1 0 || Nat.beq o.1 3) <;> simp only [hc, cond_true, cond_false, reduceCtorEq] at h
        split at h
        · rename_i v hv
          obtain ⟨b, hb1, hb2⟩ := hn rfl _ _ _ _ _ _ _ hB h M hR
          refine ⟨b, ?_, hb2⟩
          refine xf_mem0 rfl rfl ?_ hB hb1
          rcases Bool.or_eq_true_iff.mp hc with e | e
          · have e := Nat.eq_of_beq_eq_true e
            simp only [xv_mem, xv_ald, ho, e, show (Nat.ble 0 0 && Nat.ble 0 0) = true from rfl, xf_ixv hk hv rfl, hv, cond_true]
          · have e := Nat.eq_of_beq_eq_true e
            simp only [xv_mem, xv_ald, ho, e, show (Nat.ble 0 3 && Nat.ble 3 0) = false from rfl, show (Nat.ble 3 3 && Nat.ble 3 3) = true from rfl, xf_ixv hk hv rfl, hv, cond_true, cond_false]
        · cases h
      · cases h
    · cases h
  case iastore =>
    simp only [xf_of, xf_ast, xf_get_eq, xf_set_eq] at h
    split at h
    · rename_i v iv a S1
      split at h
      · rename_i k hk
        obtain ⟨o, ho, h⟩ := xf_cell_ok h
        rw [hR.2] at ho
        cases hc : Nat.beq o.1 0 <;> simp only [hc, Bool.true_and, Bool.false_and, cond_true, cond_false, reduceCtorEq] at h
        cases hfit : xv_fit D .int v <;> simp only [hfit, cond_true, cond_false, reduceCtorEq] at h
        split at h
        · rename_i v0 hv0
          obtain ⟨T', h, hT⟩ := xf_upd_ok h
          rw [← Nat.eq_of_beq_eq_true hc] at hT
          obtain ⟨b, hb1, hb2⟩ := hn rfl _ _ _ _ _ _ _ hB h _ (hR.set ho hT)
          refine ⟨b, ?_, hb2⟩
          exact xf_mem0 rfl rfl (by simp only [xv_mem, xv_ast, ho, hc, hfit, xf_ixv hk hv0 rfl, Bool.and_self, cond_true]) hB hb1
        · cases h
      · cases h
    · cases h
  case lastore =>
    simp only [xf_of, xf_ast, xf_get_eq, xf_set_eq] at h
    split at h
    · rename_i v iv a S1
      split at h
      · rename_i k hk
        obtain ⟨o, ho, h⟩ := xf_cell_ok h
        rw [hR.2] at ho
        cases hc : Nat.beq o.1 1 <;> simp only [hc, Bool.true_and, Bool.false_and, cond_true, cond_false, reduceCtorEq] at h
        cases hfit : xv_fit D .long v <;> simp only [hfit, cond_true, cond_false, reduceCtorEq] at h
        split at h
        · rename_i v0 hv0
          obtain ⟨T', h, hT⟩ := xf_upd_ok h
          rw [← Nat.eq_of_beq_eq_true hc] at hT
          obtain ⟨b, hb1, hb2⟩ := hn rfl _ _ _ _ _ _ _ hB h _ (hR.set ho hT)
          refine ⟨b, ?_, hb2⟩
          exact xf_mem0 rfl rfl (by simp only [xv_mem, xv_ast, ho, hc, hfit, xf_ixv hk hv0 rfl, Bool.and_self, cond_true]) hB hb1
        · cases h
      · cases h
    · cases h
  case bastore =>
    simp only [xf_of, xf_ast, xf_get_eq, xf_set_eq] at h
    split at h
    · rename_i v iv a S1
      split at h
      · rename_i k hk
        obtain ⟨o, ho, h⟩ := xf_cell_ok h
        rw [hR.2] at ho
        cases hc : Nat.beq o.1 2 <;> simp only [hc, Bool.true_and, Bool.false_and, cond_true, cond_false, reduceCtorEq] at h
        cases hfit : xv_fit D .boolean v <;> simp only [hfit, cond_true, cond_false, reduceCtorEq] at h
        split at h
        · rename_i v0 hv0
          obtain ⟨T', h, hT⟩ := xf_upd_ok h
          rw [← Nat.eq_of_beq_eq_true hc] at hT
          obtain ⟨b, hb1, hb2⟩ := hn rfl _ _ _ _ _ _ _ hB h _ (hR.set ho hT)
          refine ⟨b, ?_, hb2⟩
          exact xf_mem0 rfl rfl (by simp only [xv_mem, xv_ast, ho, hc, hfit, xf_ixv hk hv0 rfl, Bool.and_self, cond_true]) hB hb1
        · cases h
      · cases h
    · cases h
  case aastore =>
    simp only [xf_of, xf_aast, xf_get_eq, xf_set_eq] at h
    split at h
    · rename_i v iv a S1
      split at h
      · rename_i k hk
        obtain ⟨o, ho, h⟩ := xf_cell_ok h
        rw [hR.2] at ho
        obtain ⟨ov, hov, h⟩ := xf_cell_ok h
        rw [hR.2] at hov
        split at h
        · rename_i ci hci
          cases hc : (Nat.ble 4 o.1 && Nat.blt o.1 7 && Nat.beq ov.1 (8 + ci)) <;> simp only [hc, cond_true, cond_false, reduceCtorEq] at h
          split at h
          · rename_i v0 hv0
            obtain ⟨T', h, hT⟩ := xf_upd_ok h
            obtain ⟨b, hb1, hb2⟩ := hn rfl _ _ _ _ _ _ _ hB h _ (hR.set ho hT)
            refine ⟨b, ?_, hb2⟩
            exact xf_mem0 rfl rfl (by simp only [xv_mem, ho, hov, hci, hc, xf_ixv hk hv0 rfl, cond_true]) hB hb1
          · cases h
        · cases h
      · cases h
    · cases h
  case invokevirtual k =>
    rcases hf : xv_find y.1.2.2.1 k with _ | ⟨kd, j⟩
    · simp only [xf_of, hf] at h
      exact xf_nn (show (none : Option (xf_P V)) = some p from h)
    by_cases e0 : kd = 0
    · subst e0
      rcases hz : ms[j]? with _ | z
      · simp only [xf_of, hf, hz, show Nat.beq 0 0 = true from rfl, cond_true] at h
        exact xf_nn (show (none : Option (xf_P V)) = some p from h)
      · simp only [xf_of, hf, hz, show Nat.beq 0 0 = true from rfl, cond_true, xf_cv] at h
        obtain ⟨hle, h⟩ := xf_pop_eq _ _ _ _ _ h
        rw [List.append_nil] at h
        split at h
        · rename_i a R1 hdrop
          obtain ⟨o, ho, h⟩ := xf_cell_ok h
          rw [hR.2] at ho
          cases g1 : Nat.beq o.1 (8 + z.1.1) <;> simp only [g1, Bool.true_and, Bool.false_and, cond_true, cond_false, reduceCtorEq] at h
          cases g2 : Nat.ble (xv_cats R1) 8 <;> simp only [g2, Bool.true_and, Bool.false_and, cond_true, cond_false, reduceCtorEq] at h
          cases b1 : Nat.ble (c + z.2.2.1.1) y.2.2.1.1 <;> simp only [b1, Bool.true_and, Bool.false_and, cond_true, cond_false, reduceCtorEq] at h
          cases b2 : Nat.ble (s + z.2.2.1.2) y.2.2.1.2 <;> simp only [b2, cond_true, cond_false, reduceCtorEq] at h
          obtain ⟨v, n1, T1, M1, hc1, hR1, h⟩ := xf_aft_ok hcall hR h
          obtain ⟨b, hb1, hb2⟩ := hn rfl _ _ _ _ _ _ _ ⟨Nat.le_of_ble_eq_true b1, Nat.le_of_ble_eq_true b2⟩ h _ hR1
          refine ⟨b, ?_, hb2⟩
          rw [xt_call (R := R1) rfl rfl rfl (by simp only [xv_arg, hf, hz, hdrop, ho, g1, g2, Bool.and_self, cond_true]) hz b1 b2 hc1]
          exact hb1
        · cases h
    by_cases e4 : kd = 4
    · subst e4
      simp only [xf_of, hf, show Nat.beq 4 0 = false from rfl, show Nat.beq 4 4 = true from rfl, cond_true, cond_false, xf_ch, xf_get_eq] at h
      split at h
      · rename_i a m S1
        split at h
        · rename_i cs1 k1 hcs hk
          split at h
          · rename_i b0 hb0
            cases g2 : Nat.ble (xv_cats S1) 8 <;> simp only [g2, cond_true, cond_false, reduceCtorEq] at h
            rw [hfv] at h
            obtain ⟨b, hb1, hb2⟩ := hn rfl _ _ _ _ _ _ _ hB h M hR
            refine ⟨b, ?_, hb2⟩
            rw [xt_nat (S' := .inl (D.1 (b0 &&& 255)) :: S1) (M' := M) rfl rfl rfl (by simp only [xv_arg, hf]) (by simp only [xv_nat, hf, hcs, xf_ixv hk hb0 rfl, hb0, g2, cond_true])]
            exact hb1
          · cases h
        · cases h
      · cases h
    simp only [xf_of, hf, xf_nbeq e0, xf_nbeq e4, cond_false] at h
    exact xf_nn (show (none : Option (xf_P V)) = some p from h)
  case invokespecial k =>
    rcases hf : xv_find y.1.2.2.1 k with _ | ⟨kd, j⟩
    · simp only [xf_of, hf] at h
      exact xf_nn (show (none : Option (xf_P V)) = some p from h)
    by_cases e1 : kd = 1
    · subst e1
      rcases hz : ms[j]? with _ | z
      · simp only [xf_of, hf, hz, show (Nat.beq 1 1 || Nat.beq 1 2) = true from rfl, cond_true] at h
        exact xf_nn (show (none : Option (xf_P V)) = some p from h)
      · simp only [xf_of, hf, hz, show (Nat.beq 1 1 || Nat.beq 1 2) = true from rfl, cond_true, xf_ci] at h
        obtain ⟨hle, h⟩ := xf_pop_eq _ _ _ _ _ h
        rw [List.append_nil] at h
        split at h
        · rename_i a R1 hdrop
          cases g2 : Nat.ble (xv_cats R1) 8 <;> simp only [g2, Bool.true_and, Bool.false_and, cond_true, cond_false, reduceCtorEq] at h
          cases b1 : Nat.ble (c + z.2.2.1.1) y.2.2.1.1 <;> simp only [b1, Bool.true_and, Bool.false_and, cond_true, cond_false, reduceCtorEq] at h
          cases b2 : Nat.ble (s + z.2.2.1.2) y.2.2.1.2 <;> simp only [b2, cond_true, cond_false, reduceCtorEq] at h
          obtain ⟨v, n1, T1, M1, hc1, hR1, h⟩ := xf_aft_ok hcall hR h
          obtain ⟨b, hb1, hb2⟩ := hn rfl _ _ _ _ _ _ _ ⟨Nat.le_of_ble_eq_true b1, Nat.le_of_ble_eq_true b2⟩ h _ hR1
          refine ⟨b, ?_, hb2⟩
          rw [xt_call (R := R1) rfl rfl rfl (by simp only [xv_arg, hf, show (Nat.beq 1 1 || Nat.beq 1 2) = true from rfl, hz, hdrop, g2, cond_true]) hz b1 b2 hc1]
          exact hb1
        · cases h
    by_cases e2 : kd = 2
    · subst e2
      rcases hz : ms[j]? with _ | z
      · simp only [xf_of, hf, hz, show (Nat.beq 2 1 || Nat.beq 2 2) = true from rfl, cond_true] at h
        exact xf_nn (show (none : Option (xf_P V)) = some p from h)
      · simp only [xf_of, hf, hz, show (Nat.beq 2 1 || Nat.beq 2 2) = true from rfl, cond_true, xf_ci] at h
        obtain ⟨hle, h⟩ := xf_pop_eq _ _ _ _ _ h
        rw [List.append_nil] at h
        split at h
        · rename_i a R1 hdrop
          cases g2 : Nat.ble (xv_cats R1) 8 <;> simp only [g2, Bool.true_and, Bool.false_and, cond_true, cond_false, reduceCtorEq] at h
          cases b1 : Nat.ble (c + z.2.2.1.1) y.2.2.1.1 <;> simp only [b1, Bool.true_and, Bool.false_and, cond_true, cond_false, reduceCtorEq] at h
          cases b2 : Nat.ble (s + z.2.2.1.2) y.2.2.1.2 <;> simp only [b2, cond_true, cond_false, reduceCtorEq] at h
          obtain ⟨v, n1, T1, M1, hc1, hR1, h⟩ := xf_aft_ok hcall hR h
          obtain ⟨b, hb1, hb2⟩ := hn rfl _ _ _ _ _ _ _ ⟨Nat.le_of_ble_eq_true b1, Nat.le_of_ble_eq_true b2⟩ h _ hR1
          refine ⟨b, ?_, hb2⟩
          rw [xt_call (R := R1) rfl rfl rfl (by simp only [xv_arg, hf, show (Nat.beq 2 1 || Nat.beq 2 2) = true from rfl, hz, hdrop, g2, cond_true]) hz b1 b2 hc1]
          exact hb1
        · cases h
    by_cases e5 : kd = 5
    · subst e5
      simp only [xf_of, hf, show (Nat.beq 5 1 || Nat.beq 5 2) = false from rfl, show Nat.beq 5 5 = true from rfl, cond_true, cond_false, xf_obj] at h
      split at h
      · rename_i a S1
        cases g2 : Nat.ble (xv_cats S1) 8 <;> simp only [g2, cond_true, cond_false, reduceCtorEq] at h
        obtain ⟨b, hb1, hb2⟩ := hn rfl _ _ _ _ _ _ _ hB h M hR
        refine ⟨b, ?_, hb2⟩
        rw [xt_nat (S' := S1) (M' := M) rfl rfl rfl (by simp only [xv_arg, hf, show (Nat.beq 5 1 || Nat.beq 5 2) = false from rfl, cond_false]) (by simp only [xv_nat, hf, g2, cond_true])]
        exact hb1
      · cases h
    simp only [xf_of, hf, xf_nbeq e1, xf_nbeq e2, xf_nbeq e5, Bool.or_self, cond_false] at h
    exact xf_nn (show (none : Option (xf_P V)) = some p from h)
  case invokestatic k =>
    rcases hf : xv_find y.1.2.2.1 k with _ | ⟨kd, j⟩
    · simp only [xf_of, hf] at h
      exact xf_nn (show (none : Option (xf_P V)) = some p from h)
    by_cases e3 : kd = 3
    · subst e3
      rcases hz : ms[j]? with _ | z
      · simp only [xf_of, hf, hz, show Nat.beq 3 3 = true from rfl, cond_true] at h
        exact xf_nn (show (none : Option (xf_P V)) = some p from h)
      · simp only [xf_of, hf, hz, show Nat.beq 3 3 = true from rfl, cond_true, xf_cs] at h
        obtain ⟨hle, h⟩ := xf_pop_eq _ _ _ _ _ h
        rw [List.append_nil] at h
        cases g2 : Nat.ble (xv_cats (S.drop z.2.1.1)) 8 <;> simp only [g2, Bool.true_and, Bool.false_and, cond_true, cond_false, reduceCtorEq] at h
        cases b1 : Nat.ble (c + z.2.2.1.1) y.2.2.1.1 <;> simp only [b1, Bool.true_and, Bool.false_and, cond_true, cond_false, reduceCtorEq] at h
        cases b2 : Nat.ble (s + z.2.2.1.2) y.2.2.1.2 <;> simp only [b2, cond_true, cond_false, reduceCtorEq] at h
        obtain ⟨v, n1, T1, M1, hc1, hR1, h⟩ := xf_aft_ok hcall hR h
        obtain ⟨b, hb1, hb2⟩ := hn rfl _ _ _ _ _ _ _ ⟨Nat.le_of_ble_eq_true b1, Nat.le_of_ble_eq_true b2⟩ h _ hR1
        refine ⟨b, ?_, hb2⟩
        rw [xt_call (R := S.drop z.2.1.1) rfl rfl rfl (by simp only [xv_arg, hf, hz, Nat.ble_eq_true_of_le hle, g2, Bool.and_self, cond_true]) hz b1 b2 hc1]
        exact hb1
    by_cases e6 : kd = 6
    · subst e6
      simp only [xf_of, hf, show Nat.beq 6 3 = false from rfl, show Nat.beq 6 6 = true from rfl, cond_true, cond_false, xf_cp] at h
      split at h
      · rename_i m dp b sp a S1
        obtain ⟨oa, hoa, h⟩ := xf_cell_ok h
        rw [hR.2] at hoa
        obtain ⟨ob, hob, h⟩ := xf_cell_ok h
        rw [hR.2] at hob
        cases g1 : (Nat.beq oa.1 0 && Nat.beq ob.1 0 && Nat.ble (xv_cats S1) 8) <;> simp only [g1, cond_true, cond_false, reduceCtorEq] at h
        split at h
        · rename_i m1 dp1 sp1 q1 q2 q3
          cases g2 : (Nat.ble (sp1 + m1) oa.2.length && Nat.ble (dp1 + m1) ob.2.length) <;> simp only [g2, cond_true, cond_false, reduceCtorEq] at h
          rw [xf_lay_eq] at h
          obtain ⟨T', h, hT⟩ := xf_upd_ok h
          obtain ⟨b2, hb1, hb2⟩ := hn rfl _ _ _ _ _ _ _ hB h _ (hR.set hob hT)
          refine ⟨b2, ?_, hb2⟩
          rw [xt_nat (S' := S1) (M' := M.set b (0, ob.2.take dp1 ++ ((oa.2.drop sp1).take m1 ++ ob.2.drop (dp1 + m1)))) rfl rfl rfl (by simp only [xv_arg, hf]) (by simp only [xv_nat, hf, xv_copy, hoa, hob, g1, g2, q1, q2, q3, cond_true])]
          exact hb1
        · cases h
      · cases h
    simp only [xf_of, hf, xf_nbeq e3, xf_nbeq e6, cond_false] at h
    exact xf_nn (show (none : Option (xf_P V)) = some p from h)
  case return_ =>
    simp only [xf_of] at h
    cases hr : Nat.beq y.2.1.2.2.1 0 <;> simp only [hr, cond_true, cond_false, xf_no, reduceCtorEq] at h
    simp only [xf_rv] at h
    split at h
    · cases Option.some.inj h
      rw [xt_end (v := none) rfl rfl rfl rfl rfl (by simp only [xv_end, hr, cond_true])]
      exact ⟨_, rfl, Or.inl ⟨_, _, _, _, rfl, rfl, hR⟩⟩
    · cases h
  case ireturn =>
    simp only [xf_of] at h
    cases hr : Nat.beq y.2.1.2.2.1 1 <;> simp only [hr, cond_true, cond_false] at h
    · cases hr3 : Nat.beq y.2.1.2.2.1 3 <;> simp only [hr3, cond_true, cond_false, xf_no, reduceCtorEq] at h
      simp only [xf_rz] at h
      split at h
      · rename_i a
        cases hbit : D.2.2.2.2.2 a <;> simp only [hbit, cond_true, cond_false, reduceCtorEq] at h
        cases Option.some.inj h
        rw [xt_end (v := some (.inl a)) rfl rfl rfl rfl rfl (by simp only [xv_end, hr, hr3, hbit, Bool.and_self, Bool.or_true, cond_true])]
        exact ⟨_, rfl, Or.inl ⟨_, _, _, _, rfl, rfl, hR⟩⟩
      · cases h
    · simp only [xf_ri] at h
      split at h
      · rename_i a
        cases Option.some.inj h
        rw [xt_end (v := some (.inl a)) rfl rfl rfl rfl rfl (by simp only [xv_end, hr, Bool.true_or, cond_true])]
        exact ⟨_, rfl, Or.inl ⟨_, _, _, _, rfl, rfl, hR⟩⟩
      · cases h
  case lreturn =>
    simp only [xf_of] at h
    cases hr : Nat.beq y.2.1.2.2.1 2 <;> simp only [hr, cond_true, cond_false, xf_no, reduceCtorEq] at h
    simp only [xf_rl] at h
    split at h
    · rename_i a
      cases Option.some.inj h
      rw [xt_end (v := some (.inr (.inl a))) rfl rfl rfl rfl rfl (by simp only [xv_end, hr, cond_true])]
      exact ⟨_, rfl, Or.inl ⟨_, _, _, _, rfl, rfl, hR⟩⟩
    · cases h
end XF2
end
section
/-- the code's places: increasing, each behind the one ahead -/
def xf_wf : List xv_I → Bool
  | q :: r => (match r with
    | q2 :: _ => Nat.blt q.1 q2.1 && (xv_sw q.2 || Nat.beq q2.1 (q.1 + xv_len q.2))
    | [] => true) && xf_wf r
  | [] => true
theorem xf_wf_tl {q : xv_I} {r : List xv_I} (h : xf_wf (q :: r) = true) : xf_wf r = true := by
  unfold xf_wf at h
  exact (Bool.and_eq_true_iff.mp h).2
theorem xf_wf_hd {q q2 : xv_I} {r : List xv_I} (h : xf_wf (q :: q2 :: r) = true) : q.1 < q2.1 ∧ (xv_sw q.2 = false → q2.1 = q.1 + xv_len q.2) := by
  unfold xf_wf at h
  have h := (Bool.and_eq_true_iff.mp h).1
  dsimp only at h
  obtain ⟨h1, h2⟩ := Bool.and_eq_true_iff.mp h
  refine ⟨Nat.le_of_ble_eq_true h1, fun hs => ?_⟩
  rw [hs, Bool.false_or] at h2
  exact Nat.eq_of_beq_eq_true h2
theorem xf_wf_lt : ∀ {r : List xv_I} {q x : xv_I}, xf_wf (q :: r) = true → x ∈ r → q.1 < x.1
  | [], _, _, _, hx => absurd hx List.not_mem_nil
  | q2 :: r, q, x, h, hx => by
    have h1 := (xf_wf_hd h).1
    rcases List.mem_cons.mp hx with e | e
    · rw [e]; exact h1
    · exact Nat.lt_trans h1 (xf_wf_lt (xf_wf_tl h) e)
theorem xf_wf_suf : ∀ {pre cs : List xv_I}, xf_wf (pre ++ cs) = true → xf_wf cs = true
  | [], _, h => h
  | _ :: _, _, h => xf_wf_suf (xf_wf_tl h)
theorem xf_to_suf : ∀ {pre r : List xv_I} {q : xv_I}, xf_wf (pre ++ q :: r) = true → xv_to (pre ++ q :: r) q.1 = q :: r
  | [], r, q, _ => by
    show xv_to (q :: r) q.1 = _
    simp only [xv_to, Nat.beq_refl, cond_true]
  | h :: pre, r, q, hw => by
    have h1 : h.1 < q.1 := xf_wf_lt (r := pre ++ q :: r) hw (List.mem_append.mpr (Or.inr List.mem_cons_self))
    show xv_to (h :: (pre ++ q :: r)) q.1 = _
    simp only [xv_to]
    rw [xf_nbeq (Nat.ne_of_lt h1), cond_false]
    exact xf_to_suf (xf_wf_tl hw)
theorem xf_to_at : ∀ {cs : List xv_I} {t : Nat} {q : xv_I} {r : List xv_I}, xv_to cs t = q :: r → q.1 = t ∧ ∃ pre, cs = pre ++ q :: r
  | [], _, _, _, h => by cases h
  | x :: cs, t, q, r, h => by
    simp only [xv_to] at h
    cases hc : Nat.beq x.1 t <;> simp only [hc, cond_true, cond_false] at h
    · obtain ⟨h1, pre, h2⟩ := xf_to_at h
      exact ⟨h1, x :: pre, by rw [h2]; rfl⟩
    · cases h
      exact ⟨Nat.eq_of_beq_eq_true hc, [], rfl⟩
section XF4
variable {V : Type} {D : xv_D V} {fv : xf_fv V} {ct : List (List (FieldType × Bool))} {at_ : List Nat} {sct : List (List Int32)} {ms : List xv_N}
noncomputable def xf_mk (D : xv_D V) (fv : xf_fv V) (ct : List (List (FieldType × Bool))) (at_ : List Nat) (sct : List (List Int32)) (ms : List xv_N) (y : xv_N) (stop : Nat) (q : xv_I) : Nat × xf_F V := (q.1, bif Nat.beq q.1 stop then xf_stop else xf_of D fv ct at_ sct ms y q.1 q.2)
theorem xf_to_map {y : xv_N} {stop : Nat} : ∀ (cs : List xv_I) (t : Nat), xf_to (cs.map (xf_mk D fv ct at_ sct ms y stop)) t = (xv_to cs t).map (xf_mk D fv ct at_ sct ms y stop)
  | [], _ => rfl
  | q :: cs, t => by
    show (bif Nat.beq q.1 t then xf_mk D fv ct at_ sct ms y stop q :: cs.map (xf_mk D fv ct at_ sct ms y stop) else xf_to (cs.map (xf_mk D fv ct at_ sct ms y stop)) t) = _
    simp only [xv_to]
    cases hc : Nat.beq q.1 t
    · simp only [cond_false]
      exact xf_to_map cs t
    · rfl
/-- THE FAST LOOP is the loop -/
theorem xf_lp_ok (hfv : ∀ (r : V) (k : V → Option (xf_P V)), fv r k = k r) {call : xf_K V} {call' : Nat → List (xv_V V) → xv_M V → Option (xv_R V)} (hcall : ∀ (j : Nat) (as : List (xv_V V)) (n : Nat) (T : xf_T V) (v : Option (xv_V V)) (n' : Nat) (T' : xf_T V), call j as n T = some (v, n', T') → ∀ M, xf_R n T M → ∃ M', call' j as M = some (v, M') ∧ xf_R n' T' M') {y : xv_N} {stop : Nat} (hw : xf_wf y.2.2.2 = true) :
    ∀ (fuel : Nat) (pre cs : List xv_I) (q : xv_I), y.2.2.2 = pre ++ q :: cs → ¬ q.1 = stop → xf_S y (xf_lp (y.2.2.2.map (xf_mk D fv ct at_ sct ms y stop)) call fuel ((q :: cs).map (xf_mk D fv ct at_ sct ms y stop))) (fun L S M c s => xv_lp D ct at_ sct ms call' y stop fuel q.1 (q :: cs) L S M c s) := by
  intro fuel
  induction fuel with
  | zero => intro pre cs q _ _ L S n T c s p _ h; cases h
  | succ fuel ih =>
    have go : ∀ (pre cs : List xv_I) (q : xv_I), y.2.2.2 = pre ++ q :: cs → xf_S y (xf_lp (y.2.2.2.map (xf_mk D fv ct at_ sct ms y stop)) call fuel ((q :: cs).map (xf_mk D fv ct at_ sct ms y stop))) (fun L S M c s => bif Nat.beq q.1 stop then some (.inr (L, S, M, c, s)) else xv_lp D ct at_ sct ms call' y stop fuel q.1 (q :: cs) L S M c s) := by
      intro pre cs q hq
      by_cases e : q.1 = stop
      · intro L S n T c s p _ h M hR
        have hb : Nat.beq q.1 stop = true := by rw [e]; exact Nat.beq_refl _
        refine ⟨.inr (L, S, M, c, s), by simp only [hb, cond_true], ?_⟩
        cases fuel with
        | zero => cases h
        | succ f =>
          have h : (bif Nat.beq q.1 stop then xf_stop else xf_of D fv ct at_ sct ms y q.1 q.2) (xf_lp (y.2.2.2.map (xf_mk D fv ct at_ sct ms y stop)) call f (cs.map (xf_mk D fv ct at_ sct ms y stop))) (fun t => xf_lp (y.2.2.2.map (xf_mk D fv ct at_ sct ms y stop)) call f (xf_to (y.2.2.2.map (xf_mk D fv ct at_ sct ms y stop)) t)) call L S n T c s = some p := h
          rw [hb, cond_true] at h
          exact Or.inr ⟨L, S, n, T, c, s, M, (Option.some.inj h).symm, rfl, hR⟩
      · rw [xf_nbeq e]
        exact ih pre cs q hq e
    intro pre cs q hq hne L S n T c s p hB h M hR
    have h : (bif Nat.beq q.1 stop then xf_stop else xf_of D fv ct at_ sct ms y q.1 q.2) (xf_lp (y.2.2.2.map (xf_mk D fv ct at_ sct ms y stop)) call fuel (cs.map (xf_mk D fv ct at_ sct ms y stop))) (fun t => xf_lp (y.2.2.2.map (xf_mk D fv ct at_ sct ms y stop)) call fuel (xf_to (y.2.2.2.map (xf_mk D fv ct at_ sct ms y stop)) t)) call L S n T c s = some p := h
    rw [xf_nbeq hne, cond_false] at h
    have hnone : ∀ {L : xv_L V} {S : List (xv_V V)} {n : Nat} {T : xf_T V} {c s : Nat} {p : xf_P V} {P : Prop}, xf_lp (y.2.2.2.map (xf_mk D fv ct at_ sct ms y stop)) call fuel [] L S n T c s = some p → P := by
      intro L S n T c s p P h
      cases fuel with
      | zero => cases h
      | succ f => cases h
    have hw2 : xf_wf (q :: cs) = true := xf_wf_suf (pre := pre) (by rw [← hq]; exact hw)
    have hn : xv_sw q.2 = false → xf_S y (xf_lp (y.2.2.2.map (xf_mk D fv ct at_ sct ms y stop)) call fuel (cs.map (xf_mk D fv ct at_ sct ms y stop))) (fun L S M c s => (fun pc cs L S M c s => bif Nat.beq pc stop then some (Sum.inr (L, S, M, c, s)) else xv_lp D ct at_ sct ms call' y stop fuel pc cs L S M c s) (q.1 + xv_len q.2) cs L S M c s) := by
      intro hs
      cases cs with
      | nil => intro L S n T c s p _ h; exact hnone h
      | cons q2 cs =>
        have e2 := (xf_wf_hd hw2).2 hs
        rw [← e2]
        exact go (pre ++ [q]) cs q2 (by rw [hq, List.append_assoc]; rfl)
    have r := xf_one (D := D) (ct := ct) (at_ := at_) (sct := sct) (ms := ms) (y := y) (call' := call') (cs := cs) (i := q.2) (pc := q.1) (ih := fun pc cs L S M c s => bif Nat.beq pc stop then some (Sum.inr (L, S, M, c, s)) else xv_lp D ct at_ sct ms call' y stop fuel pc cs L S M c s) hfv hcall hn (fun h3 => by
      have hs : xv_sw q.2 = false := by
        cases hi : q.2 <;> first | rfl | (rw [hi] at h3; cases h3)
      have hn2 := hn hs
      rw [h3] at hn2
      cases cs with
      | nil => intro L S n T c s p _ h; exact hnone h
      | cons q2 cs =>
        have e2 := (xf_wf_hd hw2).2 hs
        rw [h3] at e2
        have e3 : y.2.2.2 = (pre ++ [q]) ++ q2 :: cs := by rw [hq, List.append_assoc]; rfl
        have e4 : xv_to y.2.2.2 (q.1 + 3) = q2 :: cs := by
          rw [← e2, e3]
          exact xf_to_suf (by rw [← e3]; exact hw)
        rw [e4]
        exact hn2) (fun t => by
      rw [xf_to_map]
      cases ht : xv_to y.2.2.2 t with
      | nil => intro L S n T c s p _ h; exact hnone h
      | cons q2 r =>
        obtain ⟨e1, pre2, e2⟩ := xf_to_at ht
        rw [← e1]
        exact go pre2 r q2 e2) hB h hR
    exact r
/-- .. and what the fast machine runs, the machine runs -/
theorem xf_rn_ok (hfv : ∀ (r : V) (k : V → Option (xf_P V)), fv r k = k r) {fs : List (Nat × List (Nat × xf_F V))} (hfs : ∀ (j : Nat) (q : Nat × List (Nat × xf_F V)), fs[j]? = some q → ∃ (y : xv_N) (i0 : Instr) (cs : List xv_I), ms[j]? = some y ∧ q = (y.2.1.2.1, y.2.2.2.map (xf_mk D fv ct at_ sct ms y 100000)) ∧ xf_wf y.2.2.2 = true ∧ y.2.2.2 = (0, i0) :: cs)
    {fext : Nat → xf_K V} {ext : Nat → Nat → List (xv_V V) → xv_M V → Option (xv_R V)} (he1 : ∀ (d j : Nat) (as : List (xv_V V)) (n : Nat) (T : xf_T V) (v : Option (xv_V V)) (n' : Nat) (T' : xf_T V), fext d j as n T = some (v, n', T') → ∀ M, xf_R n T M → ∃ M', ext d j as M = some (v, M') ∧ xf_R n' T' M') (he2 : ∀ (d j : Nat) (as : List (xv_V V)) (n : Nat) (T : xf_T V), fext d j as n T = none → ∀ M, xf_R n T M → ext d j as M = none) (fuel : Nat) :
    ∀ (d j : Nat) (as : List (xv_V V)) (n : Nat) (T : xf_T V) (v : Option (xv_V V)) (n' : Nat) (T' : xf_T V), xf_rn fs fext fuel d j as n T = some (v, n', T') → ∀ M, xf_R n T M → ∃ M', xv_rn D ct at_ sct ms ext fuel d j as M = some (v, M') ∧ xf_R n' T' M' := by
  intro d
  induction d with
  | zero => intro j as n T v n' T' h; cases h
  | succ d ih =>
    intro j as n T v n' T' h M hR
    have h : (match fext (d + 1) j as n T with
      | some r => some r
      | none => match xf_get fs j with
        | some y => bif Nat.ble (xv_cats as) y.1 then xf_in as y.1 (fun L => xf_un (xf_lp y.2 (xf_rn fs fext fuel d) fuel y.2 L [] n T 0 0)) else none
        | none => none) = some (v, n', T') := h
    have hg : xv_rn D ct at_ sct ms ext fuel (d + 1) j as M = (match ext (d + 1) j as M with
      | some r => some r
      | none => match ms[j]? with
        | some y => bif Nat.ble (xv_cats as) y.2.1.2.1 then xv_un (xv_lp D ct at_ sct ms (xv_rn D ct at_ sct ms ext fuel d) y 100000 fuel 0 y.2.2.2 (xv_in as y.2.1.2.1) [] M 0 0) else none
        | none => none) := rfl
    rw [hg]
    cases hx : fext (d + 1) j as n T with
    | some r =>
      rw [hx] at h
      obtain ⟨v1, n1, T1⟩ := r
      cases Option.some.inj h
      obtain ⟨M', h1, h2⟩ := he1 _ _ _ _ _ _ _ _ hx M hR
      exact ⟨M', by rw [h1], h2⟩
    | none =>
      rw [hx] at h
      rw [he2 _ _ _ _ _ hx M hR]
      dsimp only at h ⊢
      rw [xf_get_eq] at h
      cases hq : fs[j]? with
      | none => rw [hq] at h; cases h
      | some q =>
        rw [hq] at h
        dsimp only at h
        obtain ⟨y, i0, cs, hy, rfl, hw, hcs⟩ := hfs j q hq
        rw [hy]
        dsimp only at h ⊢
        cases hc : Nat.ble (xv_cats as) y.2.1.2.1 <;> simp only [hc, cond_true, cond_false] at h ⊢
        · cases h
        rw [xf_in_eq] at h
        have hlp := xf_lp_ok (D := D) (fv := fv) (ct := ct) (at_ := at_) (sct := sct) (ms := ms) hfv ih (stop := 100000) hw fuel [] cs (0, i0) hcs (by show ¬ 0 = 100000; omega)
        rw [← hcs] at hlp
        cases hp : xf_lp (y.2.2.2.map (xf_mk D fv ct at_ sct ms y 100000)) (xf_rn fs fext fuel d) fuel (y.2.2.2.map (xf_mk D fv ct at_ sct ms y 100000)) (xv_in as y.2.1.2.1) [] n T 0 0 with
        | none => rw [hp] at h; cases h
        | some p =>
          rw [hp] at h
          obtain ⟨b, hb1, hb2⟩ := hlp _ _ _ _ _ _ _ ⟨Nat.zero_le _, Nat.zero_le _⟩ hp M hR
          rcases hb2 with ⟨v1, n1, T1, M1, rfl, rfl, hR1⟩ | ⟨_, _, _, _, _, _, _, rfl, _⟩
          · cases Option.some.inj h
            refine ⟨M1, ?_, hR1⟩
            have hb1 : xv_lp D ct at_ sct ms (xv_rn D ct at_ sct ms ext fuel d) y 100000 fuel 0 y.2.2.2 (xv_in as y.2.1.2.1) [] M 0 0 = some (.inl (v, M1)) := hb1
            rw [hb1]
            rfl
          · cases h
end XF4
end
section
/-! THE DOMAIN: exact numbers (.inl n), numbers between two bounds (.inr (lo, hi)); .inr (lo, hi) with hi < lo: the lowest six bits are hi -/
abbrev xd_V : Type := Int ⊕ (Int × Int)
def xd_le : Int → Int → Bool
  | .ofNat m, .ofNat n => Nat.ble m n
  | .ofNat _, .negSucc _ => false
  | .negSucc _, .ofNat _ => true
  | .negSucc m, .negSucc n => Nat.ble n m
def xd_top : xd_V := .inr (-2147483648, 2147483647)
def xd_r32 (z : Int) : Option xd_V := bif xd_le (-2147483648) z && xd_le z 2147483647 then some (.inl z) else none
def xd_r64 (z : Int) : Option xd_V := bif xd_le (-9223372036854775808) z && xd_le z 9223372036854775807 then some (.inl z) else none
def xd_i32 (o : Nat) (a b : Int) : Option xd_V := match xv_semI o (Int32.ofInt a) (Int32.ofInt b) with
  | some z => some (.inl z.toInt)
  | none => none
def xd_i64 (o : Nat) (a b : Int) : Option xd_V := match xv_semL o (Int64.ofInt a) (Int64.ofInt b) with
  | some z => some (.inl z.toInt)
  | none => none
def xd_is0 : Int → Bool
  | .ofNat 0 => true
  | _ => false
/-- numbers that aren't exact: nothing is known of the answer -/
def xd_ex (f : Int → Int → Option xd_V) (u : Option xd_V) (a b : xd_V) : Option xd_V := match a, b with
  | .inl x, .inl y => f x y
  | _, _ => u
def xd_add : xd_V → xd_V → Option xd_V := xd_ex (fun a b => xd_r32 (Int.add a b)) (some xd_top)
def xd_sub : xd_V → xd_V → Option xd_V := xd_ex (fun a b => xd_r32 (Int.sub a b)) (some xd_top)
def xd_mul : xd_V → xd_V → Option xd_V := xd_ex (fun a b => xd_r32 (Int.mul a b)) (some xd_top)
def xd_anx : Int → Int → Option xd_V := xd_i32 3
/-- the lowest six bits may be known -/
def xd_an (a b : xd_V) : Option xd_V := match a, b with
  | .inl x, .inl y => xd_anx x y
  | .inr (lo, hi), .inl n => bif xd_le n 63 && xd_le 63 n && !xd_le lo hi then some (.inl hi) else some xd_top
  | _, _ => some xd_top
def xd_orx : Int → Int → Option xd_V := xd_i32 4
def xd_div (a b : Int) : Option xd_V := bif xd_is0 b then none else xd_r32 (Int.tdiv a b)
def xd_rem (a b : Int) : Option xd_V := bif xd_is0 b then none else xd_r32 (Int.tmod a b)
def xd_andl : Int → Int → Option xd_V := xd_i64 3
def xd_orl : Int → Int → Option xd_V := xd_i64 4
def xd_divl (a b : Int) : Option xd_V := bif xd_is0 b then none else xd_r64 (Int.tdiv a b)
def xd_reml (a b : Int) : Option xd_V := bif xd_is0 b then none else xd_r64 (Int.tmod a b)
def xd_lcmp (a b : Int) : Option xd_V := bif xd_le a b then (bif xd_le b a then some (.inl 0) else some (.inl (-1))) else some (.inl 1)
def xd_op : Nat → xd_V → xd_V → Option xd_V
  | 0 => xd_add
  | 1 => xd_sub
  | 2 => xd_mul
  | 3 => xd_an
  | 4 => xd_ex xd_orx (some xd_top)
  | 5 => xd_ex (xd_i32 5) (some xd_top)
  | 6 => xd_ex (xd_i32 6) (some xd_top)
  | 7 => xd_ex (xd_i32 7) (some xd_top)
  | 8 => xd_ex xd_div none
  | 9 => xd_ex xd_rem none
  | 10 => xd_ex (fun a _ => xd_r32 (Int.neg a)) (some xd_top)
  | 20 => xd_ex (fun a b => xd_r64 (Int.add a b)) none
  | 21 => xd_ex (fun a b => xd_r64 (Int.sub a b)) none
  | 22 => xd_ex (fun a b => xd_r64 (Int.mul a b)) none
  | 23 => xd_ex xd_andl none
  | 24 => xd_ex xd_orl none
  | 25 => xd_ex xd_divl none
  | 26 => xd_ex xd_reml none
  | 27 => xd_ex (fun a _ => xd_r64 (Int.neg a)) none
  | 30 => xd_ex (fun a b => some (.inl (Int64.ofInt a <<< ((Int32.ofInt b).toInt64 &&& 63)).toInt)) none
  | 31 => xd_ex (fun a b => some (.inl (Int64.ofInt a >>> ((Int32.ofInt b).toInt64 &&& 63)).toInt)) none
  | 40 => xd_ex (fun a _ => some (.inl a)) none
  | 41 => xd_ex (fun a _ => xd_r32 a) none
  | 42 => xd_ex xd_lcmp none
  | _ => fun _ _ => none
def xd_b : xd_V → Int × Int
  | .inl n => (n, n)
  | .inr (lo, hi) => bif xd_le lo hi then (lo, hi) else (-2147483648, 2147483647)
/-- a comparison: f of exact numbers, q of bounds -/
def xd_c (f : Int → Int → Bool) (q : Int → Int → Int → Int → Option Bool) (a b : xd_V) : Option Bool := match a, b with
  | .inl x, .inl y => some (f x y)
  | a, b => match xd_b a, xd_b b with
    | (al, ah), (bl, bh) => q al ah bl bh
def xd_eqx (a b : Int) : Bool := xd_le a b && xd_le b a
def xd_eqq (al ah bl bh : Int) : Option Bool := bif !xd_le bl ah || !xd_le al bh then some false else none
def xd_neq (al ah bl bh : Int) : Option Bool := bif !xd_le bl ah || !xd_le al bh then some true else none
def xd_ltq (al ah bl bh : Int) : Option Bool := bif xd_le bh al then some false else bif !xd_le bl ah then some true else none
def xd_geq (al ah bl bh : Int) : Option Bool := bif xd_le bh al then some true else bif !xd_le bl ah then some false else none
def xd_gtq (al ah bl bh : Int) : Option Bool := bif xd_le ah bl then some false else bif !xd_le al bh then some true else none
def xd_leq (al ah bl bh : Int) : Option Bool := bif xd_le ah bl then some true else bif !xd_le al bh then some false else none
def xd_cmp : Nat → xd_V → xd_V → Option Bool
  | 0 => xd_c xd_eqx xd_eqq
  | 1 => xd_c (fun a b => !xd_eqx a b) xd_neq
  | 2 => xd_c (fun a b => !xd_le b a) xd_ltq
  | 3 => xd_c (fun a b => xd_le b a) xd_geq
  | 4 => xd_c (fun a b => !xd_le a b) xd_gtq
  | _ => xd_c xd_le xd_leq
def xd_val : xd_V → Option Int
  | .inl n => some n
  | .inr _ => none
def xd_bit : xd_V → Bool
  | .inl n => xd_le 0 n && xd_le n 1
  | .inr _ => false
def xd_D : xv_D xd_V := (fun n => .inl n.toInt, fun n => .inl n.toInt, xd_op, xd_cmp, xd_val, xd_bit)
/-- a number laid out -/
noncomputable def xd_fi {β : Type} (z : Int) (k : Int → β) : β := Int.rec (motive := fun _ => β) (fun n => xf_nat n (fun n => k (.ofNat n))) (fun n => xf_nat n (fun n => k (.negSucc n))) z
theorem xd_fi_eq {β : Type} (z : Int) (k : Int → β) : xd_fi z k = k z := by
  cases z with
  | ofNat n => exact xf_nat_eq n (fun n => k (.ofNat n))
  | negSucc n => exact xf_nat_eq n (fun n => k (.negSucc n))
noncomputable def xd_fv : xf_fv xd_V := fun r k => match r with
  | .inl z => xd_fi z (fun z => k (.inl z))
  | .inr q => k (.inr q)
theorem xd_fv_eq (r : xd_V) (k : xd_V → Option (xf_P xd_V)) : xd_fv r k = k r := by
  cases r with
  | inl z => exact xd_fi_eq z (fun z => k (.inl z))
  | inr q => rfl
end
section
/-! THE DOMAIN IS RIGHT -/
def xd_g (v : xd_V) (x : Value) : Prop := match v, x with
  | .inl n, .int z => z.toInt = n
  | .inl n, .long z => z.toInt = n
  | .inr q, .int z => (xd_le q.1 q.2 = true → q.1 ≤ z.toInt ∧ z.toInt ≤ q.2) ∧ (xd_le q.1 q.2 = false → (z &&& 63).toInt = q.2)
  | _, _ => False
theorem xd_le_iff (a b : Int) : xd_le a b = true ↔ a ≤ b := by
  cases a with
  | ofNat m =>
    cases b with
    | ofNat n =>
      show Nat.ble m n = true ↔ (m : Int) ≤ (n : Int)
      exact ⟨fun h => Int.ofNat_le.mpr (Nat.le_of_ble_eq_true h), fun h => Nat.ble_eq_true_of_le (Int.ofNat_le.mp h)⟩
    | negSucc n =>
      show false = true ↔ (m : Int) ≤ Int.negSucc n
      exact ⟨fun h => (by cases h), fun h => (by omega)⟩
  | negSucc m =>
    cases b with
    | ofNat n =>
      show true = true ↔ Int.negSucc m ≤ (n : Int)
      exact ⟨fun _ => by omega, fun _ => rfl⟩
    | negSucc n =>
      show Nat.ble n m = true ↔ Int.negSucc m ≤ Int.negSucc n
      exact ⟨fun h => by have := Nat.le_of_ble_eq_true h; omega, fun h => Nat.ble_eq_true_of_le (by omega)⟩
theorem xd_le_false (a b : Int) : xd_le a b = false ↔ b < a := by
  have h := xd_le_iff a b
  cases hc : xd_le a b
  · rw [hc] at h
    exact ⟨fun _ => Int.not_le.mp (fun q => by cases h.mpr q), fun _ => rfl⟩
  · rw [hc] at h
    exact ⟨fun q => (by cases q), fun q => absurd (h.mp rfl) (Int.not_le.mpr q)⟩
theorem xd_gtop (z : Int32) : xd_g xd_top (.int z) := by
  have h1 := z.le_toInt
  have h2 := z.toInt_lt
  exact ⟨fun _ => ⟨by show (-2147483648 : Int) ≤ _; omega, by show _ ≤ (2147483647 : Int); omega⟩, fun h => by cases h⟩
theorem xd_r32_ok {z : Int} {r : xd_V} (h : xd_r32 z = some r) : r = .inl z ∧ (Int32.ofInt z).toInt = z := by
  unfold xd_r32 at h
  cases h1 : xd_le (-2147483648) z <;> simp only [h1, Bool.false_and, Bool.true_and, cond_false, cond_true, reduceCtorEq] at h
  cases h2 : xd_le z 2147483647 <;> simp only [h2, cond_false, cond_true, reduceCtorEq] at h
  have g1 := (xd_le_iff _ _).mp h1
  have g2 := (xd_le_iff _ _).mp h2
  exact ⟨(Option.some.inj h).symm, Int32.toInt_ofInt_of_le (by omega) (by omega)⟩
theorem xd_r64_ok {z : Int} {r : xd_V} (h : xd_r64 z = some r) : r = .inl z ∧ (Int64.ofInt z).toInt = z := by
  unfold xd_r64 at h
  cases h1 : xd_le (-9223372036854775808) z <;> simp only [h1, Bool.false_and, Bool.true_and, cond_false, cond_true, reduceCtorEq] at h
  cases h2 : xd_le z 9223372036854775807 <;> simp only [h2, cond_false, cond_true, reduceCtorEq] at h
  have g1 := (xd_le_iff _ _).mp h1
  have g2 := (xd_le_iff _ _).mp h2
  exact ⟨(Option.some.inj h).symm, Int64.toInt_ofInt_of_le (by omega) (by omega)⟩
/-- what an operation must do on exact numbers -/
theorem xd_ex_i {f : Int → Int → Option xd_V} {u : Option xd_V} {a b r : xd_V} {x y : Int32} {o : Nat} (h : xd_ex f u a b = some r) (ha : xd_g a (.int x)) (hb : xd_g b (.int y))
    (hf : ∀ r, f x.toInt y.toInt = some r → ∃ z, xv_semI o x y = some z ∧ xd_g r (.int z)) (hu : ∀ r, u = some r → ∃ z, xv_semI o x y = some z ∧ xd_g r (.int z)) : ∃ z, xv_semI o x y = some z ∧ xd_g r (.int z) := by
  unfold xd_ex at h
  split at h
  · rw [← show x.toInt = _ from ha, ← show y.toInt = _ from hb] at h
    exact hf _ h
  · exact hu _ h
theorem xd_ex_l {f : Int → Int → Option xd_V} {a b r : xd_V} {x y : Int64} {P : xd_V → Prop} (h : xd_ex f none a b = some r) (ha : xd_g a (.long x)) (hb : xd_g b (.long y)) (hf : ∀ r, f x.toInt y.toInt = some r → P r) : P r := by
  unfold xd_ex at h
  split at h
  · rw [← show x.toInt = _ from ha, ← show y.toInt = _ from hb] at h
    exact hf _ h
  · cases h
theorem xd_top_i {o : Nat} {x y : Int32} (hs : ∃ z, xv_semI o x y = some z) : ∀ r, some xd_top = some r → ∃ z, xv_semI o x y = some z ∧ xd_g r (.int z) := fun r h => by
  cases Option.some.inj h
  obtain ⟨z, hz⟩ := hs
  exact ⟨z, hz, xd_gtop z⟩
theorem xd_i32_ok {o : Nat} {x y : Int32} : ∀ r, xd_i32 o x.toInt y.toInt = some r → ∃ z, xv_semI o x y = some z ∧ xd_g r (.int z) := fun r h => by
  unfold xd_i32 at h
  rw [Int32.ofInt_toInt, Int32.ofInt_toInt] at h
  split at h
  · rename_i z hz
    cases Option.some.inj h
    exact ⟨z, hz, rfl⟩
  · cases h
theorem xd_i64_ok {o : Nat} {x y : Int64} : ∀ r, xd_i64 o x.toInt y.toInt = some r → ∃ z, xv_semL o x y = some z ∧ xd_g r (.long z) := fun r h => by
  unfold xd_i64 at h
  rw [Int64.ofInt_toInt, Int64.ofInt_toInt] at h
  split at h
  · rename_i z hz
    cases Option.some.inj h
    exact ⟨z, hz, rfl⟩
  · cases h
theorem xd_is0_f {b : Int} (h : xd_is0 b = false) : b ≠ 0 := by
  intro e
  rw [e] at h
  cases h
theorem xd_mn32 (x : Int32) : Int32.minValue.toInt ≤ x.toInt ∧ x.toInt ≤ Int32.maxValue.toInt := ⟨x.minValue_le_toInt, x.toInt_le⟩
theorem xd_mn64 (x : Int64) : Int64.minValue.toInt ≤ x.toInt ∧ x.toInt ≤ Int64.maxValue.toInt := ⟨x.minValue_le_toInt, x.toInt_le⟩
theorem xd_div32 (x y : Int32) : Int32.ofInt (x.toInt.tdiv y.toInt) = x / y := by
  rw [Int32.ofInt_tdiv (xd_mn32 x).1 (xd_mn32 x).2 (xd_mn32 y).1 (xd_mn32 y).2, Int32.ofInt_toInt, Int32.ofInt_toInt]
theorem xd_div64 (x y : Int64) : Int64.ofInt (x.toInt.tdiv y.toInt) = x / y := by
  rw [Int64.ofInt_tdiv (xd_mn64 x).1 (xd_mn64 x).2 (xd_mn64 y).1 (xd_mn64 y).2, Int64.ofInt_toInt, Int64.ofInt_toInt]
theorem xd_rem32 (x y : Int32) : Int32.ofInt (x.toInt.tmod y.toInt) = x - x / y * y := by
  rw [Int.tmod_def, Int32.ofInt_sub, Int32.ofInt_mul, Int32.ofInt_toInt, Int32.ofInt_toInt, xd_div32, Int32.mul_comm]
theorem xd_rem64 (x y : Int64) : Int64.ofInt (x.toInt.tmod y.toInt) = x - x / y * y := by
  rw [Int.tmod_def, Int64.ofInt_sub, Int64.ofInt_mul, Int64.ofInt_toInt, Int64.ofInt_toInt, xd_div64, Int64.mul_comm]
theorem xd_eqz32 {y : Int32} (h : y.toInt ≠ 0) : ¬ y = 0 := fun e => h (by rw [e]; rfl)
theorem xd_eqz64 {y : Int64} (h : y.toInt ≠ 0) : ¬ y = 0 := fun e => h (by rw [e]; rfl)
theorem xd_anI {a b r : xd_V} {x y : Int32} (h : xd_an a b = some r) (ha : xd_g a (.int x)) (hb : xd_g b (.int y)) : ∃ z, xv_semI 3 x y = some z ∧ xd_g r (.int z) := by
  unfold xd_an at h
  split at h
  · rw [← show x.toInt = _ from ha, ← show y.toInt = _ from hb] at h
    exact xd_i32_ok (o := 3) _ h
  · rename_i lo hi n
    cases hc : (xd_le n 63 && xd_le 63 n && !xd_le lo hi) <;> simp only [hc, cond_true, cond_false] at h
    · cases Option.some.inj h
      exact ⟨x &&& y, rfl, xd_gtop _⟩
    · cases Option.some.inj h
      obtain ⟨h1, h2⟩ := Bool.and_eq_true_iff.mp hc
      obtain ⟨h3, h4⟩ := Bool.and_eq_true_iff.mp h1
      have e1 := (xd_le_iff _ _).mp h3
      have e2 := (xd_le_iff _ _).mp h4
      have hb : y.toInt = n := hb
      have ey : y = 63 := Int32.toInt_inj.mp (by rw [hb]; show n = 63; omega)
      refine ⟨x &&& y, rfl, ?_⟩
      rw [ey]
      exact ha.2 (by simpa using h2)
  · cases Option.some.inj h
    exact ⟨x &&& y, rfl, xd_gtop _⟩
theorem xd_opI (o : Nat) (a b r : xd_V) (x y : Int32) (_ : o < 20) (h : xd_op o a b = some r) (ha : xd_g a (.int x)) (hb : xd_g b (.int y)) : ∃ z, xv_semI o x y = some z ∧ xd_g r (.int z) := by
  match o, h with
  | 0, h => exact xd_ex_i h ha hb (fun r h => by
      obtain ⟨rfl, e⟩ := xd_r32_ok h
      refine ⟨x + y, rfl, ?_⟩
      rw [show Int.add x.toInt y.toInt = x.toInt + y.toInt from rfl, Int32.ofInt_add, Int32.ofInt_toInt, Int32.ofInt_toInt] at e
      exact e) (xd_top_i ⟨_, rfl⟩)
  | 1, h => exact xd_ex_i h ha hb (fun r h => by
      obtain ⟨rfl, e⟩ := xd_r32_ok h
      refine ⟨x - y, rfl, ?_⟩
      rw [show Int.sub x.toInt y.toInt = x.toInt - y.toInt from rfl, Int32.ofInt_sub, Int32.ofInt_toInt, Int32.ofInt_toInt] at e
      exact e) (xd_top_i ⟨_, rfl⟩)
  | 2, h => exact xd_ex_i h ha hb (fun r h => by
      obtain ⟨rfl, e⟩ := xd_r32_ok h
      refine ⟨x * y, rfl, ?_⟩
      rw [show Int.mul x.toInt y.toInt = x.toInt * y.toInt from rfl, Int32.ofInt_mul, Int32.ofInt_toInt, Int32.ofInt_toInt] at e
      exact e) (xd_top_i ⟨_, rfl⟩)
  | 3, h => exact xd_anI h ha hb
  | 4, h => exact xd_ex_i h ha hb (xd_i32_ok (o := 4)) (xd_top_i ⟨_, rfl⟩)
  | 5, h => exact xd_ex_i h ha hb (xd_i32_ok (o := 5)) (xd_top_i ⟨_, rfl⟩)
  | 6, h => exact xd_ex_i h ha hb (xd_i32_ok (o := 6)) (xd_top_i ⟨_, rfl⟩)
  | 7, h => exact xd_ex_i h ha hb (xd_i32_ok (o := 7)) (xd_top_i ⟨_, rfl⟩)
  | 8, h => exact xd_ex_i h ha hb (fun r h => by
      unfold xd_div at h
      cases h0 : xd_is0 y.toInt <;> simp only [h0, cond_true, cond_false, reduceCtorEq] at h
      obtain ⟨rfl, e⟩ := xd_r32_ok h
      refine ⟨x / y, by simp only [xv_semI, xd_eqz32 (xd_is0_f h0), if_false], ?_⟩
      rw [xd_div32] at e
      exact e) (fun r h => by cases h)
  | 9, h => exact xd_ex_i h ha hb (fun r h => by
      unfold xd_rem at h
      cases h0 : xd_is0 y.toInt <;> simp only [h0, cond_true, cond_false, reduceCtorEq] at h
      obtain ⟨rfl, e⟩ := xd_r32_ok h
      refine ⟨x - x / y * y, by simp only [xv_semI, xd_eqz32 (xd_is0_f h0), if_false], ?_⟩
      rw [xd_rem32] at e
      exact e) (fun r h => by cases h)
  | 10, h => exact xd_ex_i h ha hb (fun r h => by
      obtain ⟨rfl, e⟩ := xd_r32_ok h
      refine ⟨-x, rfl, ?_⟩
      rw [show Int.neg x.toInt = -x.toInt from rfl, Int32.ofInt_neg, Int32.ofInt_toInt] at e
      exact e) (xd_top_i ⟨_, rfl⟩)
  | 11, h => cases h
  | 12, h => cases h
  | 13, h => cases h
  | 14, h => cases h
  | 15, h => cases h
  | 16, h => cases h
  | 17, h => cases h
  | 18, h => cases h
  | 19, h => cases h
  | n + 20, h => omega
theorem xd_opL (o : Nat) (a b r : xd_V) (x y : Int64) (_ : o < 10) (h : xd_op (o + 20) a b = some r) (ha : xd_g a (.long x)) (hb : xd_g b (.long y)) : ∃ z, xv_semL o x y = some z ∧ xd_g r (.long z) := by
  match o, h with
  | 0, h => exact xd_ex_l h ha hb (P := fun r => ∃ z, xv_semL 0 x y = some z ∧ xd_g r (.long z)) (fun r h => by
      obtain ⟨rfl, e⟩ := xd_r64_ok h
      refine ⟨x + y, rfl, ?_⟩
      rw [show Int.add x.toInt y.toInt = x.toInt + y.toInt from rfl, Int64.ofInt_add, Int64.ofInt_toInt, Int64.ofInt_toInt] at e
      exact e)
  | 1, h => exact xd_ex_l h ha hb (P := fun r => ∃ z, xv_semL 1 x y = some z ∧ xd_g r (.long z)) (fun r h => by
      obtain ⟨rfl, e⟩ := xd_r64_ok h
      refine ⟨x - y, rfl, ?_⟩
      rw [show Int.sub x.toInt y.toInt = x.toInt - y.toInt from rfl, Int64.ofInt_sub, Int64.ofInt_toInt, Int64.ofInt_toInt] at e
      exact e)
  | 2, h => exact xd_ex_l h ha hb (P := fun r => ∃ z, xv_semL 2 x y = some z ∧ xd_g r (.long z)) (fun r h => by
      obtain ⟨rfl, e⟩ := xd_r64_ok h
      refine ⟨x * y, rfl, ?_⟩
      rw [show Int.mul x.toInt y.toInt = x.toInt * y.toInt from rfl, Int64.ofInt_mul, Int64.ofInt_toInt, Int64.ofInt_toInt] at e
      exact e)
  | 3, h => exact xd_ex_l h ha hb (P := fun r => ∃ z, xv_semL 3 x y = some z ∧ xd_g r (.long z)) (xd_i64_ok (o := 3))
  | 4, h => exact xd_ex_l h ha hb (P := fun r => ∃ z, xv_semL 4 x y = some z ∧ xd_g r (.long z)) (xd_i64_ok (o := 4))
  | 5, h => exact xd_ex_l h ha hb (P := fun r => ∃ z, xv_semL 5 x y = some z ∧ xd_g r (.long z)) (fun r h => by
      unfold xd_divl at h
      cases h0 : xd_is0 y.toInt <;> simp only [h0, cond_true, cond_false, reduceCtorEq] at h
      obtain ⟨rfl, e⟩ := xd_r64_ok h
      refine ⟨x / y, by simp only [xv_semL, xd_eqz64 (xd_is0_f h0), if_false], ?_⟩
      rw [xd_div64] at e
      exact e)
  | 6, h => exact xd_ex_l h ha hb (P := fun r => ∃ z, xv_semL 6 x y = some z ∧ xd_g r (.long z)) (fun r h => by
      unfold xd_reml at h
      cases h0 : xd_is0 y.toInt <;> simp only [h0, cond_true, cond_false, reduceCtorEq] at h
      obtain ⟨rfl, e⟩ := xd_r64_ok h
      refine ⟨x - x / y * y, by simp only [xv_semL, xd_eqz64 (xd_is0_f h0), if_false], ?_⟩
      rw [xd_rem64] at e
      exact e)
  | 7, h => exact xd_ex_l h ha hb (P := fun r => ∃ z, xv_semL 7 x y = some z ∧ xd_g r (.long z)) (fun r h => by
      obtain ⟨rfl, e⟩ := xd_r64_ok h
      refine ⟨-x, rfl, ?_⟩
      rw [show Int.neg x.toInt = -x.toInt from rfl, Int64.ofInt_neg, Int64.ofInt_toInt] at e
      exact e)
  | 8, h => cases h
  | 9, h => cases h
  | n + 10, h => omega
theorem xd_cq_i {f : Int → Int → Bool} {q : Int → Int → Int → Int → Option Bool} {a b : xd_V} {t : Bool} {x y : Int32} {P : Bool → Prop} (h : xd_c f q a b = some t) (ha : xd_g a (.int x)) (hb : xd_g b (.int y)) (hf : P (f x.toInt y.toInt)) (hq : ∀ al ah bl bh : Int, al ≤ x.toInt → x.toInt ≤ ah → bl ≤ y.toInt → y.toInt ≤ bh → q al ah bl bh = some t → P t) : P t := by
  have hbd : ∀ {v : xd_V} {z : Int32}, xd_g v (.int z) → (xd_b v).1 ≤ z.toInt ∧ z.toInt ≤ (xd_b v).2 := by
    intro v z hz
    cases v with
    | inl n =>
      have hz : z.toInt = n := hz
      exact ⟨by show n ≤ _; omega, by show _ ≤ n; omega⟩
    | inr q =>
      obtain ⟨lo, hi⟩ := q
      simp only [xd_b]
      cases hc : xd_le lo hi
      · have h1 := z.le_toInt
        have h2 := z.toInt_lt
        simp only [cond_false]
        exact ⟨by show (-2147483648 : Int) ≤ _; omega, by show _ ≤ (2147483647 : Int); omega⟩
      · simp only [cond_true]
        exact hz.1 hc
  unfold xd_c at h
  split at h
  · cases Option.some.inj h
    rw [← show x.toInt = _ from ha, ← show y.toInt = _ from hb]
    exact hf
  · exact hq _ _ _ _ (hbd ha).1 (hbd ha).2 (hbd hb).1 (hbd hb).2 h
theorem xd_cmpI (o : Nat) (a b : xd_V) (t : Bool) (x y : Int32) (h : xd_cmp o a b = some t) (ha : xd_g a (.int x)) (hb : xd_g b (.int y)) : xv_cmp o x y = t := by
  have key : ∀ {f : Int → Int → Bool} {q : Int → Int → Int → Int → Option Bool} {P : Prop} [Decidable P], xd_c f q a b = some t → (f x.toInt y.toInt = true ↔ P) → (∀ al ah bl bh : Int, al ≤ x.toInt → x.toInt ≤ ah → bl ≤ y.toInt → y.toInt ≤ bh → q al ah bl bh = some t → (t = true ↔ P)) → decide P = t := by
    intro f q P _ h h1 h2
    have h3 : t = true ↔ P := xd_cq_i (P := fun t => t = true ↔ P) h ha hb h1 h2
    cases t
    · exact decide_eq_false (fun p => by cases h3.mpr p)
    · exact decide_eq_true (h3.mp rfl)
  have two : ∀ {c1 c2 : Bool} {p q : Bool}, (bif c1 then some p else bif c2 then some q else none) = some t → (c1 = true ∧ t = p) ∨ (c2 = true ∧ t = q) := by
    intro c1 c2 p q h
    cases c1 <;> cases c2 <;> simp at h
    · exact Or.inr ⟨rfl, h.symm⟩
    · exact Or.inl ⟨rfl, h.symm⟩
    · exact Or.inl ⟨rfl, h.symm⟩
  have one : ∀ {c1 p : Bool}, (bif c1 then some p else none) = some t → c1 = true ∧ t = p := by
    intro c1 p h
    cases c1 <;> simp at h
    exact ⟨rfl, h.symm⟩
  have nle : ∀ {p q : Int}, (!xd_le p q) = true → q < p := fun h => (xd_le_false _ _).mp (by simpa using h)
  have out : ∀ {al ah bl bh : Int}, (!xd_le bl ah || !xd_le al bh) = true → al ≤ x.toInt → x.toInt ≤ ah → bl ≤ y.toInt → y.toInt ≤ bh → x ≠ y := by
    intro al ah bl bh hc h1 h2 h3 h4 e
    rw [e] at h1 h2
    rcases Bool.or_eq_true_iff.mp hc with q | q
    · have := nle q; omega
    · have := nle q; omega
  have eqx : xd_eqx x.toInt y.toInt = true ↔ x = y := by
    unfold xd_eqx
    rw [Bool.and_eq_true_iff, xd_le_iff, xd_le_iff, ← Int32.toInt_inj]
    omega
  match o, h with
  | 0, h => exact key h eqx (fun al ah bl bh h1 h2 h3 h4 h => by
      obtain ⟨hc, rfl⟩ := one h
      exact ⟨fun q => (by cases q), fun q => absurd q (out hc h1 h2 h3 h4)⟩)
  | 1, h =>
    have h5 := key (P := ¬ x = y) h (by rw [Bool.not_eq_true']; constructor
                                        · intro q e; rw [eqx.mpr e] at q; cases q
                                        · intro q; cases hq : xd_eqx x.toInt y.toInt
                                          · rfl
                                          · exact absurd (eqx.mp hq) q) (fun al ah bl bh h1 h2 h3 h4 h => by
      obtain ⟨hc, rfl⟩ := one h
      exact ⟨fun _ => out hc h1 h2 h3 h4, fun _ => rfl⟩)
    rw [← h5]
    show (!decide (x = y)) = _
    simp
  | 2, h => exact key h (by rw [Int32.lt_iff_toInt_lt, Bool.not_eq_true', xd_le_false]) (fun al ah bl bh h1 h2 h3 h4 h => by
      rcases two h with ⟨hc, rfl⟩ | ⟨hc, rfl⟩
      · have := (xd_le_iff _ _).mp hc
        exact ⟨fun q => (by cases q), fun q => by have := Int32.lt_iff_toInt_lt.mp q; omega⟩
      · have := nle hc
        exact ⟨fun _ => Int32.lt_iff_toInt_lt.mpr (by omega), fun _ => rfl⟩)
  | 3, h => exact key h (by rw [Int32.le_iff_toInt_le, xd_le_iff]) (fun al ah bl bh h1 h2 h3 h4 h => by
      rcases two h with ⟨hc, rfl⟩ | ⟨hc, rfl⟩
      · have := (xd_le_iff _ _).mp hc
        exact ⟨fun _ => Int32.le_iff_toInt_le.mpr (by omega), fun _ => rfl⟩
      · have := nle hc
        exact ⟨fun q => (by cases q), fun q => by have := Int32.le_iff_toInt_le.mp q; omega⟩)
  | 4, h => exact key h (by rw [Int32.lt_iff_toInt_lt, Bool.not_eq_true', xd_le_false]) (fun al ah bl bh h1 h2 h3 h4 h => by
      rcases two h with ⟨hc, rfl⟩ | ⟨hc, rfl⟩
      · have := (xd_le_iff _ _).mp hc
        exact ⟨fun q => (by cases q), fun q => by have := Int32.lt_iff_toInt_lt.mp q; omega⟩
      · have := nle hc
        exact ⟨fun _ => Int32.lt_iff_toInt_lt.mpr (by omega), fun _ => rfl⟩)
  | n + 5, h => exact key (q := xd_leq) (f := xd_le) h (by rw [Int32.le_iff_toInt_le, xd_le_iff]) (fun al ah bl bh h1 h2 h3 h4 h => by
      rcases two h with ⟨hc, rfl⟩ | ⟨hc, rfl⟩
      · have := (xd_le_iff _ _).mp hc
        exact ⟨fun _ => Int32.le_iff_toInt_le.mpr (by omega), fun _ => rfl⟩
      · have := nle hc
        exact ⟨fun q => (by cases q), fun q => by have := Int32.le_iff_toInt_le.mp q; omega⟩)
theorem xd_ok : xv_ok xd_D xd_g := by
  refine ⟨fun _ => rfl, fun _ => rfl, xd_opI, xd_opL, ?_, ?_, ?_, ?_, ?_, xd_cmpI, ?_, ?_⟩
  · intro a b r x y h ha hb
    have h : xd_ex (fun a b => some (.inl (Int64.ofInt a <<< ((Int32.ofInt b).toInt64 &&& 63)).toInt)) none a b = some r := h
    unfold xd_ex at h
    split at h
    · rw [← show x.toInt = _ from ha, ← show y.toInt = _ from hb] at h
      dsimp only at h
      rw [Int64.ofInt_toInt, Int32.ofInt_toInt] at h
      cases Option.some.inj h
      exact rfl
    · cases h
  · intro a b r x y h ha hb
    have h : xd_ex (fun a b => some (.inl (Int64.ofInt a >>> ((Int32.ofInt b).toInt64 &&& 63)).toInt)) none a b = some r := h
    unfold xd_ex at h
    split at h
    · rw [← show x.toInt = _ from ha, ← show y.toInt = _ from hb] at h
      dsimp only at h
      rw [Int64.ofInt_toInt, Int32.ofInt_toInt] at h
      cases Option.some.inj h
      exact rfl
    · cases h
  · intro a b r x h ha
    have h : xd_ex (fun a _ => some (.inl a)) none a b = some r := h
    unfold xd_ex at h
    split at h
    · rw [← show x.toInt = _ from ha] at h
      cases Option.some.inj h
      show x.toInt64.toInt = _
      exact Int32.toInt_toInt64 x
    · cases h
  · intro a b r x h ha
    have h : xd_ex (fun a _ => xd_r32 a) none a b = some r := h
    unfold xd_ex at h
    split at h
    · rw [← show x.toInt = _ from ha] at h
      obtain ⟨rfl, e⟩ := xd_r32_ok h
      show x.toInt32.toInt = _
      rw [Int32.toInt_ofInt] at e
      rw [Int64.toInt_toInt32]
      exact e
    · cases h
  · intro a b r x y h ha hb
    have h : xd_ex xd_lcmp none a b = some r := h
    refine xd_ex_l h ha hb (P := fun r => xd_g r (.int (lg_cmp x y))) (fun r h => ?_)
    unfold xd_lcmp at h
    unfold lg_cmp
    cases h1 : xd_le x.toInt y.toInt <;> simp only [h1, cond_true, cond_false] at h
    · cases Option.some.inj h
      have g1 := (xd_le_false _ _).mp h1
      rw [if_pos (show x > y from Int64.lt_iff_toInt_lt.mpr g1)]
      rfl
    · have g1 := (xd_le_iff _ _).mp h1
      have n1 : ¬ x > y := fun q => by have := Int64.lt_iff_toInt_lt.mp q; omega
      rw [if_neg n1]
      cases h2 : xd_le y.toInt x.toInt <;> simp only [h2, cond_true, cond_false] at h
      · cases Option.some.inj h
        have g2 := (xd_le_false _ _).mp h2
        rw [if_neg (fun q => by rw [q] at g2; omega)]
        rfl
      · cases Option.some.inj h
        have g2 := (xd_le_iff _ _).mp h2
        rw [if_pos (Int64.toInt_inj.mp (by omega))]
        rfl
  · intro a n x h ha
    cases a with
    | inl m =>
      cases Option.some.inj (show some m = some n from h)
      exact ha
    | inr q => cases h
  · intro a x h ha
    cases a with
    | inl m =>
      have h : (xd_le 0 m && xd_le m 1) = true := h
      obtain ⟨h1, h2⟩ := Bool.and_eq_true_iff.mp h
      have g1 := (xd_le_iff _ _).mp h1
      have g2 := (xd_le_iff _ _).mp h2
      have ha : x.toInt = m := ha
      by_cases e : m = 0
      · exact Or.inl (Int32.toInt_inj.mp (by rw [ha, e]; rfl))
      · exact Or.inr (Int32.toInt_inj.mp (by rw [ha, show m = 1 by omega]; rfl))
    | inr q => cases h
end
section
/-! THE TABLES ARE RIGHT, by checks that are worked out -/
def xw_T (cl : List vw_C) (c : Nat) : u_T := match cl[c]? with
  | some r => r.2.1
  | none => fun _ => ("", "", "", false)
def xw_C (cl : List vw_C) (c : Nat) : String := match cl[c]? with
  | some r => r.1
  | none => ""
def xw_y (ys : List xm_Z) (j : Nat) : MethodName := match ys[j]? with
  | some z => z.1
  | none => ⟨"", "", ""⟩
/-- the words that a class's links want -/
def xw_F (cl : List vw_C) (own : String) (K : xv_K) : List Jvm.Cond := K.1.map fun q => Jvm.Cond.fieldLink own q.1 (xw_T cl q.2.1 q.2.2).1 (xw_T cl q.2.1 q.2.2).2.1 (xw_T cl q.2.1 q.2.2).2.2.1
def xw_N (cl : List vw_C) (at_ : List Nat) (own : String) (K : xv_K) : List Jvm.Cond := (K.2.2.1.filter fun q => Nat.blt q.2 2000).map fun q => bif Nat.blt q.2 1000 then Jvm.Cond.classLink own q.1 (xw_C cl q.2) else Jvm.Cond.classLink own (q.1 - 70000) (xw_C cl (at_.getD (q.2 - 1000) 999))
def xw_I (own : String) (K : xv_K) : List Jvm.Cond := K.2.2.2.1.map fun q => Jvm.Cond.constant own q.1 q.2
def xw_L (own : String) (K : xv_K) : List Jvm.Cond := K.2.2.2.2.map fun q => Jvm.Cond.constantLong own q.1 q.2
def xw_M (ys : List xm_Z) (own : String) (K : xv_K) : List Jvm.Cond := (K.2.1.filter fun q => !Nat.beq q.2.1 2).map fun q => Jvm.Cond.methodLink own q.1 (bif Nat.beq q.2.1 4 then xk_y else bif Nat.beq q.2.1 5 then Lib.objectInit else bif Nat.beq q.2.1 6 then arraycopyName else xw_y ys q.2.2)
def xw_K (cl : List vw_C) (at_ : List Nat) (ys : List xm_Z) (own : String) (K : xv_K) : List Jvm.Cond := xw_F cl own K ++ (xw_N cl at_ own K ++ (xw_I own K ++ (xw_L own K ++ xw_M ys own K)))
/-- the words that a method wants; kd: 0 virtual, 1 a constructor, 3 static -/
def xw_Y (z : xm_Z) (kd : Nat) : List Jvm.Cond := Jvm.Cond.initialized z.1.cls :: (bif Nat.beq kd 3 then [Jvm.Cond.static z.1] else bif Nat.beq kd 1 then [Jvm.Cond.instanceMethod z.1] else [Jvm.Cond.instanceMethod z.1, Jvm.Cond.selects z.1.cls z.1 z.1])
def xw_fOk (cl : List vw_C) (ct : List (List (FieldType × Bool))) (q : Nat × Nat × Nat) : Bool := match ct[q.2.1]?, cl[q.2.1]? with
  | some fs, some r => Nat.blt q.2.2 fs.length && Nat.beq r.2.2 fs.length
  | _, _ => false
def xw_nOk (cl : List vw_C) (at_ : List Nat) (sct : List (List Int32)) (strs : List (String × Nat × String × Nat)) (own : String) (q : Nat × Nat) : Bool := bif Nat.blt q.2 1000 then cl[q.2]?.isSome else bif Nat.blt q.2 1003 then (match at_[q.2 - 1000]? with
    | some cj => cl[cj]?.isSome
    | none => false) else Nat.ble 2000 q.2 && Nat.blt (q.2 - 2000) sct.length && strs.any (fun r => decide (r.1 = own) && Nat.beq r.2.1 q.1 && Nat.beq r.2.2.2 (q.2 - 2000))
def xw_mOk (nest : List (String × Nat × MethodName × String)) (ys : List xm_Z) (kds : List Nat) (own : String) (q : Nat × Nat × Nat) : Bool := bif Nat.ble 4 q.2.1 then Nat.ble q.2.1 6 else match ys[q.2.2]?, kds[q.2.2]? with
  | some z, some kd => bif Nat.beq q.2.1 0 then Nat.beq kd 0 else bif Nat.beq q.2.1 3 then Nat.beq kd 3 else Nat.beq kd 1 && z.2.2.isNone && decide (z.1.name = "<init>") && (bif Nat.beq q.2.1 1 then true else nest.any (fun r => decide (r.1 = own) && Nat.beq r.2.1 q.1 && decide (r.2.2.1 = z.1)))
  | _, _ => false
/-- a class's links stand -/
def xw_kOk (nest : List (String × Nat × MethodName × String)) (cl : List vw_C) (ct : List (List (FieldType × Bool))) (at_ : List Nat) (sct : List (List Int32)) (strs : List (String × Nat × String × Nat)) (ys : List xm_Z) (kds : List Nat) (own : String) (K : xv_K) : Bool :=
  K.1.all (xw_fOk cl ct) && (K.2.2.1.all (xw_nOk cl at_ sct strs own) && K.2.1.all (xw_mOk nest ys kds own))
def xw_dOk (cc : ByteArray) (q : xv_I) : Bool := match decode cc q.1 with
  | .ok r => decide (r.1 = q.2) && (xv_sw q.2 || Nat.beq r.2 (xv_len q.2))
  | _ => false
theorem xv_find_mem {α : Type} : ∀ {l : List (Nat × α)} {i : Nat} {a : α}, xv_find l i = some a → (i, a) ∈ l
  | [], _, _, h => by cases h
  | q :: l, i, a, h => by
    simp only [xv_find] at h
    cases hc : Nat.beq q.1 i <;> simp only [hc, cond_true, cond_false] at h
    · exact List.mem_cons_of_mem _ (xv_find_mem h)
    · cases Option.some.inj h
      rw [← Nat.eq_of_beq_eq_true hc]
      exact List.mem_cons_self
section XW1
variable {tb : List Jvm.Cond} {nest : List (String × Nat × MethodName × String)} {cl : List vw_C} {ct : List (List (FieldType × Bool))} {at_ : List Nat} {sct : List (List Int32)} {strs : List (String × Nat × String × Nat)} {ys : List xm_Z} {kds : List Nat} {own : String} {K : xv_K}
theorem xw_fld (hk : ∀ w ∈ xw_K cl at_ ys own K, w ∈ tb) (h : xw_kOk nest cl ct at_ sct strs ys kds own K = true) : xc_fld tb cl ct own K := by
  intro i ck hck
  have hm := xv_find_mem hck
  have h1 := List.all_eq_true.mp (Bool.and_eq_true_iff.mp h).1 _ hm
  have hw : Jvm.Cond.fieldLink own i (xw_T cl ck.1 ck.2).1 (xw_T cl ck.1 ck.2).2.1 (xw_T cl ck.1 ck.2).2.2.1 ∈ tb := hk _ (List.mem_append_left _ (List.mem_map.mpr ⟨_, hm, rfl⟩))
  unfold xw_fOk at h1
  dsimp only at h1
  split at h1
  · rename_i fs r hfs hr
    obtain ⟨g1, g2⟩ := Bool.and_eq_true_iff.mp h1
    obtain ⟨C, T, N⟩ := r
    have e2 : N = fs.length := Nat.eq_of_beq_eq_true g2
    subst e2
    have hlt : ck.2 < fs.length := Nat.le_of_ble_eq_true g1
    have hT : xw_T cl ck.1 = T := by simp only [xw_T, hr]
    rw [hT] at hw
    exact ⟨fs, fs[ck.2], C, T, hfs, List.getElem?_eq_getElem hlt, hr, hw⟩
  · cases h1
theorem xw_new (hk : ∀ w ∈ xw_K cl at_ ys own K, w ∈ tb) (h : xw_kOk nest cl ct at_ sct strs ys kds own K = true) : xc_new tb cl at_ own K := by
  intro i ci hci
  have hm := xv_find_mem hci
  have h1 := List.all_eq_true.mp (Bool.and_eq_true_iff.mp (Bool.and_eq_true_iff.mp h).2).1 _ hm
  have hw : ∀ w, w ∈ xw_N cl at_ own K → w ∈ tb := fun w hw => hk _ (List.mem_append_right _ (List.mem_append_left _ hw))
  unfold xw_nOk at h1
  dsimp only at h1
  refine ⟨fun hlt => ?_, fun hge hlt => ?_⟩
  · have e1 : Nat.blt ci 1000 = true := Nat.ble_eq_true_of_le hlt
    have e2 : Nat.blt ci 2000 = true := Nat.ble_eq_true_of_le (by omega)
    rw [e1, cond_true] at h1
    cases hr : cl[ci]? with
    | none => rw [hr] at h1; cases h1
    | some r =>
      obtain ⟨C, T, N⟩ := r
      refine ⟨C, T, N, rfl, hw _ (List.mem_map.mpr ⟨(i, ci), List.mem_filter.mpr ⟨hm, e2⟩, ?_⟩)⟩
      simp only [e1, cond_true, xw_C, hr]
  · have e1 : Nat.blt ci 1000 = false := by
      cases e : Nat.blt ci 1000
      · rfl
      · have : ci < 1000 := Nat.le_of_ble_eq_true e
        omega
    have e2 : Nat.blt ci 2000 = true := Nat.ble_eq_true_of_le (by omega)
    have e3 : Nat.blt ci 1003 = true := Nat.ble_eq_true_of_le hlt
    rw [e1, e3, cond_false, cond_true] at h1
    cases ha : at_[ci - 1000]? with
    | none => rw [ha] at h1; cases h1
    | some cj =>
      rw [ha] at h1
      dsimp only at h1
      cases hr : cl[cj]? with
      | none => rw [hr] at h1; cases h1
      | some r =>
        obtain ⟨C, T, N⟩ := r
        refine ⟨cj, C, T, N, rfl, hr, hw _ (List.mem_map.mpr ⟨(i, ci), List.mem_filter.mpr ⟨hm, e2⟩, ?_⟩)⟩
        simp only [e1, cond_false, xw_C, List.getD_eq_getElem?_getD, ha, Option.getD_some, hr]
theorem xw_cst (hk : ∀ w ∈ xw_K cl at_ ys own K, w ∈ tb) : xc_cst tb own K :=
  ⟨fun i v h => hk _ (List.mem_append_right _ (List.mem_append_right _ (List.mem_append_left _ (List.mem_map.mpr ⟨_, xv_find_mem h, rfl⟩)))),
   fun i v h => hk _ (List.mem_append_right _ (List.mem_append_right _ (List.mem_append_right _ (List.mem_append_left _ (List.mem_map.mpr ⟨_, xv_find_mem h, rfl⟩)))))⟩
theorem xw_str (h : xw_kOk nest cl ct at_ sct strs ys kds own K = true) : xc_str sct strs own K := by
  intro i n hn h2000
  have hm := xv_find_mem hn
  have h1 := List.all_eq_true.mp (Bool.and_eq_true_iff.mp (Bool.and_eq_true_iff.mp h).2).1 _ hm
  unfold xw_nOk at h1
  dsimp only at h1
  have e1 : Nat.blt n 1000 = false := by
    cases e : Nat.blt n 1000
    · rfl
    · have : n < 1000 := Nat.le_of_ble_eq_true e
      omega
  have e3 : Nat.blt n 1003 = false := by
    cases e : Nat.blt n 1003
    · rfl
    · have : n < 1003 := Nat.le_of_ble_eq_true e
      omega
  rw [e1, e3, cond_false, cond_false] at h1
  obtain ⟨g1, g2⟩ := Bool.and_eq_true_iff.mp h1
  obtain ⟨g3, g4⟩ := Bool.and_eq_true_iff.mp g1
  obtain ⟨r, hr, g5⟩ := List.any_eq_true.mp g2
  obtain ⟨g6, g7⟩ := Bool.and_eq_true_iff.mp g5
  obtain ⟨g8, g9⟩ := Bool.and_eq_true_iff.mp g6
  obtain ⟨a, b, tx, m⟩ := r
  refine ⟨Nat.le_of_ble_eq_true g4, tx, ?_⟩
  have e5 : a = own := of_decide_eq_true g8
  have e6 : b = i := Nat.eq_of_beq_eq_true g9
  have e7 : m = n - 2000 := Nat.eq_of_beq_eq_true g7
  rw [← e5, ← e6, ← e7]
  exact hr
theorem xw_mth (hk : ∀ w ∈ xw_K cl at_ ys own K, w ∈ tb) (h : xw_kOk nest cl ct at_ sct strs ys kds own K = true) (hY : ∀ (j : Nat) (z : xm_Z) (kd : Nat), ys[j]? = some z → kds[j]? = some kd → (kd = 0 → Jvm.Cond.instanceMethod z.1 ∈ tb ∧ Jvm.Cond.selects z.1.cls z.1 z.1 ∈ tb) ∧ (kd = 1 → Jvm.Cond.instanceMethod z.1 ∈ tb) ∧ (kd = 3 → Jvm.Cond.static z.1 ∈ tb)) : xc_mth tb nest ys own K := by
  intro i k j hj
  have hm := xv_find_mem hj
  have h1 := List.all_eq_true.mp (Bool.and_eq_true_iff.mp (Bool.and_eq_true_iff.mp h).2).2 _ hm
  have hw : ∀ w, w ∈ xw_M ys own K → w ∈ tb := fun w hw => hk _ (List.mem_append_right _ (List.mem_append_right _ (List.mem_append_right _ (List.mem_append_right _ hw))))
  have hl : ¬ k = 2 → Jvm.Cond.methodLink own i (bif Nat.beq k 4 then xk_y else bif Nat.beq k 5 then Lib.objectInit else bif Nat.beq k 6 then arraycopyName else xw_y ys j) ∈ tb := fun hne => hw _ (List.mem_map.mpr ⟨(i, k, j), List.mem_filter.mpr ⟨hm, by rw [xf_nbeq (b := 2) hne]; rfl⟩, rfl⟩)
  unfold xw_mOk at h1
  dsimp only at h1
  have small : ∀ {k0 : Nat}, k = k0 → k0 < 4 → ∃ z kd, ys[j]? = some z ∧ kds[j]? = some kd ∧ (bif Nat.beq k 0 then Nat.beq kd 0 else bif Nat.beq k 3 then Nat.beq kd 3 else Nat.beq kd 1 && z.2.2.isNone && decide (z.1.name = "<init>") && (bif Nat.beq k 1 then true else nest.any (fun r => decide (r.1 = own) && Nat.beq r.2.1 i && decide (r.2.2.1 = z.1)))) = true := by
    intro k0 e hlt
    have e4 : Nat.ble 4 k = false := by
      cases e5 : Nat.ble 4 k
      · rfl
      · have := Nat.le_of_ble_eq_true e5
        omega
    rw [e4, cond_false] at h1
    split at h1
    · rename_i z kd hz hkd
      exact ⟨z, kd, hz, hkd, h1⟩
    · cases h1
  have yw : ∀ {z : xm_Z}, ys[j]? = some z → xw_y ys j = z.1 := fun hz => by simp only [xw_y, hz]
  refine ⟨fun e => ?_, fun e => ?_, fun e => ?_, fun e => ?_, fun e => ?_, fun e => ?_, fun e => ?_⟩
  · obtain ⟨z, kd, hz, hkd, h2⟩ := small e (by decide)
    subst e
    have hkd0 : kd = 0 := Nat.eq_of_beq_eq_true h2
    have hl2 := hl (by decide)
    rw [show Nat.beq 0 4 = false from rfl, show Nat.beq 0 5 = false from rfl, show Nat.beq 0 6 = false from rfl, cond_false, cond_false, cond_false, yw hz] at hl2
    exact ⟨z, hz, hl2, ((hY j z kd hz hkd).1 hkd0).1, ((hY j z kd hz hkd).1 hkd0).2⟩
  · obtain ⟨z, kd, hz, hkd, h2⟩ := small e (by decide)
    subst e
    have hl2 := hl (by decide)
    rw [show Nat.beq 1 4 = false from rfl, show Nat.beq 1 5 = false from rfl, show Nat.beq 1 6 = false from rfl, cond_false, cond_false, cond_false, yw hz] at hl2
    rw [show Nat.beq 1 0 = false from rfl, show Nat.beq 1 3 = false from rfl, show Nat.beq 1 1 = true from rfl, cond_false, cond_false, cond_true, Bool.and_true] at h2
    obtain ⟨g1, g2⟩ := Bool.and_eq_true_iff.mp h2
    obtain ⟨g3, g4⟩ := Bool.and_eq_true_iff.mp g1
    exact ⟨z, hz, hl2, (hY j z kd hz hkd).2.1 (Nat.eq_of_beq_eq_true g3), of_decide_eq_true g2, Option.isNone_iff_eq_none.mp g4⟩
  · obtain ⟨z, kd, hz, hkd, h2⟩ := small e (by decide)
    subst e
    rw [show Nat.beq 2 0 = false from rfl, show Nat.beq 2 3 = false from rfl, show Nat.beq 2 1 = false from rfl, cond_false, cond_false, cond_false] at h2
    obtain ⟨g0, g5⟩ := Bool.and_eq_true_iff.mp h2
    obtain ⟨g1, g2⟩ := Bool.and_eq_true_iff.mp g0
    obtain ⟨g3, g4⟩ := Bool.and_eq_true_iff.mp g1
    obtain ⟨r, hr, g6⟩ := List.any_eq_true.mp g5
    obtain ⟨g7, g8⟩ := Bool.and_eq_true_iff.mp g6
    obtain ⟨g9, g10⟩ := Bool.and_eq_true_iff.mp g7
    obtain ⟨a, b, m, host⟩ := r
    have e5 : a = own := of_decide_eq_true g9
    have e6 : b = i := Nat.eq_of_beq_eq_true g10
    have e7 : m = z.1 := of_decide_eq_true g8
    refine ⟨z, host, hz, ?_, (hY j z kd hz hkd).2.1 (Nat.eq_of_beq_eq_true g3), of_decide_eq_true g2, Option.isNone_iff_eq_none.mp g4⟩
    rw [← e5, ← e6, ← e7]
    exact hr
  · obtain ⟨z, kd, hz, hkd, h2⟩ := small e (by decide)
    subst e
    have hl2 := hl (by decide)
    rw [show Nat.beq 3 4 = false from rfl, show Nat.beq 3 5 = false from rfl, show Nat.beq 3 6 = false from rfl, cond_false, cond_false, cond_false, yw hz] at hl2
    exact ⟨z, hz, hl2, (hY j z kd hz hkd).2.2 (Nat.eq_of_beq_eq_true h2)⟩
  · subst e
    exact hl (by decide)
  · subst e
    exact hl (by decide)
  · subst e
    exact hl (by decide)
/-- a method's own part -/
def xw_oOk (cl : List vw_C) (y : xv_N) (z : xm_Z) : Bool :=
  plainName z.1.cls && decide (z.1.cls ≠ "java/lang/invoke/MethodHandle") && decide (z.1.cls ≠ "java/lang/invoke/VarHandle") && decide ((parseMethodDescriptor z.1.desc).map (fun d => d.parameters.length) = some y.2.1.1) && Nat.ble y.2.1.2.1 25 && decide (xv_ret y.2.1.2.2.1 = z.2.2) && (!Nat.beq y.2.1.2.2.2 1 || decide (z.1.name = "<init>")) && (match cl[y.1.1]? with
    | some r => decide (r.1 = z.1.cls)
    | none => true)
theorem xw_bod {y : xv_N} {z : xm_Z} (hk : ∀ w ∈ xw_K cl at_ ys z.1.cls y.1.2, w ∈ tb) (h : xw_kOk nest cl ct at_ sct strs ys kds z.1.cls y.1.2 = true) (hY : ∀ (j : Nat) (z : xm_Z) (kd : Nat), ys[j]? = some z → kds[j]? = some kd → (kd = 0 → Jvm.Cond.instanceMethod z.1 ∈ tb ∧ Jvm.Cond.selects z.1.cls z.1 z.1 ∈ tb) ∧ (kd = 1 → Jvm.Cond.instanceMethod z.1 ∈ tb) ∧ (kd = 3 → Jvm.Cond.static z.1 ∈ tb)) (ho : xw_oOk cl y z = true) (hd : y.2.2.2.all (xw_dOk z.2.1) = true) : xc_bod tb nest cl ct at_ sct strs ys y z := by
  simp only [xw_oOk, Bool.and_eq_true_iff] at ho
  obtain ⟨⟨⟨⟨⟨⟨⟨o1, o2⟩, o3⟩, o4⟩, o5⟩, o6⟩, o7⟩, o8⟩ := ho
  refine ⟨of_decide_eq_true o6, fun e => ?_, fun C T N hr => ?_, fun q hq => ?_, xw_fld hk h, xw_new hk h, xw_cst hk, xw_str h, xw_mth hk h hY⟩
  · rw [e, show Nat.beq 1 1 = true from rfl, Bool.not_true, Bool.false_or] at o7
    exact of_decide_eq_true o7
  · rw [hr] at o8
    exact of_decide_eq_true o8
  · have h1 := List.all_eq_true.mp hd q hq
    unfold xw_dOk at h1
    split at h1
    · rename_i r hr
      obtain ⟨g1, g2⟩ := Bool.and_eq_true_iff.mp h1
      obtain ⟨i, len⟩ := r
      have e : i = q.2 := of_decide_eq_true g1
      subst e
      refine ⟨len, hr, ?_⟩
      rcases Bool.or_eq_true_iff.mp g2 with g | g
      · exact Or.inl g
      · exact Or.inr (Nat.eq_of_beq_eq_true g)
    · cases h1
theorem xw_one {y : xv_N} {z : xm_Z} {kd : Nat} (hc : Jvm.Cond.code z.1 z.2.1 y.2.1.2.1 z.2.2 ∈ tb) (hy : ∀ w ∈ xw_Y z kd, w ∈ tb) (hk : ∀ w ∈ xw_K cl at_ ys z.1.cls y.1.2, w ∈ tb) (h : xw_kOk nest cl ct at_ sct strs ys kds z.1.cls y.1.2 = true) (hY : ∀ (j : Nat) (z : xm_Z) (kd : Nat), ys[j]? = some z → kds[j]? = some kd → (kd = 0 → Jvm.Cond.instanceMethod z.1 ∈ tb ∧ Jvm.Cond.selects z.1.cls z.1 z.1 ∈ tb) ∧ (kd = 1 → Jvm.Cond.instanceMethod z.1 ∈ tb) ∧ (kd = 3 → Jvm.Cond.static z.1 ∈ tb)) (ho : xw_oOk cl y z = true) (hd : y.2.2.2.all (xw_dOk z.2.1) = true) : xc_one tb nest cl ct at_ sct strs ys y z := by
  have hb := xw_bod hk h hY ho hd
  simp only [xw_oOk, Bool.and_eq_true_iff] at ho
  obtain ⟨⟨⟨⟨⟨⟨⟨o1, o2⟩, o3⟩, o4⟩, o5⟩, o6⟩, o7⟩, o8⟩ := ho
  exact ⟨o1, hc, hy _ List.mem_cons_self, ⟨of_decide_eq_true o2, of_decide_eq_true o3, of_decide_eq_true o4⟩, Nat.le_of_ble_eq_true o5, hb⟩
theorem xw_kind {z : xm_Z} {kd : Nat} (hy : ∀ w ∈ xw_Y z kd, w ∈ tb) : (kd = 0 → Jvm.Cond.instanceMethod z.1 ∈ tb ∧ Jvm.Cond.selects z.1.cls z.1 z.1 ∈ tb) ∧ (kd = 1 → Jvm.Cond.instanceMethod z.1 ∈ tb) ∧ (kd = 3 → Jvm.Cond.static z.1 ∈ tb) := by
  refine ⟨fun e => ?_, fun e => ?_, fun e => ?_⟩
  · subst e
    exact ⟨hy _ (List.mem_cons_of_mem _ List.mem_cons_self), hy _ (List.mem_cons_of_mem _ (List.mem_cons_of_mem _ List.mem_cons_self))⟩
  · subst e
    exact hy _ (List.mem_cons_of_mem _ List.mem_cons_self)
  · subst e
    exact hy _ (List.mem_cons_of_mem _ List.mem_cons_self)
end XW1
end
section
/-- a private method of a class that the tables say can be made, by its rows of tables_1 -/
def lw_okq (q : MethodName × Nat) : Prop := (q.1.cls ≠ "java/lang/invoke/MethodHandle" ∧ q.1.cls ≠ "java/lang/invoke/VarHandle") ∧ Cond.instantiable q.1.cls q.2 ∈ tables_1 ∧ Cond.privateMethod q.1 ∈ tables_1 ∧ Cond.instanceMethod q.1 ∈ tables_1
theorem lw_p0 : lw_okq (⟨"EggGarden$Tokens", "readWord", "()V"⟩, 7) := ⟨⟨by decide +kernel, by decide +kernel⟩, List.mem_of_getElem? (i := 310) (by decide +kernel), List.mem_of_getElem? (i := 615) (by decide +kernel), List.mem_of_getElem? (i := 616) (by decide +kernel)⟩
theorem lw_p1 : lw_okq (⟨"EggGarden$Tokens", "readDigits", "()V"⟩, 7) := ⟨⟨by decide +kernel, by decide +kernel⟩, List.mem_of_getElem? (i := 310) (by decide +kernel), List.mem_of_getElem? (i := 619) (by decide +kernel), List.mem_of_getElem? (i := 620) (by decide +kernel)⟩
theorem lw_p2 : lw_okq (⟨"EggGarden$Tokens", "lengthenSign", "()V"⟩, 7) := ⟨⟨by decide +kernel, by decide +kernel⟩, List.mem_of_getElem? (i := 310) (by decide +kernel), List.mem_of_getElem? (i := 627) (by decide +kernel), List.mem_of_getElem? (i := 628) (by decide +kernel)⟩
theorem lw_p3 : lw_okq (⟨"EggGarden$Reader", "readLine", "()Z"⟩, 11) := ⟨⟨by decide +kernel, by decide +kernel⟩, List.mem_of_getElem? (i := 34) (by decide +kernel), List.mem_of_getElem? (i := 631) (by decide +kernel), List.mem_of_getElem? (i := 632) (by decide +kernel)⟩
theorem lw_p4 : lw_okq (⟨"EggGarden$Reader", "fail", "(I)Z"⟩, 11) := ⟨⟨by decide +kernel, by decide +kernel⟩, List.mem_of_getElem? (i := 34) (by decide +kernel), List.mem_of_getElem? (i := 639) (by decide +kernel), List.mem_of_getElem? (i := 640) (by decide +kernel)⟩
theorem lw_p5 : lw_okq (⟨"EggGarden$Reader", "readGarden", "()Z"⟩, 11) := ⟨⟨by decide +kernel, by decide +kernel⟩, List.mem_of_getElem? (i := 34) (by decide +kernel), List.mem_of_getElem? (i := 643) (by decide +kernel), List.mem_of_getElem? (i := 644) (by decide +kernel)⟩
theorem lw_p6 : lw_okq (⟨"EggGarden$Reader", "tellOnce", "(I)Z"⟩, 11) := ⟨⟨by decide +kernel, by decide +kernel⟩, List.mem_of_getElem? (i := 34) (by decide +kernel), List.mem_of_getElem? (i := 647) (by decide +kernel), List.mem_of_getElem? (i := 648) (by decide +kernel)⟩
theorem lw_p7 : lw_okq (⟨"EggGarden$Reader", "readNumber", "(II)Z"⟩, 11) := ⟨⟨by decide +kernel, by decide +kernel⟩, List.mem_of_getElem? (i := 34) (by decide +kernel), List.mem_of_getElem? (i := 651) (by decide +kernel), List.mem_of_getElem? (i := 652) (by decide +kernel)⟩
theorem lw_p8 : lw_okq (⟨"EggGarden$Reader", "readEnd", "()Z"⟩, 11) := ⟨⟨by decide +kernel, by decide +kernel⟩, List.mem_of_getElem? (i := 34) (by decide +kernel), List.mem_of_getElem? (i := 656) (by decide +kernel), List.mem_of_getElem? (i := 657) (by decide +kernel)⟩
theorem lw_p9 : lw_okq (⟨"EggGarden$Reader", "readEgg", "()Z"⟩, 11) := ⟨⟨by decide +kernel, by decide +kernel⟩, List.mem_of_getElem? (i := 34) (by decide +kernel), List.mem_of_getElem? (i := 664) (by decide +kernel), List.mem_of_getElem? (i := 665) (by decide +kernel)⟩
theorem lw_p10 : lw_okq (⟨"EggGarden$Reader", "readChoice", "(II)Z"⟩, 11) := ⟨⟨by decide +kernel, by decide +kernel⟩, List.mem_of_getElem? (i := 34) (by decide +kernel), List.mem_of_getElem? (i := 668) (by decide +kernel), List.mem_of_getElem? (i := 669) (by decide +kernel)⟩
theorem lw_p11 : lw_okq (⟨"EggGarden$Reader", "readCell", "()Z"⟩, 11) := ⟨⟨by decide +kernel, by decide +kernel⟩, List.mem_of_getElem? (i := 34) (by decide +kernel), List.mem_of_getElem? (i := 672) (by decide +kernel), List.mem_of_getElem? (i := 673) (by decide +kernel)⟩
theorem lw_p12 : lw_okq (⟨"EggGarden$Reader", "readChild", "()Z"⟩, 11) := ⟨⟨by decide +kernel, by decide +kernel⟩, List.mem_of_getElem? (i := 34) (by decide +kernel), List.mem_of_getElem? (i := 680) (by decide +kernel), List.mem_of_getElem? (i := 681) (by decide +kernel)⟩
theorem lw_p13 : lw_okq (⟨"EggGarden$Reader", "readLaw", "()Z"⟩, 11) := ⟨⟨by decide +kernel, by decide +kernel⟩, List.mem_of_getElem? (i := 34) (by decide +kernel), List.mem_of_getElem? (i := 688) (by decide +kernel), List.mem_of_getElem? (i := 689) (by decide +kernel)⟩
theorem lw_p14 : lw_okq (⟨"EggGarden$Formula", "layWaiting", "(I)V"⟩, 8) := ⟨⟨by decide +kernel, by decide +kernel⟩, List.mem_of_getElem? (i := 385) (by decide +kernel), List.mem_of_getElem? (i := 698) (by decide +kernel), List.mem_of_getElem? (i := 699) (by decide +kernel)⟩
theorem lw_p15 : lw_okq (⟨"EggGarden$Formula", "readPart", "()I"⟩, 8) := ⟨⟨by decide +kernel, by decide +kernel⟩, List.mem_of_getElem? (i := 385) (by decide +kernel), List.mem_of_getElem? (i := 708) (by decide +kernel), List.mem_of_getElem? (i := 709) (by decide +kernel)⟩
def lw_privs_1 : List (MethodName × Nat) := [(⟨"EggGarden$Tokens", "readWord", "()V"⟩, 7), (⟨"EggGarden$Tokens", "readDigits", "()V"⟩, 7), (⟨"EggGarden$Tokens", "lengthenSign", "()V"⟩, 7), (⟨"EggGarden$Reader", "readLine", "()Z"⟩, 11), (⟨"EggGarden$Reader", "fail", "(I)Z"⟩, 11), (⟨"EggGarden$Reader", "readGarden", "()Z"⟩, 11), (⟨"EggGarden$Reader", "tellOnce", "(I)Z"⟩, 11), (⟨"EggGarden$Reader", "readNumber", "(II)Z"⟩, 11), (⟨"EggGarden$Reader", "readEnd", "()Z"⟩, 11), (⟨"EggGarden$Reader", "readEgg", "()Z"⟩, 11), (⟨"EggGarden$Reader", "readChoice", "(II)Z"⟩, 11), (⟨"EggGarden$Reader", "readCell", "()Z"⟩, 11), (⟨"EggGarden$Reader", "readChild", "()Z"⟩, 11), (⟨"EggGarden$Reader", "readLaw", "()Z"⟩, 11), (⟨"EggGarden$Formula", "layWaiting", "(I)V"⟩, 8), (⟨"EggGarden$Formula", "readPart", "()I"⟩, 8)]
theorem lw_r1 : ∀ q ∈ lw_privs_1, lw_okq q := List.forall_mem_cons.mpr ⟨lw_p0, List.forall_mem_cons.mpr ⟨lw_p1, List.forall_mem_cons.mpr ⟨lw_p2, List.forall_mem_cons.mpr ⟨lw_p3, List.forall_mem_cons.mpr ⟨lw_p4, List.forall_mem_cons.mpr ⟨lw_p5, List.forall_mem_cons.mpr ⟨lw_p6, List.forall_mem_cons.mpr ⟨lw_p7, List.forall_mem_cons.mpr ⟨lw_p8, List.forall_mem_cons.mpr ⟨lw_p9, List.forall_mem_cons.mpr ⟨lw_p10, List.forall_mem_cons.mpr ⟨lw_p11, List.forall_mem_cons.mpr ⟨lw_p12, List.forall_mem_cons.mpr ⟨lw_p13, List.forall_mem_cons.mpr ⟨lw_p14, List.forall_mem_cons.mpr ⟨lw_p15, fun _ h => absurd h List.not_mem_nil⟩⟩⟩⟩⟩⟩⟩⟩⟩⟩⟩⟩⟩⟩⟩⟩
theorem lw_p16 : lw_okq (⟨"EggGarden$Formula", "layPart", "(II)I"⟩, 8) := ⟨⟨by decide +kernel, by decide +kernel⟩, List.mem_of_getElem? (i := 385) (by decide +kernel), List.mem_of_getElem? (i := 712) (by decide +kernel), List.mem_of_getElem? (i := 713) (by decide +kernel)⟩
theorem lw_p17 : lw_okq (⟨"EggGarden$Formula", "countKnot", "()Z"⟩, 8) := ⟨⟨by decide +kernel, by decide +kernel⟩, List.mem_of_getElem? (i := 385) (by decide +kernel), List.mem_of_getElem? (i := 716) (by decide +kernel), List.mem_of_getElem? (i := 717) (by decide +kernel)⟩
theorem lw_p18 : lw_okq (⟨"EggGarden$Formula", "openBracket", "()I"⟩, 8) := ⟨⟨by decide +kernel, by decide +kernel⟩, List.mem_of_getElem? (i := 385) (by decide +kernel), List.mem_of_getElem? (i := 721) (by decide +kernel), List.mem_of_getElem? (i := 722) (by decide +kernel)⟩
theorem lw_p19 : lw_okq (⟨"EggGarden$Formula", "waitWith", "(I)I"⟩, 8) := ⟨⟨by decide +kernel, by decide +kernel⟩, List.mem_of_getElem? (i := 385) (by decide +kernel), List.mem_of_getElem? (i := 725) (by decide +kernel), List.mem_of_getElem? (i := 726) (by decide +kernel)⟩
theorem lw_p20 : lw_okq (⟨"EggGarden$Formula", "readBehindPart", "()I"⟩, 8) := ⟨⟨by decide +kernel, by decide +kernel⟩, List.mem_of_getElem? (i := 385) (by decide +kernel), List.mem_of_getElem? (i := 729) (by decide +kernel), List.mem_of_getElem? (i := 730) (by decide +kernel)⟩
theorem lw_p21 : lw_okq (⟨"EggGarden$Formula", "operatorRead", "()I"⟩, 8) := ⟨⟨by decide +kernel, by decide +kernel⟩, List.mem_of_getElem? (i := 385) (by decide +kernel), List.mem_of_getElem? (i := 733) (by decide +kernel), List.mem_of_getElem? (i := 734) (by decide +kernel)⟩
theorem lw_p22 : lw_okq (⟨"EggGarden$Reader", "readThing", "()Z"⟩, 11) := ⟨⟨by decide +kernel, by decide +kernel⟩, List.mem_of_getElem? (i := 34) (by decide +kernel), List.mem_of_getElem? (i := 737) (by decide +kernel), List.mem_of_getElem? (i := 738) (by decide +kernel)⟩
theorem lw_p23 : lw_okq (⟨"EggGarden$Reader", "readSetting", "()Z"⟩, 11) := ⟨⟨by decide +kernel, by decide +kernel⟩, List.mem_of_getElem? (i := 34) (by decide +kernel), List.mem_of_getElem? (i := 741) (by decide +kernel), List.mem_of_getElem? (i := 742) (by decide +kernel)⟩
theorem lw_p24 : lw_okq (⟨"EggGarden$Reader", "tell", "(I)Z"⟩, 11) := ⟨⟨by decide +kernel, by decide +kernel⟩, List.mem_of_getElem? (i := 34) (by decide +kernel), List.mem_of_getElem? (i := 745) (by decide +kernel), List.mem_of_getElem? (i := 746) (by decide +kernel)⟩
theorem lw_p25 : lw_okq (⟨"EggGarden", "adoptText", "()V"⟩, 13) := ⟨⟨by decide +kernel, by decide +kernel⟩, List.mem_of_getElem? (i := 26) (by decide +kernel), List.mem_of_getElem? (i := 750) (by decide +kernel), List.mem_of_getElem? (i := 751) (by decide +kernel)⟩
theorem lw_p26 : lw_okq (⟨"EggGarden", "layBytes", "(I)V"⟩, 13) := ⟨⟨by decide +kernel, by decide +kernel⟩, List.mem_of_getElem? (i := 26) (by decide +kernel), List.mem_of_getElem? (i := 876) (by decide +kernel), List.mem_of_getElem? (i := 877) (by decide +kernel)⟩
theorem lw_p27 : lw_okq (⟨"EggGarden$Morning", "nameBoth", "(III)V"⟩, 12) := ⟨⟨by decide +kernel, by decide +kernel⟩, List.mem_of_getElem? (i := 141) (by decide +kernel), List.mem_of_getElem? (i := 921) (by decide +kernel), List.mem_of_getElem? (i := 922) (by decide +kernel)⟩
theorem lw_p28 : lw_okq (⟨"EggGarden$Morning", "nameKept", "(I)V"⟩, 12) := ⟨⟨by decide +kernel, by decide +kernel⟩, List.mem_of_getElem? (i := 141) (by decide +kernel), List.mem_of_getElem? (i := 965) (by decide +kernel), List.mem_of_getElem? (i := 966) (by decide +kernel)⟩
theorem lw_p29 : lw_okq (⟨"EggGarden$Undoing", "note", "(IIII)V"⟩, 5) := ⟨⟨by decide +kernel, by decide +kernel⟩, List.mem_of_getElem? (i := 491) (by decide +kernel), List.mem_of_getElem? (i := 988) (by decide +kernel), List.mem_of_getElem? (i := 989) (by decide +kernel)⟩
theorem lw_p30 : lw_okq (⟨"EggGarden$Undoing", "dropOldest", "()V"⟩, 5) := ⟨⟨by decide +kernel, by decide +kernel⟩, List.mem_of_getElem? (i := 491) (by decide +kernel), List.mem_of_getElem? (i := 992) (by decide +kernel), List.mem_of_getElem? (i := 993) (by decide +kernel)⟩
theorem lw_p31 : lw_okq (⟨"EggGarden$Morning", "look", "(IZ)V"⟩, 12) := ⟨⟨by decide +kernel, by decide +kernel⟩, List.mem_of_getElem? (i := 141) (by decide +kernel), List.mem_of_getElem? (i := 1028) (by decide +kernel), List.mem_of_getElem? (i := 1029) (by decide +kernel)⟩
def lw_privs_2 : List (MethodName × Nat) := [(⟨"EggGarden$Formula", "layPart", "(II)I"⟩, 8), (⟨"EggGarden$Formula", "countKnot", "()Z"⟩, 8), (⟨"EggGarden$Formula", "openBracket", "()I"⟩, 8), (⟨"EggGarden$Formula", "waitWith", "(I)I"⟩, 8), (⟨"EggGarden$Formula", "readBehindPart", "()I"⟩, 8), (⟨"EggGarden$Formula", "operatorRead", "()I"⟩, 8), (⟨"EggGarden$Reader", "readThing", "()Z"⟩, 11), (⟨"EggGarden$Reader", "readSetting", "()Z"⟩, 11), (⟨"EggGarden$Reader", "tell", "(I)Z"⟩, 11), (⟨"EggGarden", "adoptText", "()V"⟩, 13), (⟨"EggGarden", "layBytes", "(I)V"⟩, 13), (⟨"EggGarden$Morning", "nameBoth", "(III)V"⟩, 12), (⟨"EggGarden$Morning", "nameKept", "(I)V"⟩, 12), (⟨"EggGarden$Undoing", "note", "(IIII)V"⟩, 5), (⟨"EggGarden$Undoing", "dropOldest", "()V"⟩, 5), (⟨"EggGarden$Morning", "look", "(IZ)V"⟩, 12)]
theorem lw_r2 : ∀ q ∈ lw_privs_2, lw_okq q := List.forall_mem_cons.mpr ⟨lw_p16, List.forall_mem_cons.mpr ⟨lw_p17, List.forall_mem_cons.mpr ⟨lw_p18, List.forall_mem_cons.mpr ⟨lw_p19, List.forall_mem_cons.mpr ⟨lw_p20, List.forall_mem_cons.mpr ⟨lw_p21, List.forall_mem_cons.mpr ⟨lw_p22, List.forall_mem_cons.mpr ⟨lw_p23, List.forall_mem_cons.mpr ⟨lw_p24, List.forall_mem_cons.mpr ⟨lw_p25, List.forall_mem_cons.mpr ⟨lw_p26, List.forall_mem_cons.mpr ⟨lw_p27, List.forall_mem_cons.mpr ⟨lw_p28, List.forall_mem_cons.mpr ⟨lw_p29, List.forall_mem_cons.mpr ⟨lw_p30, List.forall_mem_cons.mpr ⟨lw_p31, fun _ h => absurd h List.not_mem_nil⟩⟩⟩⟩⟩⟩⟩⟩⟩⟩⟩⟩⟩⟩⟩⟩
theorem lw_p32 : lw_okq (⟨"EggGarden$Morning", "draw", "()I"⟩, 12) := ⟨⟨by decide +kernel, by decide +kernel⟩, List.mem_of_getElem? (i := 141) (by decide +kernel), List.mem_of_getElem? (i := 1036) (by decide +kernel), List.mem_of_getElem? (i := 1037) (by decide +kernel)⟩
theorem lw_p33 : lw_okq (⟨"EggGarden$Morning", "walk", "(I)V"⟩, 12) := ⟨⟨by decide +kernel, by decide +kernel⟩, List.mem_of_getElem? (i := 141) (by decide +kernel), List.mem_of_getElem? (i := 1046) (by decide +kernel), List.mem_of_getElem? (i := 1047) (by decide +kernel)⟩
theorem lw_p34 : lw_okq (⟨"EggGarden$Morning", "nearestUnseen", "(I)I"⟩, 12) := ⟨⟨by decide +kernel, by decide +kernel⟩, List.mem_of_getElem? (i := 141) (by decide +kernel), List.mem_of_getElem? (i := 1050) (by decide +kernel), List.mem_of_getElem? (i := 1051) (by decide +kernel)⟩
theorem lw_p35 : lw_okq (⟨"EggGarden$Morning", "letDogTake", "()V"⟩, 12) := ⟨⟨by decide +kernel, by decide +kernel⟩, List.mem_of_getElem? (i := 141) (by decide +kernel), List.mem_of_getElem? (i := 1069) (by decide +kernel), List.mem_of_getElem? (i := 1070) (by decide +kernel)⟩
theorem lw_p36 : lw_okq (⟨"EggGarden$Morning", "melt", "()V"⟩, 12) := ⟨⟨by decide +kernel, by decide +kernel⟩, List.mem_of_getElem? (i := 141) (by decide +kernel), List.mem_of_getElem? (i := 1073) (by decide +kernel), List.mem_of_getElem? (i := 1074) (by decide +kernel)⟩
theorem lw_p37 : lw_okq (⟨"EggGarden$Trials", "recordPath", "(I)V"⟩, 20) := ⟨⟨by decide +kernel, by decide +kernel⟩, List.mem_of_getElem? (i := 514) (by decide +kernel), List.mem_of_getElem? (i := 1110) (by decide +kernel), List.mem_of_getElem? (i := 1111) (by decide +kernel)⟩
theorem lw_p38 : lw_okq (⟨"EggGarden$Trials", "tryPlaces", "(III)V"⟩, 20) := ⟨⟨by decide +kernel, by decide +kernel⟩, List.mem_of_getElem? (i := 514) (by decide +kernel), List.mem_of_getElem? (i := 1116) (by decide +kernel), List.mem_of_getElem? (i := 1117) (by decide +kernel)⟩
theorem lw_p39 : lw_okq (⟨"EggGarden$Trials", "layEggs", "(III)V"⟩, 20) := ⟨⟨by decide +kernel, by decide +kernel⟩, List.mem_of_getElem? (i := 514) (by decide +kernel), List.mem_of_getElem? (i := 1120) (by decide +kernel), List.mem_of_getElem? (i := 1121) (by decide +kernel)⟩
theorem lw_p40 : lw_okq (⟨"EggGarden$Trials", "meltAll", "(I)V"⟩, 20) := ⟨⟨by decide +kernel, by decide +kernel⟩, List.mem_of_getElem? (i := 514) (by decide +kernel), List.mem_of_getElem? (i := 1124) (by decide +kernel), List.mem_of_getElem? (i := 1125) (by decide +kernel)⟩
theorem lw_p41 : lw_okq (⟨"EggGarden$Trials", "lookAgain", "(III)V"⟩, 20) := ⟨⟨by decide +kernel, by decide +kernel⟩, List.mem_of_getElem? (i := 514) (by decide +kernel), List.mem_of_getElem? (i := 1128) (by decide +kernel), List.mem_of_getElem? (i := 1129) (by decide +kernel)⟩
theorem lw_p42 : lw_okq (⟨"EggGarden$Trials", "takesSurely", "(II)Z"⟩, 20) := ⟨⟨by decide +kernel, by decide +kernel⟩, List.mem_of_getElem? (i := 514) (by decide +kernel), List.mem_of_getElem? (i := 1132) (by decide +kernel), List.mem_of_getElem? (i := 1133) (by decide +kernel)⟩
theorem lw_p43 : lw_okq (⟨"EggGarden$Trials", "nameTried", "(II)V"⟩, 20) := ⟨⟨by decide +kernel, by decide +kernel⟩, List.mem_of_getElem? (i := 514) (by decide +kernel), List.mem_of_getElem? (i := 1136) (by decide +kernel), List.mem_of_getElem? (i := 1137) (by decide +kernel)⟩
theorem lw_p44 : lw_okq (⟨"EggGarden$Trials", "unlikeThen", "()I"⟩, 20) := ⟨⟨by decide +kernel, by decide +kernel⟩, List.mem_of_getElem? (i := 514) (by decide +kernel), List.mem_of_getElem? (i := 1144) (by decide +kernel), List.mem_of_getElem? (i := 1145) (by decide +kernel)⟩
theorem lw_p45 : lw_okq (⟨"EggGarden$Morning", "most", "()I"⟩, 12) := ⟨⟨by decide +kernel, by decide +kernel⟩, List.mem_of_getElem? (i := 141) (by decide +kernel), List.mem_of_getElem? (i := 1167) (by decide +kernel), List.mem_of_getElem? (i := 1168) (by decide +kernel)⟩
theorem lw_p46 : lw_okq (⟨"EggGarden$Trials", "addBush", "(I)V"⟩, 20) := ⟨⟨by decide +kernel, by decide +kernel⟩, List.mem_of_getElem? (i := 514) (by decide +kernel), List.mem_of_getElem? (i := 1202) (by decide +kernel), List.mem_of_getElem? (i := 1203) (by decide +kernel)⟩
theorem lw_p47 : lw_okq (⟨"EggGarden$Trials", "isBest", "(II)Z"⟩, 20) := ⟨⟨by decide +kernel, by decide +kernel⟩, List.mem_of_getElem? (i := 514) (by decide +kernel), List.mem_of_getElem? (i := 1206) (by decide +kernel), List.mem_of_getElem? (i := 1207) (by decide +kernel)⟩
def lw_privs_3 : List (MethodName × Nat) := [(⟨"EggGarden$Morning", "draw", "()I"⟩, 12), (⟨"EggGarden$Morning", "walk", "(I)V"⟩, 12), (⟨"EggGarden$Morning", "nearestUnseen", "(I)I"⟩, 12), (⟨"EggGarden$Morning", "letDogTake", "()V"⟩, 12), (⟨"EggGarden$Morning", "melt", "()V"⟩, 12), (⟨"EggGarden$Trials", "recordPath", "(I)V"⟩, 20), (⟨"EggGarden$Trials", "tryPlaces", "(III)V"⟩, 20), (⟨"EggGarden$Trials", "layEggs", "(III)V"⟩, 20), (⟨"EggGarden$Trials", "meltAll", "(I)V"⟩, 20), (⟨"EggGarden$Trials", "lookAgain", "(III)V"⟩, 20), (⟨"EggGarden$Trials", "takesSurely", "(II)Z"⟩, 20), (⟨"EggGarden$Trials", "nameTried", "(II)V"⟩, 20), (⟨"EggGarden$Trials", "unlikeThen", "()I"⟩, 20), (⟨"EggGarden$Morning", "most", "()I"⟩, 12), (⟨"EggGarden$Trials", "addBush", "(I)V"⟩, 20), (⟨"EggGarden$Trials", "isBest", "(II)Z"⟩, 20)]
theorem lw_r3 : ∀ q ∈ lw_privs_3, lw_okq q := List.forall_mem_cons.mpr ⟨lw_p32, List.forall_mem_cons.mpr ⟨lw_p33, List.forall_mem_cons.mpr ⟨lw_p34, List.forall_mem_cons.mpr ⟨lw_p35, List.forall_mem_cons.mpr ⟨lw_p36, List.forall_mem_cons.mpr ⟨lw_p37, List.forall_mem_cons.mpr ⟨lw_p38, List.forall_mem_cons.mpr ⟨lw_p39, List.forall_mem_cons.mpr ⟨lw_p40, List.forall_mem_cons.mpr ⟨lw_p41, List.forall_mem_cons.mpr ⟨lw_p42, List.forall_mem_cons.mpr ⟨lw_p43, List.forall_mem_cons.mpr ⟨lw_p44, List.forall_mem_cons.mpr ⟨lw_p45, List.forall_mem_cons.mpr ⟨lw_p46, List.forall_mem_cons.mpr ⟨lw_p47, fun _ h => absurd h List.not_mem_nil⟩⟩⟩⟩⟩⟩⟩⟩⟩⟩⟩⟩⟩⟩⟩⟩
theorem lw_p48 : lw_okq (⟨"EggGarden$Trials", "gain", "(II)I"⟩, 20) := ⟨⟨by decide +kernel, by decide +kernel⟩, List.mem_of_getElem? (i := 514) (by decide +kernel), List.mem_of_getElem? (i := 1210) (by decide +kernel), List.mem_of_getElem? (i := 1211) (by decide +kernel)⟩
theorem lw_p49 : lw_okq (⟨"EggGarden$Morning", "firstSwap", "(II)I"⟩, 12) := ⟨⟨by decide +kernel, by decide +kernel⟩, List.mem_of_getElem? (i := 141) (by decide +kernel), List.mem_of_getElem? (i := 1256) (by decide +kernel), List.mem_of_getElem? (i := 1257) (by decide +kernel)⟩
theorem lw_p50 : lw_okq (⟨"EggGarden$Trials", "agrees", "(II)Z"⟩, 20) := ⟨⟨by decide +kernel, by decide +kernel⟩, List.mem_of_getElem? (i := 514) (by decide +kernel), List.mem_of_getElem? (i := 1304) (by decide +kernel), List.mem_of_getElem? (i := 1305) (by decide +kernel)⟩
theorem lw_p51 : lw_okq (⟨"EggGarden$Seen", "counts", "(I)Z"⟩, 8) := ⟨⟨by decide +kernel, by decide +kernel⟩, List.mem_of_getElem? (i := 458) (by decide +kernel), List.mem_of_getElem? (i := 1312) (by decide +kernel), List.mem_of_getElem? (i := 1313) (by decide +kernel)⟩
theorem lw_p52 : lw_okq (⟨"java/lang/Throwable", "fillInStackTrace", "(I)Ljava/lang/Throwable;"⟩, 6) := ⟨⟨by decide +kernel, by decide +kernel⟩, List.mem_of_getElem? (i := 1419) (by decide +kernel), List.mem_of_getElem? (i := 1417) (by decide +kernel), List.mem_of_getElem? (i := 1418) (by decide +kernel)⟩
theorem lw_p53 : lw_okq (⟨"EggGardenModel", "plain", "()V"⟩, 91) := ⟨⟨by decide +kernel, by decide +kernel⟩, List.mem_of_getElem? (i := 1472) (by decide +kernel), List.mem_of_getElem? (i := 1478) (by decide +kernel), List.mem_of_getElem? (i := 1479) (by decide +kernel)⟩
theorem lw_p54 : lw_okq (⟨"EggGardenModel", "keepText", "()V"⟩, 91) := ⟨⟨by decide +kernel, by decide +kernel⟩, List.mem_of_getElem? (i := 1472) (by decide +kernel), List.mem_of_getElem? (i := 1482) (by decide +kernel), List.mem_of_getElem? (i := 1483) (by decide +kernel)⟩
theorem lw_p55 : lw_okq (⟨"EggGardenModel", "begin", "()V"⟩, 91) := ⟨⟨by decide +kernel, by decide +kernel⟩, List.mem_of_getElem? (i := 1472) (by decide +kernel), List.mem_of_getElem? (i := 1489) (by decide +kernel), List.mem_of_getElem? (i := 1490) (by decide +kernel)⟩
theorem lw_p56 : lw_okq (⟨"EggGardenModel", "atFirst", "(I)V"⟩, 91) := ⟨⟨by decide +kernel, by decide +kernel⟩, List.mem_of_getElem? (i := 1472) (by decide +kernel), List.mem_of_getElem? (i := 1493) (by decide +kernel), List.mem_of_getElem? (i := 1494) (by decide +kernel)⟩
theorem lw_p57 : lw_okq (⟨"EggGardenModel", "plainTried", "()V"⟩, 91) := ⟨⟨by decide +kernel, by decide +kernel⟩, List.mem_of_getElem? (i := 1472) (by decide +kernel), List.mem_of_getElem? (i := 1497) (by decide +kernel), List.mem_of_getElem? (i := 1498) (by decide +kernel)⟩
theorem lw_p58 : lw_okq (⟨"EggGardenModel", "cells", "()I"⟩, 91) := ⟨⟨by decide +kernel, by decide +kernel⟩, List.mem_of_getElem? (i := 1472) (by decide +kernel), List.mem_of_getElem? (i := 1501) (by decide +kernel), List.mem_of_getElem? (i := 1502) (by decide +kernel)⟩
theorem lw_p59 : lw_okq (⟨"EggGardenModel", "hideOf", "(I)I"⟩, 91) := ⟨⟨by decide +kernel, by decide +kernel⟩, List.mem_of_getElem? (i := 1472) (by decide +kernel), List.mem_of_getElem? (i := 1505) (by decide +kernel), List.mem_of_getElem? (i := 1506) (by decide +kernel)⟩
theorem lw_p60 : lw_okq (⟨"EggGardenModel", "layNames", "(IIIIII)V"⟩, 91) := ⟨⟨by decide +kernel, by decide +kernel⟩, List.mem_of_getElem? (i := 1472) (by decide +kernel), List.mem_of_getElem? (i := 1509) (by decide +kernel), List.mem_of_getElem? (i := 1510) (by decide +kernel)⟩
theorem lw_p61 : lw_okq (⟨"EggGardenModel", "boundLaw", "(III)I"⟩, 91) := ⟨⟨by decide +kernel, by decide +kernel⟩, List.mem_of_getElem? (i := 1472) (by decide +kernel), List.mem_of_getElem? (i := 1513) (by decide +kernel), List.mem_of_getElem? (i := 1514) (by decide +kernel)⟩
theorem lw_p62 : lw_okq (⟨"EggGardenModel", "lawOf", "(I)J"⟩, 91) := ⟨⟨by decide +kernel, by decide +kernel⟩, List.mem_of_getElem? (i := 1472) (by decide +kernel), List.mem_of_getElem? (i := 1517) (by decide +kernel), List.mem_of_getElem? (i := 1518) (by decide +kernel)⟩
theorem lw_p63 : lw_okq (⟨"EggGardenModel", "valueOf", "(I)J"⟩, 91) := ⟨⟨by decide +kernel, by decide +kernel⟩, List.mem_of_getElem? (i := 1472) (by decide +kernel), List.mem_of_getElem? (i := 1521) (by decide +kernel), List.mem_of_getElem? (i := 1522) (by decide +kernel)⟩
def lw_privs_4 : List (MethodName × Nat) := [(⟨"EggGarden$Trials", "gain", "(II)I"⟩, 20), (⟨"EggGarden$Morning", "firstSwap", "(II)I"⟩, 12), (⟨"EggGarden$Trials", "agrees", "(II)Z"⟩, 20), (⟨"EggGarden$Seen", "counts", "(I)Z"⟩, 8), (⟨"java/lang/Throwable", "fillInStackTrace", "(I)Ljava/lang/Throwable;"⟩, 6), (⟨"EggGardenModel", "plain", "()V"⟩, 91), (⟨"EggGardenModel", "keepText", "()V"⟩, 91), (⟨"EggGardenModel", "begin", "()V"⟩, 91), (⟨"EggGardenModel", "atFirst", "(I)V"⟩, 91), (⟨"EggGardenModel", "plainTried", "()V"⟩, 91), (⟨"EggGardenModel", "cells", "()I"⟩, 91), (⟨"EggGardenModel", "hideOf", "(I)I"⟩, 91), (⟨"EggGardenModel", "layNames", "(IIIIII)V"⟩, 91), (⟨"EggGardenModel", "boundLaw", "(III)I"⟩, 91), (⟨"EggGardenModel", "lawOf", "(I)J"⟩, 91), (⟨"EggGardenModel", "valueOf", "(I)J"⟩, 91)]
theorem lw_r4 : ∀ q ∈ lw_privs_4, lw_okq q := List.forall_mem_cons.mpr ⟨lw_p48, List.forall_mem_cons.mpr ⟨lw_p49, List.forall_mem_cons.mpr ⟨lw_p50, List.forall_mem_cons.mpr ⟨lw_p51, List.forall_mem_cons.mpr ⟨lw_p52, List.forall_mem_cons.mpr ⟨lw_p53, List.forall_mem_cons.mpr ⟨lw_p54, List.forall_mem_cons.mpr ⟨lw_p55, List.forall_mem_cons.mpr ⟨lw_p56, List.forall_mem_cons.mpr ⟨lw_p57, List.forall_mem_cons.mpr ⟨lw_p58, List.forall_mem_cons.mpr ⟨lw_p59, List.forall_mem_cons.mpr ⟨lw_p60, List.forall_mem_cons.mpr ⟨lw_p61, List.forall_mem_cons.mpr ⟨lw_p62, List.forall_mem_cons.mpr ⟨lw_p63, fun _ h => absurd h List.not_mem_nil⟩⟩⟩⟩⟩⟩⟩⟩⟩⟩⟩⟩⟩⟩⟩⟩
theorem lw_p64 : lw_okq (⟨"EggGardenModel", "bounded", "(J)J"⟩, 91) := ⟨⟨by decide +kernel, by decide +kernel⟩, List.mem_of_getElem? (i := 1472) (by decide +kernel), List.mem_of_getElem? (i := 1525) (by decide +kernel), List.mem_of_getElem? (i := 1526) (by decide +kernel)⟩
theorem lw_p65 : lw_okq (⟨"EggGardenModel", "times", "(JJ)J"⟩, 91) := ⟨⟨by decide +kernel, by decide +kernel⟩, List.mem_of_getElem? (i := 1472) (by decide +kernel), List.mem_of_getElem? (i := 1531) (by decide +kernel), List.mem_of_getElem? (i := 1532) (by decide +kernel)⟩
theorem lw_p66 : lw_okq (⟨"EggGardenModel", "token", "()V"⟩, 91) := ⟨⟨by decide +kernel, by decide +kernel⟩, List.mem_of_getElem? (i := 1472) (by decide +kernel), List.mem_of_getElem? (i := 1824) (by decide +kernel), List.mem_of_getElem? (i := 1825) (by decide +kernel)⟩
theorem lw_p67 : lw_okq (⟨"EggGardenModel", "isSmall", "(I)Z"⟩, 91) := ⟨⟨by decide +kernel, by decide +kernel⟩, List.mem_of_getElem? (i := 1472) (by decide +kernel), List.mem_of_getElem? (i := 1828) (by decide +kernel), List.mem_of_getElem? (i := 1829) (by decide +kernel)⟩
theorem lw_p68 : lw_okq (⟨"EggGardenModel", "wordAt", "(II)I"⟩, 91) := ⟨⟨by decide +kernel, by decide +kernel⟩, List.mem_of_getElem? (i := 1472) (by decide +kernel), List.mem_of_getElem? (i := 1832) (by decide +kernel), List.mem_of_getElem? (i := 1833) (by decide +kernel)⟩
theorem lw_p69 : lw_okq (⟨"EggGardenModel", "packed", "(II)I"⟩, 91) := ⟨⟨by decide +kernel, by decide +kernel⟩, List.mem_of_getElem? (i := 1472) (by decide +kernel), List.mem_of_getElem? (i := 1836) (by decide +kernel), List.mem_of_getElem? (i := 1837) (by decide +kernel)⟩
theorem lw_p70 : lw_okq (⟨"EggGardenModel", "isDigit", "(I)Z"⟩, 91) := ⟨⟨by decide +kernel, by decide +kernel⟩, List.mem_of_getElem? (i := 1472) (by decide +kernel), List.mem_of_getElem? (i := 1840) (by decide +kernel), List.mem_of_getElem? (i := 1841) (by decide +kernel)⟩
theorem lw_p71 : lw_okq (⟨"EggGardenModel", "signToken", "()V"⟩, 91) := ⟨⟨by decide +kernel, by decide +kernel⟩, List.mem_of_getElem? (i := 1472) (by decide +kernel), List.mem_of_getElem? (i := 1845) (by decide +kernel), List.mem_of_getElem? (i := 1846) (by decide +kernel)⟩
theorem lw_p72 : lw_okq (⟨"EggGardenModel", "lineRead", "()Z"⟩, 91) := ⟨⟨by decide +kernel, by decide +kernel⟩, List.mem_of_getElem? (i := 1472) (by decide +kernel), List.mem_of_getElem? (i := 1849) (by decide +kernel), List.mem_of_getElem? (i := 1850) (by decide +kernel)⟩
theorem lw_p73 : lw_okq (⟨"EggGardenModel", "wrong", "(I)Z"⟩, 91) := ⟨⟨by decide +kernel, by decide +kernel⟩, List.mem_of_getElem? (i := 1472) (by decide +kernel), List.mem_of_getElem? (i := 1853) (by decide +kernel), List.mem_of_getElem? (i := 1854) (by decide +kernel)⟩
theorem lw_p74 : lw_okq (⟨"EggGardenModel", "gardenLine", "()Z"⟩, 91) := ⟨⟨by decide +kernel, by decide +kernel⟩, List.mem_of_getElem? (i := 1472) (by decide +kernel), List.mem_of_getElem? (i := 1857) (by decide +kernel), List.mem_of_getElem? (i := 1858) (by decide +kernel)⟩
theorem lw_p75 : lw_okq (⟨"EggGardenModel", "number", "(II)Z"⟩, 91) := ⟨⟨by decide +kernel, by decide +kernel⟩, List.mem_of_getElem? (i := 1472) (by decide +kernel), List.mem_of_getElem? (i := 1861) (by decide +kernel), List.mem_of_getElem? (i := 1862) (by decide +kernel)⟩
theorem lw_p76 : lw_okq (⟨"EggGardenModel", "kindLine", "(I)Z"⟩, 91) := ⟨⟨by decide +kernel, by decide +kernel⟩, List.mem_of_getElem? (i := 1472) (by decide +kernel), List.mem_of_getElem? (i := 1868) (by decide +kernel), List.mem_of_getElem? (i := 1869) (by decide +kernel)⟩
theorem lw_p77 : lw_okq (⟨"EggGardenModel", "cellRead", "()Z"⟩, 91) := ⟨⟨by decide +kernel, by decide +kernel⟩, List.mem_of_getElem? (i := 1472) (by decide +kernel), List.mem_of_getElem? (i := 1872) (by decide +kernel), List.mem_of_getElem? (i := 1873) (by decide +kernel)⟩
theorem lw_p78 : lw_okq (⟨"EggGardenModel", "eggLine", "()Z"⟩, 91) := ⟨⟨by decide +kernel, by decide +kernel⟩, List.mem_of_getElem? (i := 1472) (by decide +kernel), List.mem_of_getElem? (i := 1876) (by decide +kernel), List.mem_of_getElem? (i := 1877) (by decide +kernel)⟩
theorem lw_p79 : lw_okq (⟨"EggGardenModel", "pick", "(II)Z"⟩, 91) := ⟨⟨by decide +kernel, by decide +kernel⟩, List.mem_of_getElem? (i := 1472) (by decide +kernel), List.mem_of_getElem? (i := 1880) (by decide +kernel), List.mem_of_getElem? (i := 1881) (by decide +kernel)⟩
def lw_privs_5 : List (MethodName × Nat) := [(⟨"EggGardenModel", "bounded", "(J)J"⟩, 91), (⟨"EggGardenModel", "times", "(JJ)J"⟩, 91), (⟨"EggGardenModel", "token", "()V"⟩, 91), (⟨"EggGardenModel", "isSmall", "(I)Z"⟩, 91), (⟨"EggGardenModel", "wordAt", "(II)I"⟩, 91), (⟨"EggGardenModel", "packed", "(II)I"⟩, 91), (⟨"EggGardenModel", "isDigit", "(I)Z"⟩, 91), (⟨"EggGardenModel", "signToken", "()V"⟩, 91), (⟨"EggGardenModel", "lineRead", "()Z"⟩, 91), (⟨"EggGardenModel", "wrong", "(I)Z"⟩, 91), (⟨"EggGardenModel", "gardenLine", "()Z"⟩, 91), (⟨"EggGardenModel", "number", "(II)Z"⟩, 91), (⟨"EggGardenModel", "kindLine", "(I)Z"⟩, 91), (⟨"EggGardenModel", "cellRead", "()Z"⟩, 91), (⟨"EggGardenModel", "eggLine", "()Z"⟩, 91), (⟨"EggGardenModel", "pick", "(II)Z"⟩, 91)]
theorem lw_r5 : ∀ q ∈ lw_privs_5, lw_okq q := List.forall_mem_cons.mpr ⟨lw_p64, List.forall_mem_cons.mpr ⟨lw_p65, List.forall_mem_cons.mpr ⟨lw_p66, List.forall_mem_cons.mpr ⟨lw_p67, List.forall_mem_cons.mpr ⟨lw_p68, List.forall_mem_cons.mpr ⟨lw_p69, List.forall_mem_cons.mpr ⟨lw_p70, List.forall_mem_cons.mpr ⟨lw_p71, List.forall_mem_cons.mpr ⟨lw_p72, List.forall_mem_cons.mpr ⟨lw_p73, List.forall_mem_cons.mpr ⟨lw_p74, List.forall_mem_cons.mpr ⟨lw_p75, List.forall_mem_cons.mpr ⟨lw_p76, List.forall_mem_cons.mpr ⟨lw_p77, List.forall_mem_cons.mpr ⟨lw_p78, List.forall_mem_cons.mpr ⟨lw_p79, fun _ h => absurd h List.not_mem_nil⟩⟩⟩⟩⟩⟩⟩⟩⟩⟩⟩⟩⟩⟩⟩⟩
theorem lw_p80 : lw_okq (⟨"EggGardenModel", "childLine", "()Z"⟩, 91) := ⟨⟨by decide +kernel, by decide +kernel⟩, List.mem_of_getElem? (i := 1472) (by decide +kernel), List.mem_of_getElem? (i := 1884) (by decide +kernel), List.mem_of_getElem? (i := 1885) (by decide +kernel)⟩
theorem lw_p81 : lw_okq (⟨"EggGardenModel", "lawLine", "()Z"⟩, 91) := ⟨⟨by decide +kernel, by decide +kernel⟩, List.mem_of_getElem? (i := 1472) (by decide +kernel), List.mem_of_getElem? (i := 1891) (by decide +kernel), List.mem_of_getElem? (i := 1892) (by decide +kernel)⟩
theorem lw_p82 : lw_okq (⟨"EggGardenModel", "sumRead", "()Z"⟩, 91) := ⟨⟨by decide +kernel, by decide +kernel⟩, List.mem_of_getElem? (i := 1472) (by decide +kernel), List.mem_of_getElem? (i := 1895) (by decide +kernel), List.mem_of_getElem? (i := 1896) (by decide +kernel)⟩
theorem lw_p83 : lw_okq (⟨"EggGardenModel", "isSign", "(I)Z"⟩, 91) := ⟨⟨by decide +kernel, by decide +kernel⟩, List.mem_of_getElem? (i := 1472) (by decide +kernel), List.mem_of_getElem? (i := 1899) (by decide +kernel), List.mem_of_getElem? (i := 1900) (by decide +kernel)⟩
theorem lw_p84 : lw_okq (⟨"EggGardenModel", "leafRead", "()Z"⟩, 91) := ⟨⟨by decide +kernel, by decide +kernel⟩, List.mem_of_getElem? (i := 1472) (by decide +kernel), List.mem_of_getElem? (i := 1903) (by decide +kernel), List.mem_of_getElem? (i := 1904) (by decide +kernel)⟩
theorem lw_p85 : lw_okq (⟨"EggGardenModel", "waitsFor", "(I)V"⟩, 91) := ⟨⟨by decide +kernel, by decide +kernel⟩, List.mem_of_getElem? (i := 1472) (by decide +kernel), List.mem_of_getElem? (i := 1907) (by decide +kernel), List.mem_of_getElem? (i := 1908) (by decide +kernel)⟩
theorem lw_p86 : lw_okq (⟨"EggGardenModel", "isKey", "(I)Z"⟩, 91) := ⟨⟨by decide +kernel, by decide +kernel⟩, List.mem_of_getElem? (i := 1472) (by decide +kernel), List.mem_of_getElem? (i := 1911) (by decide +kernel), List.mem_of_getElem? (i := 1912) (by decide +kernel)⟩
theorem lw_p87 : lw_okq (⟨"EggGardenModel", "isCounted", "()Z"⟩, 91) := ⟨⟨by decide +kernel, by decide +kernel⟩, List.mem_of_getElem? (i := 1472) (by decide +kernel), List.mem_of_getElem? (i := 1915) (by decide +kernel), List.mem_of_getElem? (i := 1916) (by decide +kernel)⟩
theorem lw_p88 : lw_okq (⟨"EggGardenModel", "nameMet", "()I"⟩, 91) := ⟨⟨by decide +kernel, by decide +kernel⟩, List.mem_of_getElem? (i := 1472) (by decide +kernel), List.mem_of_getElem? (i := 1919) (by decide +kernel), List.mem_of_getElem? (i := 1920) (by decide +kernel)⟩
theorem lw_p89 : lw_okq (⟨"EggGardenModel", "grown", "(III)V"⟩, 91) := ⟨⟨by decide +kernel, by decide +kernel⟩, List.mem_of_getElem? (i := 1472) (by decide +kernel), List.mem_of_getElem? (i := 1923) (by decide +kernel), List.mem_of_getElem? (i := 1924) (by decide +kernel)⟩
theorem lw_p90 : lw_okq (⟨"EggGardenModel", "signs", "()Z"⟩, 91) := ⟨⟨by decide +kernel, by decide +kernel⟩, List.mem_of_getElem? (i := 1472) (by decide +kernel), List.mem_of_getElem? (i := 1927) (by decide +kernel), List.mem_of_getElem? (i := 1928) (by decide +kernel)⟩
theorem lw_p91 : lw_okq (⟨"EggGardenModel", "bind", "(I)V"⟩, 91) := ⟨⟨by decide +kernel, by decide +kernel⟩, List.mem_of_getElem? (i := 1472) (by decide +kernel), List.mem_of_getElem? (i := 1931) (by decide +kernel), List.mem_of_getElem? (i := 1932) (by decide +kernel)⟩
theorem lw_p92 : lw_okq (⟨"EggGardenModel", "dropHeld", "()I"⟩, 91) := ⟨⟨by decide +kernel, by decide +kernel⟩, List.mem_of_getElem? (i := 1472) (by decide +kernel), List.mem_of_getElem? (i := 1938) (by decide +kernel), List.mem_of_getElem? (i := 1939) (by decide +kernel)⟩
theorem lw_p93 : lw_okq (⟨"EggGardenModel", "onceLine", "()Z"⟩, 91) := ⟨⟨by decide +kernel, by decide +kernel⟩, List.mem_of_getElem? (i := 1472) (by decide +kernel), List.mem_of_getElem? (i := 1942) (by decide +kernel), List.mem_of_getElem? (i := 1943) (by decide +kernel)⟩
theorem lw_p94 : lw_okq (⟨"EggGardenModel", "isOnce", "(I)Z"⟩, 91) := ⟨⟨by decide +kernel, by decide +kernel⟩, List.mem_of_getElem? (i := 1472) (by decide +kernel), List.mem_of_getElem? (i := 1946) (by decide +kernel), List.mem_of_getElem? (i := 1947) (by decide +kernel)⟩
theorem lw_p95 : lw_okq (⟨"EggGardenModel", "isCell", "(I)Z"⟩, 91) := ⟨⟨by decide +kernel, by decide +kernel⟩, List.mem_of_getElem? (i := 1472) (by decide +kernel), List.mem_of_getElem? (i := 1962) (by decide +kernel), List.mem_of_getElem? (i := 1963) (by decide +kernel)⟩
def lw_privs_6 : List (MethodName × Nat) := [(⟨"EggGardenModel", "childLine", "()Z"⟩, 91), (⟨"EggGardenModel", "lawLine", "()Z"⟩, 91), (⟨"EggGardenModel", "sumRead", "()Z"⟩, 91), (⟨"EggGardenModel", "isSign", "(I)Z"⟩, 91), (⟨"EggGardenModel", "leafRead", "()Z"⟩, 91), (⟨"EggGardenModel", "waitsFor", "(I)V"⟩, 91), (⟨"EggGardenModel", "isKey", "(I)Z"⟩, 91), (⟨"EggGardenModel", "isCounted", "()Z"⟩, 91), (⟨"EggGardenModel", "nameMet", "()I"⟩, 91), (⟨"EggGardenModel", "grown", "(III)V"⟩, 91), (⟨"EggGardenModel", "signs", "()Z"⟩, 91), (⟨"EggGardenModel", "bind", "(I)V"⟩, 91), (⟨"EggGardenModel", "dropHeld", "()I"⟩, 91), (⟨"EggGardenModel", "onceLine", "()Z"⟩, 91), (⟨"EggGardenModel", "isOnce", "(I)Z"⟩, 91), (⟨"EggGardenModel", "isCell", "(I)Z"⟩, 91)]
theorem lw_r6 : ∀ q ∈ lw_privs_6, lw_okq q := List.forall_mem_cons.mpr ⟨lw_p80, List.forall_mem_cons.mpr ⟨lw_p81, List.forall_mem_cons.mpr ⟨lw_p82, List.forall_mem_cons.mpr ⟨lw_p83, List.forall_mem_cons.mpr ⟨lw_p84, List.forall_mem_cons.mpr ⟨lw_p85, List.forall_mem_cons.mpr ⟨lw_p86, List.forall_mem_cons.mpr ⟨lw_p87, List.forall_mem_cons.mpr ⟨lw_p88, List.forall_mem_cons.mpr ⟨lw_p89, List.forall_mem_cons.mpr ⟨lw_p90, List.forall_mem_cons.mpr ⟨lw_p91, List.forall_mem_cons.mpr ⟨lw_p92, List.forall_mem_cons.mpr ⟨lw_p93, List.forall_mem_cons.mpr ⟨lw_p94, List.forall_mem_cons.mpr ⟨lw_p95, fun _ h => absurd h List.not_mem_nil⟩⟩⟩⟩⟩⟩⟩⟩⟩⟩⟩⟩⟩⟩⟩⟩
theorem lw_p96 : lw_okq (⟨"EggGardenModel", "fails", "(I)I"⟩, 91) := ⟨⟨by decide +kernel, by decide +kernel⟩, List.mem_of_getElem? (i := 1472) (by decide +kernel), List.mem_of_getElem? (i := 1966) (by decide +kernel), List.mem_of_getElem? (i := 1967) (by decide +kernel)⟩
theorem lw_p97 : lw_okq (⟨"EggGardenModel", "isEgg", "(I)Z"⟩, 91) := ⟨⟨by decide +kernel, by decide +kernel⟩, List.mem_of_getElem? (i := 1472) (by decide +kernel), List.mem_of_getElem? (i := 1977) (by decide +kernel), List.mem_of_getElem? (i := 1978) (by decide +kernel)⟩
theorem lw_p98 : lw_okq (⟨"EggGardenModel", "isChild", "(I)Z"⟩, 91) := ⟨⟨by decide +kernel, by decide +kernel⟩, List.mem_of_getElem? (i := 1472) (by decide +kernel), List.mem_of_getElem? (i := 1985) (by decide +kernel), List.mem_of_getElem? (i := 1986) (by decide +kernel)⟩
theorem lw_p99 : lw_okq (⟨"EggGardenModel", "manyOf", "(II)I"⟩, 91) := ⟨⟨by decide +kernel, by decide +kernel⟩, List.mem_of_getElem? (i := 1472) (by decide +kernel), List.mem_of_getElem? (i := 1989) (by decide +kernel), List.mem_of_getElem? (i := 1990) (by decide +kernel)⟩
theorem lw_p100 : lw_okq (⟨"EggGardenModel", "worthOf", "(II)I"⟩, 91) := ⟨⟨by decide +kernel, by decide +kernel⟩, List.mem_of_getElem? (i := 1472) (by decide +kernel), List.mem_of_getElem? (i := 1993) (by decide +kernel), List.mem_of_getElem? (i := 1994) (by decide +kernel)⟩
theorem lw_p101 : lw_okq (⟨"EggGardenModel", "oddsOf", "(III)I"⟩, 91) := ⟨⟨by decide +kernel, by decide +kernel⟩, List.mem_of_getElem? (i := 1472) (by decide +kernel), List.mem_of_getElem? (i := 2001) (by decide +kernel), List.mem_of_getElem? (i := 2002) (by decide +kernel)⟩
theorem lw_p102 : lw_okq (⟨"EggGardenModel", "oddsBy", "(IIIII)I"⟩, 91) := ⟨⟨by decide +kernel, by decide +kernel⟩, List.mem_of_getElem? (i := 1472) (by decide +kernel), List.mem_of_getElem? (i := 2005) (by decide +kernel), List.mem_of_getElem? (i := 2006) (by decide +kernel)⟩
theorem lw_p103 : lw_okq (⟨"EggGardenModel", "ageOf", "(I)I"⟩, 91) := ⟨⟨by decide +kernel, by decide +kernel⟩, List.mem_of_getElem? (i := 1472) (by decide +kernel), List.mem_of_getElem? (i := 2009) (by decide +kernel), List.mem_of_getElem? (i := 2010) (by decide +kernel)⟩
theorem lw_p104 : lw_okq (⟨"EggGardenModel", "remember", "()V"⟩, 91) := ⟨⟨by decide +kernel, by decide +kernel⟩, List.mem_of_getElem? (i := 1472) (by decide +kernel), List.mem_of_getElem? (i := 2022) (by decide +kernel), List.mem_of_getElem? (i := 2023) (by decide +kernel)⟩
theorem lw_p105 : lw_okq (⟨"EggGardenModel", "put", "([II)V"⟩, 91) := ⟨⟨by decide +kernel, by decide +kernel⟩, List.mem_of_getElem? (i := 1472) (by decide +kernel), List.mem_of_getElem? (i := 2026) (by decide +kernel), List.mem_of_getElem? (i := 2027) (by decide +kernel)⟩
theorem lw_p106 : lw_okq (⟨"EggGardenModel", "layEgg", "(IIII)V"⟩, 91) := ⟨⟨by decide +kernel, by decide +kernel⟩, List.mem_of_getElem? (i := 1472) (by decide +kernel), List.mem_of_getElem? (i := 2030) (by decide +kernel), List.mem_of_getElem? (i := 2031) (by decide +kernel)⟩
theorem lw_p107 : lw_okq (⟨"EggGardenModel", "goOn", "(I)V"⟩, 91) := ⟨⟨by decide +kernel, by decide +kernel⟩, List.mem_of_getElem? (i := 1472) (by decide +kernel), List.mem_of_getElem? (i := 2050) (by decide +kernel), List.mem_of_getElem? (i := 2051) (by decide +kernel)⟩
theorem lw_p108 : lw_okq (⟨"EggGardenModel", "looksAt", "(II)V"⟩, 91) := ⟨⟨by decide +kernel, by decide +kernel⟩, List.mem_of_getElem? (i := 1472) (by decide +kernel), List.mem_of_getElem? (i := 2054) (by decide +kernel), List.mem_of_getElem? (i := 2055) (by decide +kernel)⟩
theorem lw_p109 : lw_okq (⟨"EggGardenModel", "number1", "(I)I"⟩, 91) := ⟨⟨by decide +kernel, by decide +kernel⟩, List.mem_of_getElem? (i := 1472) (by decide +kernel), List.mem_of_getElem? (i := 2058) (by decide +kernel), List.mem_of_getElem? (i := 2059) (by decide +kernel)⟩
theorem lw_p110 : lw_okq (⟨"EggGardenModel", "lookedWeight", "(III)I"⟩, 91) := ⟨⟨by decide +kernel, by decide +kernel⟩, List.mem_of_getElem? (i := 1472) (by decide +kernel), List.mem_of_getElem? (i := 2066) (by decide +kernel), List.mem_of_getElem? (i := 2067) (by decide +kernel)⟩
theorem lw_p111 : lw_okq (⟨"EggGardenModel", "walks", "(II)V"⟩, 91) := ⟨⟨by decide +kernel, by decide +kernel⟩, List.mem_of_getElem? (i := 1472) (by decide +kernel), List.mem_of_getElem? (i := 2071) (by decide +kernel), List.mem_of_getElem? (i := 2072) (by decide +kernel)⟩
def lw_privs_7 : List (MethodName × Nat) := [(⟨"EggGardenModel", "fails", "(I)I"⟩, 91), (⟨"EggGardenModel", "isEgg", "(I)Z"⟩, 91), (⟨"EggGardenModel", "isChild", "(I)Z"⟩, 91), (⟨"EggGardenModel", "manyOf", "(II)I"⟩, 91), (⟨"EggGardenModel", "worthOf", "(II)I"⟩, 91), (⟨"EggGardenModel", "oddsOf", "(III)I"⟩, 91), (⟨"EggGardenModel", "oddsBy", "(IIIII)I"⟩, 91), (⟨"EggGardenModel", "ageOf", "(I)I"⟩, 91), (⟨"EggGardenModel", "remember", "()V"⟩, 91), (⟨"EggGardenModel", "put", "([II)V"⟩, 91), (⟨"EggGardenModel", "layEgg", "(IIII)V"⟩, 91), (⟨"EggGardenModel", "goOn", "(I)V"⟩, 91), (⟨"EggGardenModel", "looksAt", "(II)V"⟩, 91), (⟨"EggGardenModel", "number1", "(I)I"⟩, 91), (⟨"EggGardenModel", "lookedWeight", "(III)I"⟩, 91), (⟨"EggGardenModel", "walks", "(II)V"⟩, 91)]
theorem lw_r7 : ∀ q ∈ lw_privs_7, lw_okq q := List.forall_mem_cons.mpr ⟨lw_p96, List.forall_mem_cons.mpr ⟨lw_p97, List.forall_mem_cons.mpr ⟨lw_p98, List.forall_mem_cons.mpr ⟨lw_p99, List.forall_mem_cons.mpr ⟨lw_p100, List.forall_mem_cons.mpr ⟨lw_p101, List.forall_mem_cons.mpr ⟨lw_p102, List.forall_mem_cons.mpr ⟨lw_p103, List.forall_mem_cons.mpr ⟨lw_p104, List.forall_mem_cons.mpr ⟨lw_p105, List.forall_mem_cons.mpr ⟨lw_p106, List.forall_mem_cons.mpr ⟨lw_p107, List.forall_mem_cons.mpr ⟨lw_p108, List.forall_mem_cons.mpr ⟨lw_p109, List.forall_mem_cons.mpr ⟨lw_p110, List.forall_mem_cons.mpr ⟨lw_p111, fun _ h => absurd h List.not_mem_nil⟩⟩⟩⟩⟩⟩⟩⟩⟩⟩⟩⟩⟩⟩⟩⟩
theorem lw_p112 : lw_okq (⟨"EggGardenModel", "mayGo", "(II)Z"⟩, 91) := ⟨⟨by decide +kernel, by decide +kernel⟩, List.mem_of_getElem? (i := 1472) (by decide +kernel), List.mem_of_getElem? (i := 2075) (by decide +kernel), List.mem_of_getElem? (i := 2076) (by decide +kernel)⟩
theorem lw_p113 : lw_okq (⟨"EggGardenModel", "far", "(II)I"⟩, 91) := ⟨⟨by decide +kernel, by decide +kernel⟩, List.mem_of_getElem? (i := 1472) (by decide +kernel), List.mem_of_getElem? (i := 2079) (by decide +kernel), List.mem_of_getElem? (i := 2080) (by decide +kernel)⟩
theorem lw_p114 : lw_okq (⟨"EggGardenModel", "layLeft", "()V"⟩, 91) := ⟨⟨by decide +kernel, by decide +kernel⟩, List.mem_of_getElem? (i := 1472) (by decide +kernel), List.mem_of_getElem? (i := 2091) (by decide +kernel), List.mem_of_getElem? (i := 2092) (by decide +kernel)⟩
theorem lw_p115 : lw_okq (⟨"EggGardenModel", "nextOf", "(II)I"⟩, 91) := ⟨⟨by decide +kernel, by decide +kernel⟩, List.mem_of_getElem? (i := 1472) (by decide +kernel), List.mem_of_getElem? (i := 2095) (by decide +kernel), List.mem_of_getElem? (i := 2096) (by decide +kernel)⟩
theorem lw_p116 : lw_okq (⟨"EggGardenModel", "layPlace", "(IIII)V"⟩, 91) := ⟨⟨by decide +kernel, by decide +kernel⟩, List.mem_of_getElem? (i := 1472) (by decide +kernel), List.mem_of_getElem? (i := 2107) (by decide +kernel), List.mem_of_getElem? (i := 2108) (by decide +kernel)⟩
theorem lw_p117 : lw_okq (⟨"EggGardenModel", "layTried", "()V"⟩, 91) := ⟨⟨by decide +kernel, by decide +kernel⟩, List.mem_of_getElem? (i := 1472) (by decide +kernel), List.mem_of_getElem? (i := 2111) (by decide +kernel), List.mem_of_getElem? (i := 2112) (by decide +kernel)⟩
theorem lw_p118 : lw_okq (⟨"EggGardenModel", "goSure", "(I)V"⟩, 91) := ⟨⟨by decide +kernel, by decide +kernel⟩, List.mem_of_getElem? (i := 1472) (by decide +kernel), List.mem_of_getElem? (i := 2115) (by decide +kernel), List.mem_of_getElem? (i := 2116) (by decide +kernel)⟩
theorem lw_p119 : lw_okq (⟨"EggGardenModel", "unlike", "(I)I"⟩, 91) := ⟨⟨by decide +kernel, by decide +kernel⟩, List.mem_of_getElem? (i := 1472) (by decide +kernel), List.mem_of_getElem? (i := 2119) (by decide +kernel), List.mem_of_getElem? (i := 2120) (by decide +kernel)⟩
theorem lw_p120 : lw_okq (⟨"EggGardenModel", "tearsBy", "(II)I"⟩, 91) := ⟨⟨by decide +kernel, by decide +kernel⟩, List.mem_of_getElem? (i := 1472) (by decide +kernel), List.mem_of_getElem? (i := 2131) (by decide +kernel), List.mem_of_getElem? (i := 2132) (by decide +kernel)⟩
theorem lw_p121 : lw_okq (⟨"EggGardenModel", "restAt", "(I)I"⟩, 91) := ⟨⟨by decide +kernel, by decide +kernel⟩, List.mem_of_getElem? (i := 1472) (by decide +kernel), List.mem_of_getElem? (i := 2143) (by decide +kernel), List.mem_of_getElem? (i := 2144) (by decide +kernel)⟩
theorem lw_p122 : lw_okq (⟨"EggGardenModel", "layTops", "()V"⟩, 91) := ⟨⟨by decide +kernel, by decide +kernel⟩, List.mem_of_getElem? (i := 1472) (by decide +kernel), List.mem_of_getElem? (i := 2147) (by decide +kernel), List.mem_of_getElem? (i := 2148) (by decide +kernel)⟩
theorem lw_p123 : lw_okq (⟨"EggGardenModel", "isRest", "(II)Z"⟩, 91) := ⟨⟨by decide +kernel, by decide +kernel⟩, List.mem_of_getElem? (i := 1472) (by decide +kernel), List.mem_of_getElem? (i := 2151) (by decide +kernel), List.mem_of_getElem? (i := 2152) (by decide +kernel)⟩
theorem lw_p124 : lw_okq (⟨"EggGardenModel", "hasBy", "(II)I"⟩, 91) := ⟨⟨by decide +kernel, by decide +kernel⟩, List.mem_of_getElem? (i := 1472) (by decide +kernel), List.mem_of_getElem? (i := 2155) (by decide +kernel), List.mem_of_getElem? (i := 2156) (by decide +kernel)⟩
theorem lw_p125 : lw_okq (⟨"EggGardenModel", "keepOf", "(I)I"⟩, 91) := ⟨⟨by decide +kernel, by decide +kernel⟩, List.mem_of_getElem? (i := 1472) (by decide +kernel), List.mem_of_getElem? (i := 2172) (by decide +kernel), List.mem_of_getElem? (i := 2173) (by decide +kernel)⟩
theorem lw_p126 : lw_okq (⟨"EggGardenModel", "isTrade", "(IIII)Z"⟩, 91) := ⟨⟨by decide +kernel, by decide +kernel⟩, List.mem_of_getElem? (i := 1472) (by decide +kernel), List.mem_of_getElem? (i := 2184) (by decide +kernel), List.mem_of_getElem? (i := 2185) (by decide +kernel)⟩
theorem lw_p127 : lw_okq (⟨"EggGardenModel", "noted", "(IIII)I"⟩, 91) := ⟨⟨by decide +kernel, by decide +kernel⟩, List.mem_of_getElem? (i := 1472) (by decide +kernel), List.mem_of_getElem? (i := 2196) (by decide +kernel), List.mem_of_getElem? (i := 2197) (by decide +kernel)⟩
def lw_privs_8 : List (MethodName × Nat) := [(⟨"EggGardenModel", "mayGo", "(II)Z"⟩, 91), (⟨"EggGardenModel", "far", "(II)I"⟩, 91), (⟨"EggGardenModel", "layLeft", "()V"⟩, 91), (⟨"EggGardenModel", "nextOf", "(II)I"⟩, 91), (⟨"EggGardenModel", "layPlace", "(IIII)V"⟩, 91), (⟨"EggGardenModel", "layTried", "()V"⟩, 91), (⟨"EggGardenModel", "goSure", "(I)V"⟩, 91), (⟨"EggGardenModel", "unlike", "(I)I"⟩, 91), (⟨"EggGardenModel", "tearsBy", "(II)I"⟩, 91), (⟨"EggGardenModel", "restAt", "(I)I"⟩, 91), (⟨"EggGardenModel", "layTops", "()V"⟩, 91), (⟨"EggGardenModel", "isRest", "(II)Z"⟩, 91), (⟨"EggGardenModel", "hasBy", "(II)I"⟩, 91), (⟨"EggGardenModel", "keepOf", "(I)I"⟩, 91), (⟨"EggGardenModel", "isTrade", "(IIII)Z"⟩, 91), (⟨"EggGardenModel", "noted", "(IIII)I"⟩, 91)]
theorem lw_r8 : ∀ q ∈ lw_privs_8, lw_okq q := List.forall_mem_cons.mpr ⟨lw_p112, List.forall_mem_cons.mpr ⟨lw_p113, List.forall_mem_cons.mpr ⟨lw_p114, List.forall_mem_cons.mpr ⟨lw_p115, List.forall_mem_cons.mpr ⟨lw_p116, List.forall_mem_cons.mpr ⟨lw_p117, List.forall_mem_cons.mpr ⟨lw_p118, List.forall_mem_cons.mpr ⟨lw_p119, List.forall_mem_cons.mpr ⟨lw_p120, List.forall_mem_cons.mpr ⟨lw_p121, List.forall_mem_cons.mpr ⟨lw_p122, List.forall_mem_cons.mpr ⟨lw_p123, List.forall_mem_cons.mpr ⟨lw_p124, List.forall_mem_cons.mpr ⟨lw_p125, List.forall_mem_cons.mpr ⟨lw_p126, List.forall_mem_cons.mpr ⟨lw_p127, fun _ h => absurd h List.not_mem_nil⟩⟩⟩⟩⟩⟩⟩⟩⟩⟩⟩⟩⟩⟩⟩⟩
theorem lw_p128 : lw_okq (⟨"EggGardenModel", "knownBy", "()I"⟩, 91) := ⟨⟨by decide +kernel, by decide +kernel⟩, List.mem_of_getElem? (i := 1472) (by decide +kernel), List.mem_of_getElem? (i := 2212) (by decide +kernel), List.mem_of_getElem? (i := 2213) (by decide +kernel)⟩
theorem lw_p129 : lw_okq (⟨"EggGardenModel", "isSo", "(I)Z"⟩, 91) := ⟨⟨by decide +kernel, by decide +kernel⟩, List.mem_of_getElem? (i := 1472) (by decide +kernel), List.mem_of_getElem? (i := 2216) (by decide +kernel), List.mem_of_getElem? (i := 2217) (by decide +kernel)⟩
theorem lw_p130 : lw_okq (⟨"EggGardenModel", "foundIn", "(I)I"⟩, 91) := ⟨⟨by decide +kernel, by decide +kernel⟩, List.mem_of_getElem? (i := 1472) (by decide +kernel), List.mem_of_getElem? (i := 2228) (by decide +kernel), List.mem_of_getElem? (i := 2229) (by decide +kernel)⟩
theorem lw_p131 : lw_okq (⟨"EggGardenModel", "takesRow", "([II)V"⟩, 91) := ⟨⟨by decide +kernel, by decide +kernel⟩, List.mem_of_getElem? (i := 1472) (by decide +kernel), List.mem_of_getElem? (i := 2236) (by decide +kernel), List.mem_of_getElem? (i := 2237) (by decide +kernel)⟩
theorem lw_p132 : lw_okq (⟨"EggGardenModel", "manyEggs", "(I)I"⟩, 91) := ⟨⟨by decide +kernel, by decide +kernel⟩, List.mem_of_getElem? (i := 1472) (by decide +kernel), List.mem_of_getElem? (i := 2252) (by decide +kernel), List.mem_of_getElem? (i := 2253) (by decide +kernel)⟩
def lw_privs_9 : List (MethodName × Nat) := [(⟨"EggGardenModel", "knownBy", "()I"⟩, 91), (⟨"EggGardenModel", "isSo", "(I)Z"⟩, 91), (⟨"EggGardenModel", "foundIn", "(I)I"⟩, 91), (⟨"EggGardenModel", "takesRow", "([II)V"⟩, 91), (⟨"EggGardenModel", "manyEggs", "(I)I"⟩, 91)]
theorem lw_r9 : ∀ q ∈ lw_privs_9, lw_okq q := List.forall_mem_cons.mpr ⟨lw_p128, List.forall_mem_cons.mpr ⟨lw_p129, List.forall_mem_cons.mpr ⟨lw_p130, List.forall_mem_cons.mpr ⟨lw_p131, List.forall_mem_cons.mpr ⟨lw_p132, fun _ h => absurd h List.not_mem_nil⟩⟩⟩⟩⟩
def lw_privs : List (MethodName × Nat) := lw_privs_1 ++ (lw_privs_2 ++ (lw_privs_3 ++ (lw_privs_4 ++ (lw_privs_5 ++ (lw_privs_6 ++ (lw_privs_7 ++ (lw_privs_8 ++ (lw_privs_9))))))))
def lw_tbl : List Cond := k2_sels lw_privs ++ tables_1
theorem lw_privs_ok : ∀ q ∈ lw_privs, lw_okq q := by
  show ∀ q ∈ lw_privs_1 ++ (lw_privs_2 ++ (lw_privs_3 ++ (lw_privs_4 ++ (lw_privs_5 ++ (lw_privs_6 ++ (lw_privs_7 ++ (lw_privs_8 ++ (lw_privs_9)))))))), lw_okq q
  exact List.forall_mem_append.mpr ⟨lw_r1, List.forall_mem_append.mpr ⟨lw_r2, List.forall_mem_append.mpr ⟨lw_r3, List.forall_mem_append.mpr ⟨lw_r4, List.forall_mem_append.mpr ⟨lw_r5, List.forall_mem_append.mpr ⟨lw_r6, List.forall_mem_append.mpr ⟨lw_r7, List.forall_mem_append.mpr ⟨lw_r8, lw_r9⟩⟩⟩⟩⟩⟩⟩⟩
end
section
/-! NAMES of the classes and their fields: printed by the kit -/
def RX0 : String := "EggGarden$Child"
def TX0 : u_T := fun k => match k with
  | 0 => ("EggGarden$Child", "letters", "I", false)
  | 1 => ("EggGarden$Child", "cell", "I", false)
  | 2 => ("EggGarden$Child", "age", "I", false)
  | 3 => ("EggGarden$Child", "pace", "I", false)
  | 4 => ("EggGarden$Child", "start", "I", false)
  | 5 => ("EggGarden$Child", "looks", "I", false)
  | 6 => ("EggGarden$Child", "has", "I", false)
  | _ => ("EggGarden$Child", "emptyCell", "I", false)
def tyX0 : Nat → FieldType := fun k => match k with
  | 0 => .int
  | 1 => .int
  | 2 => .int
  | 3 => .int
  | 4 => .int
  | 5 => .int
  | 6 => .int
  | _ => .int
theorem nmX0 : ∀ a, a < 8 → ∀ b, b < 8 → a ≠ b → (TX0 a).2.1 ≠ (TX0 b).2.1 := by decide +kernel
theorem tyX0_ok : ∀ k, k < 8 → parseFieldDescriptor (TX0 k).2.2.1 = some (tyX0 k) := by decide +kernel
def RX1 : String := "EggGarden$Egg"
def TX1 : u_T := fun k => match k with
  | 0 => ("EggGarden$Egg", "cell", "I", false)
  | 1 => ("EggGarden$Egg", "color", "I", false)
  | 2 => ("EggGarden$Egg", "hard", "I", false)
  | _ => ("EggGarden$Egg", "owner", "I", false)
def tyX1 : Nat → FieldType := fun k => match k with
  | 0 => .int
  | 1 => .int
  | 2 => .int
  | _ => .int
theorem nmX1 : ∀ a, a < 4 → ∀ b, b < 4 → a ≠ b → (TX1 a).2.1 ≠ (TX1 b).2.1 := by decide +kernel
theorem tyX1_ok : ∀ k, k < 4 → parseFieldDescriptor (TX1 k).2.2.1 = some (tyX1 k) := by decide +kernel
def RX2 : String := "EggGarden$Formula"
def TX2 : u_T := fun k => match k with
  | 0 => ("EggGarden$Formula", "tokens", "LEggGarden$Tokens;", true)
  | 1 => ("EggGarden$Formula", "laws", "LEggGarden$Laws;", true)
  | 2 => ("EggGarden$Formula", "waiting", "[I", true)
  | 3 => ("EggGarden$Formula", "waits", "I", false)
  | 4 => ("EggGarden$Formula", "open", "I", false)
  | 5 => ("EggGarden$Formula", "compared", "[Z", true)
  | 6 => ("EggGarden$Formula", "wantsPart", "Z", false)
  | _ => ("EggGarden$Formula", "mayDeny", "Z", false)
def tyX2 : Nat → FieldType := fun k => match k with
  | 0 => .object "EggGarden$Tokens"
  | 1 => .object "EggGarden$Laws"
  | 2 => .array .int
  | 3 => .int
  | 4 => .int
  | 5 => .array .boolean
  | 6 => .boolean
  | _ => .boolean
theorem nmX2 : ∀ a, a < 8 → ∀ b, b < 8 → a ≠ b → (TX2 a).2.1 ≠ (TX2 b).2.1 := by decide +kernel
theorem tyX2_ok : ∀ k, k < 8 → parseFieldDescriptor (TX2 k).2.2.1 = some (tyX2 k) := by decide +kernel
def RX3 : String := "EggGarden$Laws"
def TX3 : u_T := fun k => match k with
  | 0 => ("EggGarden$Laws", "kind", "[I", true)
  | 1 => ("EggGarden$Laws", "number", "[I", true)
  | 2 => ("EggGarden$Laws", "from", "[I", true)
  | 3 => ("EggGarden$Laws", "to", "[I", true)
  | 4 => ("EggGarden$Laws", "values", "[J", true)
  | 5 => ("EggGarden$Laws", "knots", "I", false)
  | _ => ("EggGarden$Laws", "filled", "I", false)
def tyX3 : Nat → FieldType := fun k => match k with
  | 0 => .array .int
  | 1 => .array .int
  | 2 => .array .int
  | 3 => .array .int
  | 4 => .array .long
  | 5 => .int
  | _ => .int
theorem nmX3 : ∀ a, a < 7 → ∀ b, b < 7 → a ≠ b → (TX3 a).2.1 ≠ (TX3 b).2.1 := by decide +kernel
theorem tyX3_ok : ∀ k, k < 7 → parseFieldDescriptor (TX3 k).2.2.1 = some (tyX3 k) := by decide +kernel
def RX4 : String := "EggGarden$Morning"
def TX4 : u_T := fun k => match k with
  | 0 => ("EggGarden$Morning", "plan", "LEggGarden$Plan;", true)
  | 1 => ("EggGarden$Morning", "eggs", "[LEggGarden$Egg;", true)
  | 2 => ("EggGarden$Morning", "eggCount", "I", false)
  | 3 => ("EggGarden$Morning", "children", "[LEggGarden$Child;", true)
  | 4 => ("EggGarden$Morning", "childCount", "I", false)
  | 5 => ("EggGarden$Morning", "lookedAt", "[Z", true)
  | 6 => ("EggGarden$Morning", "weight", "[I", true)
  | 7 => ("EggGarden$Morning", "heap", "[I", true)
  | 8 => ("EggGarden$Morning", "second", "I", false)
  | 9 => ("EggGarden$Morning", "number", "I", false)
  | 10 => ("EggGarden$Morning", "rule", "I", false)
  | _ => ("EggGarden$Morning", "sun", "I", false)
def tyX4 : Nat → FieldType := fun k => match k with
  | 0 => .object "EggGarden$Plan"
  | 1 => .array (.object "EggGarden$Egg")
  | 2 => .int
  | 3 => .array (.object "EggGarden$Child")
  | 4 => .int
  | 5 => .array .boolean
  | 6 => .array .int
  | 7 => .array .int
  | 8 => .int
  | 9 => .int
  | 10 => .int
  | _ => .int
theorem nmX4 : ∀ a, a < 12 → ∀ b, b < 12 → a ≠ b → (TX4 a).2.1 ≠ (TX4 b).2.1 := by decide +kernel
theorem tyX4_ok : ∀ k, k < 12 → parseFieldDescriptor (TX4 k).2.2.1 = some (tyX4 k) := by decide +kernel
def RX5 : String := "EggGarden$Plan"
def TX5 : u_T := fun k => match k with
  | 0 => ("EggGarden$Plan", "wide", "I", false)
  | 1 => ("EggGarden$Plan", "high", "I", false)
  | 2 => ("EggGarden$Plan", "cells", "I", false)
  | 3 => ("EggGarden$Plan", "line", "I", false)
  | 4 => ("EggGarden$Plan", "dog", "I", false)
  | 5 => ("EggGarden$Plan", "seed", "I", false)
  | 6 => ("EggGarden$Plan", "column", "[I", true)
  | 7 => ("EggGarden$Plan", "row", "[I", true)
  | 8 => ("EggGarden$Plan", "kind", "[I", true)
  | 9 => ("EggGarden$Plan", "laws", "LEggGarden$Laws;", true)
  | 10 => ("EggGarden$Plan", "liked", "[I", true)
  | 11 => ("EggGarden$Plan", "left", "[I", true)
  | _ => ("EggGarden$Plan", "names", "[I", true)
def tyX5 : Nat → FieldType := fun k => match k with
  | 0 => .int
  | 1 => .int
  | 2 => .int
  | 3 => .int
  | 4 => .int
  | 5 => .int
  | 6 => .array .int
  | 7 => .array .int
  | 8 => .array .int
  | 9 => .object "EggGarden$Laws"
  | 10 => .array .int
  | 11 => .array .int
  | _ => .array .int
theorem nmX5 : ∀ a, a < 13 → ∀ b, b < 13 → a ≠ b → (TX5 a).2.1 ≠ (TX5 b).2.1 := by decide +kernel
theorem tyX5_ok : ∀ k, k < 13 → parseFieldDescriptor (TX5 k).2.2.1 = some (tyX5 k) := by decide +kernel
def RX6 : String := "EggGarden$Reader"
def TX6 : u_T := fun k => match k with
  | 0 => ("EggGarden$Reader", "tokens", "LEggGarden$Tokens;", true)
  | 1 => ("EggGarden$Reader", "formula", "LEggGarden$Formula;", true)
  | 2 => ("EggGarden$Reader", "plan", "LEggGarden$Plan;", true)
  | 3 => ("EggGarden$Reader", "morning", "LEggGarden$Morning;", true)
  | 4 => ("EggGarden$Reader", "toldOnce", "I", false)
  | 5 => ("EggGarden$Reader", "things", "I", false)
  | 6 => ("EggGarden$Reader", "cellsTold", "Z", false)
  | 7 => ("EggGarden$Reader", "number", "I", false)
  | 8 => ("EggGarden$Reader", "cell", "I", false)
  | 9 => ("EggGarden$Reader", "faultNumber", "I", false)
  | _ => ("EggGarden$Reader", "faultPlace", "I", false)
def tyX6 : Nat → FieldType := fun k => match k with
  | 0 => .object "EggGarden$Tokens"
  | 1 => .object "EggGarden$Formula"
  | 2 => .object "EggGarden$Plan"
  | 3 => .object "EggGarden$Morning"
  | 4 => .int
  | 5 => .int
  | 6 => .boolean
  | 7 => .int
  | 8 => .int
  | 9 => .int
  | _ => .int
theorem nmX6 : ∀ a, a < 11 → ∀ b, b < 11 → a ≠ b → (TX6 a).2.1 ≠ (TX6 b).2.1 := by decide +kernel
theorem tyX6_ok : ∀ k, k < 11 → parseFieldDescriptor (TX6 k).2.2.1 = some (tyX6 k) := by decide +kernel
def RX7 : String := "EggGarden$Seen"
def TX7 : u_T := fun k => match k with
  | 0 => ("EggGarden$Seen", "seconds", "[I", true)
  | 1 => ("EggGarden$Seen", "child", "[I", true)
  | 2 => ("EggGarden$Seen", "many", "[I", true)
  | 3 => ("EggGarden$Seen", "atLeast", "[Z", true)
  | 4 => ("EggGarden$Seen", "strikes", "[I", true)
  | 5 => ("EggGarden$Seen", "struck", "[Z", true)
  | 6 => ("EggGarden$Seen", "filled", "I", false)
  | _ => ("EggGarden$Seen", "knownBy", "I", false)
def tyX7 : Nat → FieldType := fun k => match k with
  | 0 => .array .int
  | 1 => .array .int
  | 2 => .array .int
  | 3 => .array .boolean
  | 4 => .array .int
  | 5 => .array .boolean
  | 6 => .int
  | _ => .int
theorem nmX7 : ∀ a, a < 8 → ∀ b, b < 8 → a ≠ b → (TX7 a).2.1 ≠ (TX7 b).2.1 := by decide +kernel
theorem tyX7_ok : ∀ k, k < 8 → parseFieldDescriptor (TX7 k).2.2.1 = some (tyX7 k) := by decide +kernel
def RX8 : String := "EggGarden$Tokens"
def TX8 : u_T := fun k => match k with
  | 0 => ("EggGarden$Tokens", "tape", "[I", true)
  | 1 => ("EggGarden$Tokens", "words", "[I", true)
  | 2 => ("EggGarden$Tokens", "length", "I", false)
  | 3 => ("EggGarden$Tokens", "at", "I", false)
  | 4 => ("EggGarden$Tokens", "kind", "I", false)
  | 5 => ("EggGarden$Tokens", "value", "I", false)
  | _ => ("EggGarden$Tokens", "place", "I", false)
def tyX8 : Nat → FieldType := fun k => match k with
  | 0 => .array .int
  | 1 => .array .int
  | 2 => .int
  | 3 => .int
  | 4 => .int
  | 5 => .int
  | _ => .int
theorem nmX8 : ∀ a, a < 7 → ∀ b, b < 7 → a ≠ b → (TX8 a).2.1 ≠ (TX8 b).2.1 := by decide +kernel
theorem tyX8_ok : ∀ k, k < 7 → parseFieldDescriptor (TX8 k).2.2.1 = some (tyX8 k) := by decide +kernel
def RX9 : String := "EggGarden$Trials"
def TX9 : u_T := fun k => match k with
  | 0 => ("EggGarden$Trials", "plan", "LEggGarden$Plan;", true)
  | 1 => ("EggGarden$Trials", "now", "LEggGarden$Morning;", true)
  | 2 => ("EggGarden$Trials", "first", "LEggGarden$Morning;", true)
  | 3 => ("EggGarden$Trials", "seen", "LEggGarden$Seen;", true)
  | 4 => ("EggGarden$Trials", "trial", "LEggGarden$Morning;", true)
  | 5 => ("EggGarden$Trials", "path", "[I", true)
  | 6 => ("EggGarden$Trials", "pathLength", "I", false)
  | 7 => ("EggGarden$Trials", "eggCell", "[I", true)
  | 8 => ("EggGarden$Trials", "gone", "[Z", true)
  | 9 => ("EggGarden$Trials", "hiddenAt", "[I", true)
  | 10 => ("EggGarden$Trials", "has", "[I", true)
  | 11 => ("EggGarden$Trials", "asked", "[I", true)
  | 12 => ("EggGarden$Trials", "sure", "[I", true)
  | 13 => ("EggGarden$Trials", "newColor", "I", false)
  | 14 => ("EggGarden$Trials", "newHard", "I", false)
  | 15 => ("EggGarden$Trials", "least", "I", false)
  | 16 => ("EggGarden$Trials", "placed", "[I", true)
  | 17 => ("EggGarden$Trials", "greatest", "[I", true)
  | 18 => ("EggGarden$Trials", "bushes", "I", false)
  | _ => ("EggGarden$Trials", "restPairs", "[I", true)
def tyX9 : Nat → FieldType := fun k => match k with
  | 0 => .object "EggGarden$Plan"
  | 1 => .object "EggGarden$Morning"
  | 2 => .object "EggGarden$Morning"
  | 3 => .object "EggGarden$Seen"
  | 4 => .object "EggGarden$Morning"
  | 5 => .array .int
  | 6 => .int
  | 7 => .array .int
  | 8 => .array .boolean
  | 9 => .array .int
  | 10 => .array .int
  | 11 => .array .int
  | 12 => .array .int
  | 13 => .int
  | 14 => .int
  | 15 => .int
  | 16 => .array .int
  | 17 => .array .int
  | 18 => .int
  | _ => .array .int
theorem nmX9 : ∀ a, a < 20 → ∀ b, b < 20 → a ≠ b → (TX9 a).2.1 ≠ (TX9 b).2.1 := by decide +kernel
theorem tyX9_ok : ∀ k, k < 20 → parseFieldDescriptor (TX9 k).2.2.1 = some (tyX9 k) := by decide +kernel
def RX10 : String := "EggGarden$Undoing"
def TX10 : u_T := fun k => match k with
  | 0 => ("EggGarden$Undoing", "what", "[I", true)
  | 1 => ("EggGarden$Undoing", "whose", "[I", true)
  | 2 => ("EggGarden$Undoing", "where", "[I", true)
  | 3 => ("EggGarden$Undoing", "hard", "[I", true)
  | _ => ("EggGarden$Undoing", "left", "I", false)
def tyX10 : Nat → FieldType := fun k => match k with
  | 0 => .array .int
  | 1 => .array .int
  | 2 => .array .int
  | 3 => .array .int
  | _ => .int
theorem nmX10 : ∀ a, a < 5 → ∀ b, b < 5 → a ≠ b → (TX10 a).2.1 ≠ (TX10 b).2.1 := by decide +kernel
theorem tyX10_ok : ∀ k, k < 5 → parseFieldDescriptor (TX10 k).2.2.1 = some (tyX10 k) := by decide +kernel
def RX11 : String := "EggGarden"
def TX11 : u_T := fun k => match k with
  | 0 => ("EggGarden", "tape", "[I", true)
  | 1 => ("EggGarden", "tapeLength", "I", false)
  | 2 => ("EggGarden", "latestFault", "I", false)
  | 3 => ("EggGarden", "latestPlace", "I", false)
  | 4 => ("EggGarden", "reader", "LEggGarden$Reader;", true)
  | 5 => ("EggGarden", "plan", "LEggGarden$Plan;", true)
  | 6 => ("EggGarden", "first", "LEggGarden$Morning;", true)
  | 7 => ("EggGarden", "now", "LEggGarden$Morning;", true)
  | 8 => ("EggGarden", "image", "LEggGarden$Morning;", true)
  | 9 => ("EggGarden", "imageKept", "Z", false)
  | 10 => ("EggGarden", "seen", "LEggGarden$Seen;", true)
  | 11 => ("EggGarden", "undoing", "LEggGarden$Undoing;", true)
  | _ => ("EggGarden", "trials", "LEggGarden$Trials;", true)
def tyX11 : Nat → FieldType := fun k => match k with
  | 0 => .array .int
  | 1 => .int
  | 2 => .int
  | 3 => .int
  | 4 => .object "EggGarden$Reader"
  | 5 => .object "EggGarden$Plan"
  | 6 => .object "EggGarden$Morning"
  | 7 => .object "EggGarden$Morning"
  | 8 => .object "EggGarden$Morning"
  | 9 => .boolean
  | 10 => .object "EggGarden$Seen"
  | 11 => .object "EggGarden$Undoing"
  | _ => .object "EggGarden$Trials"
theorem nmX11 : ∀ a, a < 13 → ∀ b, b < 13 → a ≠ b → (TX11 a).2.1 ≠ (TX11 b).2.1 := by decide +kernel
theorem tyX11_ok : ∀ k, k < 13 → parseFieldDescriptor (TX11 k).2.2.1 = some (tyX11 k) := by decide +kernel
def RX12 : String := "EggGardenModel"
def TX12 : u_T := fun k => match k with
  | 0 => ("EggGardenModel", "tape", "[I", true)
  | 1 => ("EggGardenModel", "tapeSize", "I", false)
  | 2 => ("EggGardenModel", "thrown", "I", false)
  | 3 => ("EggGardenModel", "words", "[I", true)
  | 4 => ("EggGardenModel", "fault", "I", false)
  | 5 => ("EggGardenModel", "faultPlace", "I", false)
  | 6 => ("EggGardenModel", "stop", "I", false)
  | 7 => ("EggGardenModel", "next", "I", false)
  | 8 => ("EggGardenModel", "kind", "I", false)
  | 9 => ("EggGardenModel", "which", "I", false)
  | 10 => ("EggGardenModel", "at", "I", false)
  | 11 => ("EggGardenModel", "got", "I", false)
  | 12 => ("EggGardenModel", "wide", "I", false)
  | 13 => ("EggGardenModel", "high", "I", false)
  | 14 => ("EggGardenModel", "told", "I", false)
  | 15 => ("EggGardenModel", "children", "I", false)
  | 16 => ("EggGardenModel", "knots", "I", false)
  | 17 => ("EggGardenModel", "wideRead", "I", false)
  | 18 => ("EggGardenModel", "highRead", "I", false)
  | 19 => ("EggGardenModel", "eggsRead", "I", false)
  | 20 => ("EggGardenModel", "childrenRead", "I", false)
  | 21 => ("EggGardenModel", "knotsRead", "I", false)
  | 22 => ("EggGardenModel", "kindsRead", "I", false)
  | 23 => ("EggGardenModel", "hasCells", "Z", false)
  | 24 => ("EggGardenModel", "onceTold", "[Z", true)
  | 25 => ("EggGardenModel", "once", "[I", true)
  | 26 => ("EggGardenModel", "kindOf", "[I", true)
  | 27 => ("EggGardenModel", "kindTold", "[Z", true)
  | 28 => ("EggGardenModel", "eggCell", "[I", true)
  | 29 => ("EggGardenModel", "eggColor", "[I", true)
  | 30 => ("EggGardenModel", "eggHard", "[I", true)
  | 31 => ("EggGardenModel", "childName", "[I", true)
  | 32 => ("EggGardenModel", "childCell", "[I", true)
  | 33 => ("EggGardenModel", "childAge", "[I", true)
  | 34 => ("EggGardenModel", "childPace", "[I", true)
  | 35 => ("EggGardenModel", "childStart", "[I", true)
  | 36 => ("EggGardenModel", "lawTold", "[Z", true)
  | 37 => ("EggGardenModel", "first", "[I", true)
  | 38 => ("EggGardenModel", "last", "[I", true)
  | 39 => ("EggGardenModel", "knot", "[I", true)
  | 40 => ("EggGardenModel", "part", "[I", true)
  | 41 => ("EggGardenModel", "other", "[I", true)
  | 42 => ("EggGardenModel", "placeOfY", "I", false)
  | 43 => ("EggGardenModel", "wait", "[I", true)
  | 44 => ("EggGardenModel", "held", "[I", true)
  | 45 => ("EggGardenModel", "waits", "I", false)
  | 46 => ("EggGardenModel", "helds", "I", false)
  | 47 => ("EggGardenModel", "brackets", "I", false)
  | 48 => ("EggGardenModel", "counted", "I", false)
  | 49 => ("EggGardenModel", "wants", "Z", false)
  | 50 => ("EggGardenModel", "mayNot", "Z", false)
  | 51 => ("EggGardenModel", "names", "[J", true)
  | 52 => ("EggGardenModel", "value", "[J", true)
  | 53 => ("EggGardenModel", "isError", "Z", false)
  | 54 => ("EggGardenModel", "whose", "[I", true)
  | 55 => ("EggGardenModel", "eggs", "[I", true)
  | 56 => ("EggGardenModel", "stands", "[I", true)
  | 57 => ("EggGardenModel", "starts1", "[I", true)
  | 58 => ("EggGardenModel", "looks", "[I", true)
  | 59 => ("EggGardenModel", "looked", "[J", true)
  | 60 => ("EggGardenModel", "second", "[I", true)
  | 61 => ("EggGardenModel", "weight", "[I", true)
  | 62 => ("EggGardenModel", "rule", "I", false)
  | 63 => ("EggGardenModel", "drawn", "J", false)
  | 64 => ("EggGardenModel", "ruleBy", "I", false)
  | 65 => ("EggGardenModel", "sure", "Z", false)
  | 66 => ("EggGardenModel", "noSun", "Z", false)
  | 67 => ("EggGardenModel", "noWalk", "Z", false)
  | 68 => ("EggGardenModel", "allEleven", "Z", false)
  | 69 => ("EggGardenModel", "without", "I", false)
  | 70 => ("EggGardenModel", "left", "[I", true)
  | 71 => ("EggGardenModel", "placeUnlike", "I", false)
  | 72 => ("EggGardenModel", "placeOne", "I", false)
  | 73 => ("EggGardenModel", "placeTwo", "I", false)
  | 74 => ("EggGardenModel", "top", "[I", true)
  | 75 => ("EggGardenModel", "tops", "I", false)
  | 76 => ("EggGardenModel", "dealt", "[I", true)
  | 77 => ("EggGardenModel", "seenMany", "I", false)
  | 78 => ("EggGardenModel", "knownTold", "I", false)
  | 79 => ("EggGardenModel", "seen", "[I", true)
  | 80 => ("EggGardenModel", "counts", "[Z", true)
  | 81 => ("EggGardenModel", "undos", "I", false)
  | 82 => ("EggGardenModel", "undo", "[I", true)
  | 83 => ("EggGardenModel", "hasImage", "Z", false)
  | 84 => ("EggGardenModel", "image", "[I", true)
  | 85 => ("EggGardenModel", "imageWhose", "[I", true)
  | 86 => ("EggGardenModel", "imageLooks", "[I", true)
  | 87 => ("EggGardenModel", "imageWeight", "[I", true)
  | 88 => ("EggGardenModel", "imageLooked", "J", false)
  | 89 => ("EggGardenModel", "imageSecond", "I", false)
  | _ => ("EggGardenModel", "imageDrawn", "J", false)
def tyX12 : Nat → FieldType := fun k => match k with
  | 0 => .array .int
  | 1 => .int
  | 2 => .int
  | 3 => .array .int
  | 4 => .int
  | 5 => .int
  | 6 => .int
  | 7 => .int
  | 8 => .int
  | 9 => .int
  | 10 => .int
  | 11 => .int
  | 12 => .int
  | 13 => .int
  | 14 => .int
  | 15 => .int
  | 16 => .int
  | 17 => .int
  | 18 => .int
  | 19 => .int
  | 20 => .int
  | 21 => .int
  | 22 => .int
  | 23 => .boolean
  | 24 => .array .boolean
  | 25 => .array .int
  | 26 => .array .int
  | 27 => .array .boolean
  | 28 => .array .int
  | 29 => .array .int
  | 30 => .array .int
  | 31 => .array .int
  | 32 => .array .int
  | 33 => .array .int
  | 34 => .array .int
  | 35 => .array .int
  | 36 => .array .boolean
  | 37 => .array .int
  | 38 => .array .int
  | 39 => .array .int
  | 40 => .array .int
  | 41 => .array .int
  | 42 => .int
  | 43 => .array .int
  | 44 => .array .int
  | 45 => .int
  | 46 => .int
  | 47 => .int
  | 48 => .int
  | 49 => .boolean
  | 50 => .boolean
  | 51 => .array .long
  | 52 => .array .long
  | 53 => .boolean
  | 54 => .array .int
  | 55 => .array .int
  | 56 => .array .int
  | 57 => .array .int
  | 58 => .array .int
  | 59 => .array .long
  | 60 => .array .int
  | 61 => .array .int
  | 62 => .int
  | 63 => .long
  | 64 => .int
  | 65 => .boolean
  | 66 => .boolean
  | 67 => .boolean
  | 68 => .boolean
  | 69 => .int
  | 70 => .array .int
  | 71 => .int
  | 72 => .int
  | 73 => .int
  | 74 => .array .int
  | 75 => .int
  | 76 => .array .int
  | 77 => .int
  | 78 => .int
  | 79 => .array .int
  | 80 => .array .boolean
  | 81 => .int
  | 82 => .array .int
  | 83 => .boolean
  | 84 => .array .int
  | 85 => .array .int
  | 86 => .array .int
  | 87 => .array .int
  | 88 => .long
  | 89 => .int
  | _ => .long
theorem nmX12 : ∀ a, a < 91 → ∀ b, b < 91 → a ≠ b → (TX12 a).2.1 ≠ (TX12 b).2.1 := by decide +kernel
theorem tyX12_ok : ∀ k, k < 91 → parseFieldDescriptor (TX12 k).2.2.1 = some (tyX12 k) := by decide +kernel
def zt_cl : List vw_C := [(RX0, TX0, 8), (RX1, TX1, 4), (RX2, TX2, 8), (RX3, TX3, 7), (RX4, TX4, 12), (RX5, TX5, 13), (RX6, TX6, 11), (RX7, TX7, 8), (RX8, TX8, 7), (RX9, TX9, 20), (RX10, TX10, 5), (RX11, TX11, 13), (RX12, TX12, 91)]
def zt_c0 : List (FieldType × Bool) := [(.int, false), (.int, false), (.int, false), (.int, false), (.int, false), (.int, false), (.int, false), (.int, false)]
def zt_c1 : List (FieldType × Bool) := [(.int, false), (.int, false), (.int, false), (.int, false)]
def zt_c2 : List (FieldType × Bool) := [(.object "EggGarden$Tokens", true), (.object "EggGarden$Laws", true), (.array .int, true), (.int, false), (.int, false), (.array .boolean, true), (.boolean, false), (.boolean, false)]
def zt_c3 : List (FieldType × Bool) := [(.array .int, true), (.array .int, true), (.array .int, true), (.array .int, true), (.array .long, true), (.int, false), (.int, false)]
def zt_c4 : List (FieldType × Bool) := [(.object "EggGarden$Plan", true), (.array (.object "EggGarden$Egg"), true), (.int, false), (.array (.object "EggGarden$Child"), true), (.int, false), (.array .boolean, true), (.array .int, true), (.array .int, true), (.int, false), (.int, false), (.int, false), (.int, false)]
def zt_c5 : List (FieldType × Bool) := [(.int, false), (.int, false), (.int, false), (.int, false), (.int, false), (.int, false), (.array .int, true), (.array .int, true), (.array .int, true), (.object "EggGarden$Laws", true), (.array .int, true), (.array .int, true), (.array .int, true)]
def zt_c6 : List (FieldType × Bool) := [(.object "EggGarden$Tokens", true), (.object "EggGarden$Formula", true), (.object "EggGarden$Plan", true), (.object "EggGarden$Morning", true), (.int, false), (.int, false), (.boolean, false), (.int, false), (.int, false), (.int, false), (.int, false)]
def zt_c7 : List (FieldType × Bool) := [(.array .int, true), (.array .int, true), (.array .int, true), (.array .boolean, true), (.array .int, true), (.array .boolean, true), (.int, false), (.int, false)]
def zt_c8 : List (FieldType × Bool) := [(.array .int, true), (.array .int, true), (.int, false), (.int, false), (.int, false), (.int, false), (.int, false)]
def zt_c9 : List (FieldType × Bool) := [(.object "EggGarden$Plan", true), (.object "EggGarden$Morning", true), (.object "EggGarden$Morning", true), (.object "EggGarden$Seen", true), (.object "EggGarden$Morning", true), (.array .int, true), (.int, false), (.array .int, true), (.array .boolean, true), (.array .int, true), (.array .int, true), (.array .int, true), (.array .int, true), (.int, false), (.int, false), (.int, false), (.array .int, true), (.array .int, true), (.int, false), (.array .int, true)]
def zt_c10 : List (FieldType × Bool) := [(.array .int, true), (.array .int, true), (.array .int, true), (.array .int, true), (.int, false)]
def zt_c11 : List (FieldType × Bool) := [(.array .int, true), (.int, false), (.int, false), (.int, false), (.object "EggGarden$Reader", true), (.object "EggGarden$Plan", true), (.object "EggGarden$Morning", true), (.object "EggGarden$Morning", true), (.object "EggGarden$Morning", true), (.boolean, false), (.object "EggGarden$Seen", true), (.object "EggGarden$Undoing", true), (.object "EggGarden$Trials", true)]
def zt_c12 : List (FieldType × Bool) := [(.array .int, true), (.int, false), (.int, false), (.array .int, true), (.int, false), (.int, false), (.int, false), (.int, false), (.int, false), (.int, false), (.int, false), (.int, false), (.int, false), (.int, false), (.int, false), (.int, false), (.int, false), (.int, false), (.int, false), (.int, false), (.int, false), (.int, false), (.int, false), (.boolean, false), (.array .boolean, true), (.array .int, true), (.array .int, true), (.array .boolean, true), (.array .int, true), (.array .int, true), (.array .int, true), (.array .int, true), (.array .int, true), (.array .int, true), (.array .int, true), (.array .int, true), (.array .boolean, true), (.array .int, true), (.array .int, true), (.array .int, true), (.array .int, true), (.array .int, true), (.int, false), (.array .int, true), (.array .int, true), (.int, false), (.int, false), (.int, false), (.int, false), (.boolean, false), (.boolean, false), (.array .long, true), (.array .long, true), (.boolean, false), (.array .int, true), (.array .int, true), (.array .int, true), (.array .int, true), (.array .int, true), (.array .long, true), (.array .int, true), (.array .int, true), (.int, false), (.long, false), (.int, false), (.boolean, false), (.boolean, false), (.boolean, false), (.boolean, false), (.int, false), (.array .int, true), (.int, false), (.int, false), (.int, false), (.array .int, true), (.int, false), (.array .int, true), (.int, false), (.int, false), (.array .int, true), (.array .boolean, true), (.int, false), (.array .int, true), (.boolean, false), (.array .int, true), (.array .int, true), (.array .int, true), (.array .int, true), (.long, false), (.int, false), (.long, false)]
def zt_ct : List (List (FieldType × Bool)) := [zt_c0, zt_c1, zt_c2, zt_c3, zt_c4, zt_c5, zt_c6, zt_c7, zt_c8, zt_c9, zt_c10, zt_c11, zt_c12]
def zt_at : List Nat := [1, 0]
def zt_sct : List (List Int32) := [[103, 97, 114, 100, 101, 110, 98, 117, 115, 104, 32, 32, 112, 111, 116, 32, 32, 32, 116, 114, 101, 101, 32, 32, 101, 103, 103, 32, 32, 32, 99, 104, 105, 108, 100, 32, 114, 117, 108, 101, 32, 32, 108, 105, 110, 101, 32, 32, 100, 111, 103, 32, 32, 32, 115, 117, 110, 32, 32, 32, 115, 101, 101, 100, 32, 32, 108, 97, 119, 32, 32, 32, 114, 101, 100, 32, 32, 32, 98, 108, 117, 101, 32, 32, 103, 114, 101, 101, 110, 32, 103, 111, 108, 100, 32, 32, 102, 114, 101, 101, 32, 32, 111, 119, 110, 32, 32, 32, 98, 101, 104, 105, 110, 100, 115, 101, 101, 32, 32, 32, 104, 105, 100, 101, 32, 32, 106, 111, 121, 32, 32, 32, 107, 101, 101, 112, 32, 32, 111, 114, 32, 32, 32, 32, 97, 110, 100, 32, 32, 32, 110, 111, 116, 32, 32, 32, 97, 103, 101, 32, 32, 32, 104, 97, 114, 100, 32, 32, 107, 105, 110, 100, 32, 32, 99, 111, 108, 111, 114, 32, 109, 105, 110, 101, 32, 32, 114, 111, 119, 32, 32, 32, 109, 97, 110, 121, 32, 32]]
def zt_K0 : xv_K := ([(9, 0, 7)], [(3, 5, 0)], [], [], [])
def zt_K1 : xv_K := ([], [(1, 5, 0)], [], [], [])
def zt_K2 : xv_K := ([(9, 2, 2), (15, 2, 5), (19, 2, 0), (23, 2, 1)], [(3, 5, 0)], [], [], [])
def zt_K3 : xv_K := ([(9, 3, 0), (15, 3, 1), (18, 3, 2), (21, 3, 3), (24, 3, 4), (28, 3, 5), (32, 3, 6)], [(3, 5, 0), (35, 6, 0)], [], [], [(41, -9223372036854775808), (51, 1000000000000), (53, -1000000000000)])
def zt_K4 : xv_K := ([(11, 4, 1), (19, 4, 3), (23, 4, 5), (27, 4, 6), (31, 4, 7), (34, 4, 0), (40, 4, 2), (44, 4, 4), (47, 4, 8), (50, 4, 9), (53, 4, 10), (57, 4, 11), (67, 0, 0), (70, 1, 0), (73, 1, 1), (76, 1, 2), (79, 1, 3), (82, 0, 4), (102, 0, 6), (152, 5, 2), (161, 5, 4)], [(3, 5, 0), (38, 2, 5), (39, 2, 6), (93, 0, 88), (176, 0, 57), (180, 0, 53), (206, 0, 105)], [(9, 1), (17, 0), (70009, 1000), (70017, 1001)], [(56, 1000000)], [(183, -9223372036854775808)])
def zt_K5 : xv_K := ([(9, 5, 6), (15, 5, 7), (18, 5, 8), (24, 5, 9), (28, 5, 10), (31, 5, 11), (34, 5, 12), (37, 5, 3), (41, 5, 4), (44, 5, 5), (54, 5, 0), (57, 5, 1), (60, 5, 2), (107, 4, 6), (112, 4, 4), (115, 4, 3), (119, 0, 2)], [(3, 5, 0), (23, 2, 3), (47, 0, 14), (50, 0, 15), (63, 0, 21), (67, 6, 0), (79, 0, 26), (93, 0, 25), (103, 0, 24), (131, 3, 128)], [(21, 3)], [], [(83, -9223372036854775808), (134, -1)])
def zt_K6 : xv_K := ([(12, 6, 2), (23, 6, 3), (32, 6, 0), (38, 5, 9), (45, 6, 1), (53, 6, 4), (57, 6, 5), (60, 6, 6), (64, 6, 9), (67, 6, 10), (77, 8, 4), (84, 5, 5), (87, 4, 9)], [(3, 5, 0), (11, 2, 2), (20, 1, 4), (29, 1, 7), (42, 1, 8), (49, 0, 13), (52, 0, 16), (70, 0, 17), (74, 0, 18)], [(9, 5), (18, 4), (27, 8), (36, 2)], [], [])
def zt_K7 : xv_K := ([(9, 7, 0), (15, 7, 1), (18, 7, 2), (21, 7, 3), (25, 7, 4), (28, 7, 5), (31, 7, 7), (35, 7, 6)], [(3, 5, 0)], [], [], [])
def zt_K8 : xv_K := ([(9, 8, 1), (15, 8, 0), (26, 8, 2), (30, 8, 3), (33, 8, 4), (36, 8, 5), (39, 8, 6)], [(3, 5, 0), (20, 4, 0)], [(18, 2000)], [], [])
def zt_K9 : xv_K := ([(9, 9, 5), (15, 9, 7), (18, 9, 8), (22, 9, 9), (25, 9, 10), (28, 9, 11), (31, 9, 12), (34, 9, 16), (37, 9, 17), (40, 9, 19), (43, 4, 0), (49, 9, 0), (50, 9, 1), (54, 9, 2), (57, 9, 3), (64, 9, 4), (71, 4, 3), (85, 4, 6), (111, 5, 2), (121, 4, 4), (124, 0, 4), (130, 4, 11), (191, 0, 2), (205, 9, 18), (220, 4, 10), (246, 0, 3)], [(3, 5, 0), (61, 1, 4), (67, 0, 22), (133, 0, 87), (208, 0, 114), (211, 0, 115), (214, 0, 116), (223, 0, 104), (226, 0, 103), (249, 0, 153)], [(44, 4)], [(107, 1000000)], [])
def zt_K10 : xv_K := ([(9, 10, 0), (15, 10, 1), (18, 10, 2), (21, 10, 3), (24, 10, 4), (45, 4, 2), (54, 4, 3), (58, 0, 1), (61, 4, 10)], [(3, 5, 0), (31, 0, 74), (50, 0, 72)], [], [], [])
def zt_K11 : xv_K := ([(9, 11, 0), (13, 11, 3), (22, 11, 4), (29, 11, 5), (38, 11, 6), (42, 11, 7), (45, 11, 8), (51, 11, 10), (58, 11, 11), (67, 11, 12), (78, 11, 1), (85, 6, 9), (88, 11, 2), (91, 6, 10), (94, 6, 2), (98, 6, 3), (107, 11, 9), (150, 4, 1), (154, 1, 0), (159, 1, 1), (162, 1, 2), (165, 1, 3), (171, 4, 3), (175, 0, 1), (178, 0, 6), (184, 0, 5), (213, 4, 2), (231, 4, 10), (237, 4, 8), (244, 4, 6), (254, 4, 4), (257, 5, 2), (264, 9, 15), (267, 9, 16), (286, 9, 19), (314, 7, 6), (317, 7, 7), (335, 10, 4), (338, 5, 0), (341, 5, 1), (344, 5, 9), (348, 3, 5)], [(1, 5, 0), (19, 1, 1), (28, 2, 2), (35, 1, 4), (50, 2, 9), (57, 2, 10), (64, 1, 11), (71, 0, 12), (75, 0, 19), (81, 0, 41), (95, 0, 20), (101, 0, 22), (104, 0, 23), (111, 0, 27), (114, 0, 28), (115, 0, 49), (118, 0, 66), (147, 0, 53), (168, 0, 57), (194, 0, 65), (198, 0, 24), (207, 3, 70), (210, 3, 71), (216, 0, 72), (220, 0, 73), (234, 0, 84), (240, 0, 87), (270, 3, 99), (276, 0, 103), (279, 0, 111), (282, 0, 113), (291, 0, 127), (295, 0, 130), (301, 0, 136), (311, 0, 142), (327, 0, 152), (331, 0, 156), (353, 0, 164), (356, 0, 153), (359, 0, 166), (362, 0, 167), (365, 0, 169)], [(17, 6), (26, 5), (33, 4), (48, 7), (55, 10), (62, 9)], [(250, 99999)], [(202, -9223372036854775808), (289, -1)])
def zt_K12 : xv_K := ([(7, 12, 0), (13, 12, 3), (16, 12, 5), (20, 12, 24), (24, 12, 25), (27, 12, 26), (30, 12, 27), (33, 12, 28), (36, 12, 29), (39, 12, 30), (42, 12, 31), (45, 12, 32), (48, 12, 33), (51, 12, 34), (54, 12, 35), (57, 12, 36), (60, 12, 37), (63, 12, 38), (66, 12, 39), (69, 12, 40), (72, 12, 41), (75, 12, 43), (78, 12, 44), (81, 12, 51), (85, 12, 52), (88, 12, 54), (91, 12, 55), (94, 12, 56), (97, 12, 57), (100, 12, 58), (103, 12, 59), (106, 12, 60), (109, 12, 61), (112, 12, 69), (115, 12, 70), (118, 12, 74), (121, 12, 76), (124, 12, 78), (127, 12, 79), (130, 12, 80), (133, 12, 82), (136, 12, 84), (139, 12, 85), (142, 12, 86), (145, 12, 87), (154, 12, 2), (157, 12, 1), (160, 12, 4), (163, 12, 10), (166, 12, 6), (169, 12, 7), (172, 12, 8), (183, 12, 9), (216, 12, 17), (219, 12, 18), (222, 12, 19), (225, 12, 20), (228, 12, 21), (231, 12, 22), (234, 12, 48), (237, 12, 23), (241, 12, 12), (244, 12, 13), (247, 12, 14), (250, 12, 15), (253, 12, 16), (353, 12, 53), (378, 12, 62), (381, 12, 63), (391, 12, 77), (394, 12, 81), (397, 12, 83), (400, 12, 64), (403, 12, 65), (406, 12, 66), (409, 12, 67), (412, 12, 68), (509, 12, 71), (521, 12, 72), (524, 12, 73), (533, 12, 75), (576, 12, 88), (579, 12, 89), (582, 12, 90)], [(1, 5, 0), (148, 0, 30), (151, 0, 31), (199, 3, 64), (206, 0, 45), (256, 3, 32), (260, 0, 33), (273, 3, 51), (372, 0, 36), (375, 0, 34), (385, 0, 35), (388, 0, 37), (422, 0, 38), (426, 0, 39), (459, 3, 120), (476, 0, 67), (482, 0, 55), (485, 0, 59), (493, 0, 75), (496, 0, 77), (500, 0, 89), (512, 0, 107), (515, 0, 108), (518, 0, 170), (530, 0, 106), (536, 0, 122), (539, 0, 119), (542, 0, 121), (545, 0, 118), (561, 0, 168), (567, 0, 154), (570, 0, 76), (585, 0, 165)], [], [(192, 99999)], [(491, -9223372036854775808), (548, -1)])
def zt_KL : xv_K := ([], [(17, 1, 0), (20, 1, 29), (21, 0, 40), (25, 0, 42), (26, 0, 43), (30, 0, 44), (31, 0, 46), (34, 0, 47), (35, 0, 48), (38, 0, 50), (49, 0, 52), (52, 0, 54), (53, 0, 56), (56, 0, 58), (57, 0, 60), (60, 0, 61), (61, 0, 62), (65, 0, 63), (66, 0, 68), (70, 0, 69), (71, 0, 78), (75, 0, 79), (76, 0, 80), (80, 0, 81), (81, 0, 82), (85, 0, 83), (86, 0, 85), (89, 0, 86), (90, 0, 90), (93, 0, 91), (94, 0, 92), (97, 0, 93), (98, 0, 94), (101, 0, 95), (102, 0, 96), (105, 0, 97), (106, 0, 98), (109, 0, 100), (110, 0, 101), (113, 0, 102), (114, 0, 109), (117, 0, 110), (118, 0, 112), (121, 0, 117), (122, 0, 123), (125, 0, 124), (126, 0, 125), (130, 0, 126), (131, 0, 129), (134, 0, 131), (135, 0, 132), (138, 0, 133), (139, 0, 134), (142, 0, 135), (143, 0, 137), (146, 0, 138), (147, 0, 139), (151, 0, 140), (152, 0, 141), (155, 0, 143), (156, 0, 144), (159, 0, 145), (160, 0, 146), (163, 0, 147), (164, 0, 148), (168, 0, 149), (169, 0, 150), (172, 0, 151), (173, 0, 155), (176, 0, 157), (177, 0, 158), (180, 0, 159), (181, 0, 160), (184, 0, 161), (185, 0, 162), (188, 0, 163)], [(8, 11), (18, 12)], [], [])
def zt_m0 : xv_N := ((11, zt_K11), (0, 1, 0, 1), (186, 4242), [(0, .aload_n 0), (1, .invokespecial 1), (4, .aload_n 0), (5, .sipush 700), (8, .newarray .int), (10, .putfield 9), (13, .aload_n 0), (14, .iconst (-1)), (15, .putfield 13), (18, .aload_n 0), (19, .new 17), (22, .dup), (23, .aload_n 0), (24, .getfield 9), (27, .invokespecial 19), (30, .putfield 22), (33, .aload_n 0), (34, .new 26), (37, .dup), (38, .invokespecial 28), (41, .putfield 29), (44, .aload_n 0), (45, .new 33), (48, .dup), (49, .aload_n 0), (50, .getfield 29), (53, .invokespecial 35), (56, .putfield 38), (59, .aload_n 0), (60, .new 33), (63, .dup), (64, .aload_n 0), (65, .getfield 29), (68, .invokespecial 35), (71, .putfield 42), (74, .aload_n 0), (75, .new 33), (78, .dup), (79, .aload_n 0), (80, .getfield 29), (83, .invokespecial 35), (86, .putfield 45), (89, .aload_n 0), (90, .new 48), (93, .dup), (94, .invokespecial 50), (97, .putfield 51), (100, .aload_n 0), (101, .new 55), (104, .dup), (105, .invokespecial 57), (108, .putfield 58), (111, .aload_n 0), (112, .new 62), (115, .dup), (116, .aload_n 0), (117, .getfield 42), (120, .aload_n 0), (121, .getfield 38), (124, .aload_n 0), (125, .getfield 51), (128, .invokespecial 64), (131, .putfield 67), (134, .aload_n 0), (135, .getfield 22), (138, .iconst 0), (139, .invokevirtual 71), (142, .pop), (143, .aload_n 0), (144, .invokevirtual 75), (147, .return_)])
def zt_m1 : xv_N := ((6, zt_K6), (1, 2, 0, 1), (44, 968), [(0, .aload_n 0), (1, .invokespecial 3), (4, .aload_n 0), (5, .new 9), (8, .dup), (9, .invokespecial 11), (12, .putfield 12), (15, .aload_n 0), (16, .new 18), (19, .dup), (20, .aload_n 0), (21, .getfield 12), (24, .invokespecial 20), (27, .putfield 23), (30, .aload_n 0), (31, .new 27), (34, .dup), (35, .aload_n 1), (36, .invokespecial 29), (39, .putfield 32), (42, .aload_n 0), (43, .new 36), (46, .dup), (47, .aload_n 0), (48, .getfield 32), (51, .aload_n 0), (52, .getfield 12), (55, .getfield 38), (58, .invokespecial 42), (61, .putfield 45), (64, .return_)])
def zt_m2 : xv_N := ((5, zt_K5), (0, 1, 0, 1), (12, 598), [(0, .aload_n 0), (1, .invokespecial 3), (4, .aload_n 0), (5, .bipush 48), (7, .newarray .int), (9, .putfield 9), (12, .aload_n 0), (13, .bipush 48), (15, .newarray .int), (17, .putfield 15), (20, .aload_n 0), (21, .bipush 48), (23, .newarray .int), (25, .putfield 18), (28, .aload_n 0), (29, .new 21), (32, .dup), (33, .invokespecial 23), (36, .putfield 24), (39, .aload_n 0), (40, .bipush 48), (42, .newarray .int), (44, .putfield 28), (47, .aload_n 0), (48, .sipush 192), (51, .newarray .int), (53, .putfield 31), (56, .aload_n 0), (57, .bipush 7), (59, .newarray .int), (61, .putfield 34), (64, .return_)])
def zt_m3 : xv_N := ((3, zt_K3), (0, 1, 0, 1), (5, 200), [(0, .aload_n 0), (1, .invokespecial 3), (4, .aload_n 0), (5, .bipush 64), (7, .newarray .int), (9, .putfield 9), (12, .aload_n 0), (13, .bipush 64), (15, .newarray .int), (17, .putfield 15), (20, .aload_n 0), (21, .iconst 4), (22, .newarray .int), (24, .putfield 18), (27, .aload_n 0), (28, .iconst 4), (29, .newarray .int), (31, .putfield 21), (34, .aload_n 0), (35, .bipush 64), (37, .newarray .long), (39, .putfield 24), (42, .return_)])
def zt_m4 : xv_N := ((4, zt_K4), (1, 3, 0, 1), (25, 216), [(0, .aload_n 0), (1, .invokespecial 3), (4, .aload_n 0), (5, .bipush 16), (7, .anewarray 9), (10, .putfield 11), (13, .aload_n 0), (14, .iconst 4), (15, .anewarray 17), (18, .putfield 19), (21, .aload_n 0), (22, .bipush 48), (24, .newarray .boolean), (26, .putfield 23), (29, .aload_n 0), (30, .bipush 48), (32, .newarray .int), (34, .putfield 27), (37, .aload_n 0), (38, .iconst 4), (39, .newarray .int), (41, .putfield 31), (44, .aload_n 0), (45, .aload_n 1), (46, .putfield 34), (49, .iconst 0), (50, .istore_n 2), (51, .iload_n 2), (52, .bipush 16), (54, .if_icmp .ge 22), (57, .aload_n 0), (58, .getfield 11), (61, .iload_n 2), (62, .new 9), (65, .dup), (66, .invokespecial 38), (69, .aastore), (70, .iinc 2 1), (73, .goto (-22)), (76, .iconst 0), (77, .istore_n 2), (78, .iload_n 2), (79, .iconst 4), (80, .if_icmp .ge 22), (83, .aload_n 0), (84, .getfield 19), (87, .iload_n 2), (88, .new 17), (91, .dup), (92, .invokespecial 39), (95, .aastore), (96, .iinc 2 1), (99, .goto (-21)), (102, .return_)])
def zt_m5 : xv_N := ((1, zt_K1), (0, 1, 0, 1), (0, 0), [(0, .aload_n 0), (1, .invokespecial 1), (4, .return_)])
def zt_m6 : xv_N := ((0, zt_K0), (0, 1, 0, 1), (0, 0), [(0, .aload_n 0), (1, .invokespecial 3), (4, .aload_n 0), (5, .iconst (-1)), (6, .putfield 9), (9, .return_)])
def zt_m7 : xv_N := ((8, zt_K8), (1, 6, 0, 1), (1, 33), [(0, .aload_n 0), (1, .invokespecial 3), (4, .aload_n 0), (5, .bipush 33), (7, .newarray .int), (9, .putfield 9), (12, .aload_n 0), (13, .aload_n 1), (14, .putfield 15), (17, .iconst 0), (18, .istore_n 2), (19, .iload_n 2), (20, .bipush 33), (22, .if_icmp .ge 72), (25, .iconst 0), (26, .istore_n 3), (27, .iconst 0), (28, .istore 4), (30, .iload 4), (32, .bipush 6), (34, .if_icmp .ge 47), (37, .ldc 18), (39, .iload_n 2), (40, .bipush 6), (42, .imul), (43, .iload 4), (45, .iadd), (46, .invokevirtual 20), (49, .istore 5), (51, .iload_n 3), (52, .bipush 32), (54, .imul), (55, .iload 5), (57, .bipush 32), (59, .if_icmp .ne 7), (62, .iconst 0), (63, .goto 10), (66, .iload 5), (68, .bipush 97), (70, .isub), (71, .iconst 1), (72, .iadd), (73, .iadd), (74, .istore_n 3), (75, .iinc 4 1), (78, .goto (-48)), (81, .aload_n 0), (82, .getfield 9), (85, .iload_n 2), (86, .iload_n 3), (87, .iastore), (88, .iinc 2 1), (91, .goto (-72)), (94, .return_)])
def zt_m8 : xv_N := ((2, zt_K2), (2, 3, 0, 1), (2, 81), [(0, .aload_n 0), (1, .invokespecial 3), (4, .aload_n 0), (5, .bipush 72), (7, .newarray .int), (9, .putfield 9), (12, .aload_n 0), (13, .bipush 9), (15, .newarray .boolean), (17, .putfield 15), (20, .aload_n 0), (21, .aload_n 1), (22, .putfield 19), (25, .aload_n 0), (26, .aload_n 2), (27, .putfield 23), (30, .return_)])
def zt_m9 : xv_N := ((7, zt_K7), (0, 1, 0, 1), (6, 144), [(0, .aload_n 0), (1, .invokespecial 3), (4, .aload_n 0), (5, .bipush 24), (7, .newarray .int), (9, .putfield 9), (12, .aload_n 0), (13, .bipush 24), (15, .newarray .int), (17, .putfield 15), (20, .aload_n 0), (21, .bipush 24), (23, .newarray .int), (25, .putfield 18), (28, .aload_n 0), (29, .bipush 24), (31, .newarray .boolean), (33, .putfield 21), (36, .aload_n 0), (37, .bipush 24), (39, .newarray .int), (41, .putfield 25), (44, .aload_n 0), (45, .bipush 24), (47, .newarray .boolean), (49, .putfield 28), (52, .aload_n 0), (53, .iconst (-1)), (54, .putfield 31), (57, .return_)])
def zt_m10 : xv_N := ((10, zt_K10), (0, 1, 0, 1), (4, 80), [(0, .aload_n 0), (1, .invokespecial 3), (4, .aload_n 0), (5, .bipush 20), (7, .newarray .int), (9, .putfield 9), (12, .aload_n 0), (13, .bipush 20), (15, .newarray .int), (17, .putfield 15), (20, .aload_n 0), (21, .bipush 20), (23, .newarray .int), (25, .putfield 18), (28, .aload_n 0), (29, .bipush 20), (31, .newarray .int), (33, .putfield 21), (36, .return_)])
def zt_m11 : xv_N := ((9, zt_K9), (3, 4, 0, 1), (36, 1011), [(0, .aload_n 0), (1, .invokespecial 3), (4, .aload_n 0), (5, .sipush 161), (8, .newarray .int), (10, .putfield 9), (13, .aload_n 0), (14, .bipush 18), (16, .newarray .int), (18, .putfield 15), (21, .aload_n 0), (22, .bipush 18), (24, .newarray .boolean), (26, .putfield 18), (29, .aload_n 0), (30, .bipush 48), (32, .newarray .int), (34, .putfield 22), (37, .aload_n 0), (38, .iconst 4), (39, .newarray .int), (41, .putfield 25), (44, .aload_n 0), (45, .sipush 256), (48, .newarray .int), (50, .putfield 28), (53, .aload_n 0), (54, .sipush 256), (57, .newarray .int), (59, .putfield 31), (62, .aload_n 0), (63, .iconst 2), (64, .newarray .int), (66, .putfield 34), (69, .aload_n 0), (70, .iconst 4), (71, .newarray .int), (73, .putfield 37), (76, .aload_n 0), (77, .bipush 16), (79, .newarray .int), (81, .putfield 40), (84, .aload_n 0), (85, .aload_n 1), (86, .getfield 43), (89, .putfield 49), (92, .aload_n 0), (93, .aload_n 1), (94, .putfield 50), (97, .aload_n 0), (98, .aload_n 2), (99, .putfield 54), (102, .aload_n 0), (103, .aload_n 3), (104, .putfield 57), (107, .aload_n 0), (108, .new 44), (111, .dup), (112, .aload_n 1), (113, .getfield 43), (116, .invokespecial 61), (119, .putfield 64), (122, .return_)])
def zt_m12 : xv_N := ((6, zt_K6), (1, 4, 1, 0), (0, 0), [(0, .aload_n 0), (1, .getfield 12), (4, .invokevirtual 49), (7, .aload_n 0), (8, .getfield 23), (11, .invokevirtual 52), (14, .aload_n 0), (15, .iconst 0), (16, .putfield 53), (19, .aload_n 0), (20, .iconst 0), (21, .putfield 57), (24, .aload_n 0), (25, .iconst 0), (26, .putfield 60), (29, .aload_n 0), (30, .iconst 0), (31, .putfield 64), (34, .aload_n 0), (35, .iconst (-1)), (36, .putfield 67), (39, .aload_n 0), (40, .getfield 32), (43, .iload_n 1), (44, .invokevirtual 70), (47, .iconst 0), (48, .istore_n 2), (49, .iconst 0), (50, .istore_n 3), (51, .iload_n 3), (52, .sipush 700), (55, .if_icmp .gt 39), (58, .aload_n 0), (59, .getfield 32), (62, .invokevirtual 74), (65, .aload_n 0), (66, .getfield 32), (69, .getfield 77), (72, .ifCond .eq 22), (75, .aload_n 0), (76, .invokevirtual 80), (79, .ifCond .ne 6), (82, .goto 12), (85, .iinc 2 1), (88, .iinc 3 1), (91, .goto (-40)), (94, .aload_n 0), (95, .getfield 23), (98, .aload_n 0), (99, .getfield 12), (102, .getfield 84), (105, .putfield 87), (108, .iload_n 2), (109, .ireturn)])
def zt_m13 : xv_N := ((5, zt_K5), (0, 2, 0, 0), (0, 0), [(0, .aload_n 0), (1, .iconst 0), (2, .putfield 37), (5, .aload_n 0), (6, .iconst 0), (7, .putfield 41), (10, .aload_n 0), (11, .iconst 0), (12, .putfield 44), (15, .aload_n 0), (16, .getfield 24), (19, .invokevirtual 47), (22, .iconst 0), (23, .istore_n 1), (24, .iload_n 1), (25, .bipush 48), (27, .if_icmp .ge 16), (30, .aload_n 0), (31, .getfield 18), (34, .iload_n 1), (35, .iconst 0), (36, .iastore), (37, .iinc 1 1), (40, .goto (-16)), (43, .aload_n 0), (44, .bipush 6), (46, .iconst 5), (47, .invokevirtual 50), (50, .return_)])
def zt_m14 : xv_N := ((3, zt_K3), (0, 2, 0, 0), (0, 0), [(0, .aload_n 0), (1, .iconst 0), (2, .putfield 28), (5, .aload_n 0), (6, .iconst 0), (7, .putfield 32), (10, .iconst 0), (11, .istore_n 1), (12, .iload_n 1), (13, .iconst 4), (14, .if_icmp .ge 23), (17, .aload_n 0), (18, .getfield 18), (21, .iload_n 1), (22, .iconst (-1)), (23, .iastore), (24, .aload_n 0), (25, .getfield 21), (28, .iload_n 1), (29, .iconst (-1)), (30, .iastore), (31, .iinc 1 1), (34, .goto (-22)), (37, .return_)])
def zt_m15 : xv_N := ((5, zt_K5), (2, 6, 0, 0), (0, 0), [(0, .aload_n 0), (1, .iload_n 1), (2, .putfield 54), (5, .aload_n 0), (6, .iload_n 2), (7, .putfield 57), (10, .aload_n 0), (11, .aload_n 0), (12, .getfield 54), (15, .aload_n 0), (16, .getfield 57), (19, .imul), (20, .putfield 60), (23, .iconst 0), (24, .istore_n 3), (25, .iconst 0), (26, .istore 4), (28, .iload 4), (30, .aload_n 0), (31, .getfield 57), (34, .if_icmp .ge 52), (37, .iconst 0), (38, .istore 5), (40, .iload 5), (42, .aload_n 0), (43, .getfield 54), (46, .if_icmp .ge 34), (49, .iload_n 3), (50, .bipush 48), (52, .if_icmp .ge 28), (55, .aload_n 0), (56, .getfield 9), (59, .iload_n 3), (60, .iload 5), (62, .iastore), (63, .aload_n 0), (64, .getfield 15), (67, .iload_n 3), (68, .iload 4), (70, .iastore), (71, .iinc 3 1), (74, .iinc 5 1), (77, .goto (-37)), (80, .iinc 4 1), (83, .goto (-55)), (86, .return_)])
def zt_m16 : xv_N := ((4, zt_K4), (0, 2, 0, 0), (0, 0), [(0, .aload_n 0), (1, .iconst 0), (2, .putfield 40), (5, .aload_n 0), (6, .iconst 0), (7, .putfield 44), (10, .aload_n 0), (11, .iconst 0), (12, .putfield 47), (15, .aload_n 0), (16, .iconst 0), (17, .putfield 50), (20, .aload_n 0), (21, .iconst 0), (22, .putfield 53), (25, .aload_n 0), (26, .ldc 56), (28, .putfield 57), (31, .iconst 0), (32, .istore_n 1), (33, .iload_n 1), (34, .bipush 48), (36, .if_icmp .ge 23), (39, .aload_n 0), (40, .getfield 23), (43, .iload_n 1), (44, .iconst 0), (45, .bastore), (46, .aload_n 0), (47, .getfield 27), (50, .iload_n 1), (51, .iconst 0), (52, .iastore), (53, .iinc 1 1), (56, .goto (-23)), (59, .return_)])
def zt_m17 : xv_N := ((8, zt_K8), (1, 2, 0, 0), (0, 0), [(0, .aload_n 0), (1, .iload_n 1), (2, .putfield 26), (5, .aload_n 0), (6, .iconst 0), (7, .putfield 30), (10, .return_)])
def zt_m18 : xv_N := ((8, zt_K8), (0, 1, 0, 0), (0, 0), [(0, .aload_n 0), (1, .getfield 30), (4, .aload_n 0), (5, .getfield 26), (8, .if_icmp .ge 44), (11, .aload_n 0), (12, .getfield 15), (15, .aload_n 0), (16, .getfield 30), (19, .iaload), (20, .bipush 32), (22, .if_icmp .eq 17), (25, .aload_n 0), (26, .getfield 15), (29, .aload_n 0), (30, .getfield 30), (33, .iaload), (34, .bipush 10), (36, .if_icmp .ne 16), (39, .aload_n 0), (40, .dup), (41, .getfield 30), (44, .iconst 1), (45, .iadd), (46, .putfield 30), (49, .goto (-49)), (52, .aload_n 0), (53, .aload_n 0), (54, .getfield 30), (57, .putfield 39), (60, .aload_n 0), (61, .getfield 30), (64, .aload_n 0), (65, .getfield 26), (68, .if_icmp .lt 11), (71, .aload_n 0), (72, .iconst 0), (73, .putfield 33), (76, .goto 120), (79, .aload_n 0), (80, .getfield 15), (83, .aload_n 0), (84, .getfield 30), (87, .iaload), (88, .bipush 97), (90, .if_icmp .lt 24), (93, .aload_n 0), (94, .getfield 15), (97, .aload_n 0), (98, .getfield 30), (101, .iaload), (102, .bipush 122), (104, .if_icmp .gt 10), (107, .aload_n 0), (108, .invokevirtual 42), (111, .goto 85), (114, .aload_n 0), (115, .getfield 15), (118, .aload_n 0), (119, .getfield 30), (122, .iaload), (123, .bipush 48), (125, .if_icmp .lt 24), (128, .aload_n 0), (129, .getfield 15), (132, .aload_n 0), (133, .getfield 30), (136, .iaload), (137, .bipush 57), (139, .if_icmp .gt 10), (142, .aload_n 0), (143, .invokevirtual 45), (146, .goto 50), (149, .aload_n 0), (150, .aload_n 0), (151, .getfield 15), (154, .aload_n 0), (155, .getfield 30), (158, .iaload), (159, .invokestatic 48), (162, .putfield 36), (165, .aload_n 0), (166, .aload_n 0), (167, .getfield 36), (170, .iconst (-1)), (171, .if_icmp .ne 7), (174, .iconst 5), (175, .goto 4), (178, .iconst 4), (179, .putfield 33), (182, .aload_n 0), (183, .dup), (184, .getfield 30), (187, .iconst 1), (188, .iadd), (189, .putfield 30), (192, .aload_n 0), (193, .invokevirtual 52), (196, .return_)])
def zt_m19 : xv_N := ((11, zt_K11), (0, 1, 0, 0), (0, 0), [(0, .aload_n 0), (1, .getfield 29), (4, .aload_n 0), (5, .getfield 22), (8, .getfield 94), (11, .invokevirtual 95), (14, .aload_n 0), (15, .getfield 38), (18, .aload_n 0), (19, .getfield 22), (22, .getfield 98), (25, .invokevirtual 101), (28, .aload_n 0), (29, .getfield 29), (32, .aload_n 0), (33, .getfield 38), (36, .invokevirtual 104), (39, .aload_n 0), (40, .getfield 42), (43, .aload_n 0), (44, .getfield 38), (47, .invokevirtual 101), (50, .aload_n 0), (51, .iconst 0), (52, .putfield 107), (55, .aload_n 0), (56, .getfield 51), (59, .invokevirtual 111), (62, .aload_n 0), (63, .getfield 58), (66, .invokevirtual 114), (69, .return_)])
def zt_m20 : xv_N := ((5, zt_K5), (1, 2, 0, 0), (0, 0), [(0, .aload_n 0), (1, .aload_n 1), (2, .getfield 37), (5, .putfield 37), (8, .aload_n 0), (9, .aload_n 1), (10, .getfield 41), (13, .putfield 41), (16, .aload_n 0), (17, .aload_n 1), (18, .getfield 44), (21, .putfield 44), (24, .aload_n 0), (25, .getfield 24), (28, .aload_n 1), (29, .getfield 24), (32, .invokevirtual 63), (35, .aload_n 1), (36, .getfield 18), (39, .iconst 0), (40, .aload_n 0), (41, .getfield 18), (44, .iconst 0), (45, .bipush 48), (47, .invokestatic 67), (50, .aload_n 0), (51, .aload_n 1), (52, .getfield 54), (55, .aload_n 1), (56, .getfield 57), (59, .invokevirtual 50), (62, .return_)])
def zt_m21 : xv_N := ((3, zt_K3), (1, 2, 0, 0), (0, 0), [(0, .aload_n 1), (1, .getfield 9), (4, .iconst 0), (5, .aload_n 0), (6, .getfield 9), (9, .iconst 0), (10, .bipush 64), (12, .invokestatic 35), (15, .aload_n 1), (16, .getfield 15), (19, .iconst 0), (20, .aload_n 0), (21, .getfield 15), (24, .iconst 0), (25, .bipush 64), (27, .invokestatic 35), (30, .aload_n 1), (31, .getfield 18), (34, .iconst 0), (35, .aload_n 0), (36, .getfield 18), (39, .iconst 0), (40, .iconst 4), (41, .invokestatic 35), (44, .aload_n 1), (45, .getfield 21), (48, .iconst 0), (49, .aload_n 0), (50, .getfield 21), (53, .iconst 0), (54, .iconst 4), (55, .invokestatic 35), (58, .aload_n 0), (59, .aload_n 1), (60, .getfield 28), (63, .putfield 28), (66, .aload_n 0), (67, .aload_n 1), (68, .getfield 32), (71, .putfield 32), (74, .return_)])
def zt_m22 : xv_N := ((4, zt_K4), (1, 3, 0, 0), (0, 0), [(0, .aload_n 0), (1, .aload_n 1), (2, .getfield 40), (5, .putfield 40), (8, .iconst 0), (9, .istore_n 2), (10, .iload_n 2), (11, .aload_n 0), (12, .getfield 40), (15, .if_icmp .ge 24), (18, .aload_n 0), (19, .getfield 11), (22, .iload_n 2), (23, .aaload), (24, .aload_n 1), (25, .getfield 11), (28, .iload_n 2), (29, .aaload), (30, .invokevirtual 60), (33, .iinc 2 1), (36, .goto (-26)), (39, .aload_n 0), (40, .aload_n 1), (41, .getfield 44), (44, .putfield 44), (47, .iconst 0), (48, .istore_n 2), (49, .iload_n 2), (50, .aload_n 0), (51, .getfield 44), (54, .if_icmp .ge 24), (57, .aload_n 0), (58, .getfield 19), (61, .iload_n 2), (62, .aaload), (63, .aload_n 1), (64, .getfield 19), (67, .iload_n 2), (68, .aaload), (69, .invokevirtual 64), (72, .iinc 2 1), (75, .goto (-26)), (78, .iconst 0), (79, .istore_n 2), (80, .iload_n 2), (81, .bipush 48), (83, .if_icmp .ge 33), (86, .aload_n 0), (87, .getfield 23), (90, .iload_n 2), (91, .aload_n 1), (92, .getfield 23), (95, .iload_n 2), (96, .baload), (97, .bastore), (98, .aload_n 0), (99, .getfield 27), (102, .iload_n 2), (103, .aload_n 1), (104, .getfield 27), (107, .iload_n 2), (108, .iaload), (109, .iastore), (110, .iinc 2 1), (113, .goto (-33)), (116, .aload_n 0), (117, .aload_n 1), (118, .getfield 47), (121, .putfield 47), (124, .aload_n 0), (125, .aload_n 1), (126, .getfield 50), (129, .putfield 50), (132, .aload_n 0), (133, .aload_n 1), (134, .getfield 53), (137, .putfield 53), (140, .aload_n 0), (141, .aload_n 1), (142, .getfield 57), (145, .putfield 57), (148, .return_)])
def zt_m23 : xv_N := ((5, zt_K5), (1, 5, 0, 0), (0, 0), [(0, .iconst 0), (1, .istore_n 2), (2, .iload_n 2), (3, .aload_n 0), (4, .getfield 60), (7, .if_icmp .ge 63), (10, .aload_n 0), (11, .iload_n 2), (12, .invokevirtual 103), (15, .lstore_n 3), (16, .aload_n 0), (17, .getfield 28), (20, .iload_n 2), (21, .lload_n 3), (22, .ldc2_w 83), (25, .lcmp), (26, .ifCond .ne 14), (29, .iconst 1), (30, .aload_n 0), (31, .getfield 18), (34, .iload_n 2), (35, .iaload), (36, .iadd), (37, .goto 10), (40, .lload_n 3), (41, .sipush 999), (44, .invokestatic 85), (47, .iastore), (48, .aload_n 1), (49, .getfield 107), (52, .iload_n 2), (53, .aload_n 0), (54, .getfield 28), (57, .iload_n 2), (58, .iaload), (59, .sipush 1000), (62, .imul), (63, .iastore), (64, .iinc 2 1), (67, .goto (-65)), (70, .iconst 0), (71, .istore_n 2), (72, .iload_n 2), (73, .aload_n 1), (74, .getfield 112), (77, .if_icmp .ge 65), (80, .iconst 0), (81, .istore_n 3), (82, .iload_n 3), (83, .aload_n 0), (84, .getfield 60), (87, .if_icmp .ge 49), (90, .aload_n 0), (91, .iload_n 3), (92, .iconst 0), (93, .iconst 5), (94, .invokevirtual 93), (97, .aload_n 0), (98, .iload_n 2), (99, .aload_n 1), (100, .getfield 115), (103, .iload_n 2), (104, .aaload), (105, .getfield 119), (108, .iconst 0), (109, .invokevirtual 124), (112, .aload_n 0), (113, .getfield 31), (116, .iload_n 2), (117, .bipush 48), (119, .imul), (120, .iload_n 3), (121, .iadd), (122, .bipush 100), (124, .aload_n 0), (125, .invokevirtual 127), (128, .isub), (129, .iastore), (130, .iinc 3 1), (133, .goto (-51)), (136, .iinc 2 1), (139, .goto (-67)), (142, .return_)])
def zt_m24 : xv_N := ((5, zt_K5), (1, 2, 2, 0), (0, 0), [(0, .aload_n 0), (1, .iload_n 1), (2, .iconst 0), (3, .iconst 0), (4, .invokevirtual 93), (7, .aload_n 0), (8, .getfield 24), (11, .iconst 1), (12, .aload_n 0), (13, .getfield 34), (16, .invokevirtual 79), (19, .lreturn)])
def zt_m25 : xv_N := ((5, zt_K5), (3, 4, 0, 0), (0, 0), [(0, .aload_n 0), (1, .getfield 34), (4, .iconst 0), (5, .iconst 0), (6, .iastore), (7, .aload_n 0), (8, .getfield 34), (11, .iconst 1), (12, .iload_n 3), (13, .iastore), (14, .aload_n 0), (15, .getfield 34), (18, .iconst 2), (19, .aload_n 0), (20, .getfield 18), (23, .iload_n 1), (24, .iaload), (25, .iastore), (26, .aload_n 0), (27, .getfield 34), (30, .iconst 3), (31, .iload_n 2), (32, .iastore), (33, .aload_n 0), (34, .getfield 34), (37, .iconst 4), (38, .iconst 0), (39, .iastore), (40, .aload_n 0), (41, .getfield 34), (44, .iconst 5), (45, .aload_n 0), (46, .getfield 15), (49, .iload_n 1), (50, .iaload), (51, .iastore), (52, .aload_n 0), (53, .getfield 34), (56, .bipush 6), (58, .iconst 0), (59, .iastore), (60, .return_)])
def zt_m26 : xv_N := ((3, zt_K3), (2, 7, 2, 0), (0, 0), [(0, .aload_n 0), (1, .getfield 18), (4, .iload_n 1), (5, .iaload), (6, .ifCond .ge 7), (9, .ldc2_w 41), (12, .lreturn), (13, .iconst 0), (14, .istore_n 3), (15, .aload_n 0), (16, .getfield 18), (19, .iload_n 1), (20, .iaload), (21, .istore 4), (23, .iload 4), (25, .aload_n 0), (26, .getfield 21), (29, .iload_n 1), (30, .iaload), (31, .if_icmp .ge 249), (34, .iload 4), (36, .bipush 64), (38, .if_icmp .ge 242), (41, .aload_n 0), (42, .getfield 9), (45, .iload 4), (47, .iaload), (48, .bipush 16), (50, .if_icmp .ne 23), (53, .aload_n 0), (54, .getfield 24), (57, .iload_n 3), (58, .aload_n 0), (59, .getfield 15), (62, .iload 4), (64, .iaload), (65, .i2l), (66, .lastore), (67, .iinc 3 1), (70, .goto 204), (73, .aload_n 0), (74, .getfield 9), (77, .iload 4), (79, .iaload), (80, .bipush 17), (82, .if_icmp .ne 25), (85, .aload_n 0), (86, .getfield 24), (89, .iload_n 3), (90, .aload_n 2), (91, .aload_n 0), (92, .getfield 15), (95, .iload 4), (97, .iaload), (98, .iaload), (99, .i2l), (100, .lastore), (101, .iinc 3 1), (104, .goto 170), (107, .aload_n 0), (108, .getfield 9), (111, .iload 4), (113, .iaload), (114, .bipush 15), (116, .if_icmp .ne 41), (119, .iload_n 3), (120, .iconst 1), (121, .if_icmp .ge 7), (124, .ldc2_w 41), (127, .lreturn), (128, .aload_n 0), (129, .getfield 24), (132, .iload_n 3), (133, .iconst 1), (134, .isub), (135, .aload_n 0), (136, .getfield 24), (139, .iload_n 3), (140, .iconst 1), (141, .isub), (142, .laload), (143, .lconst 0), (144, .lcmp), (145, .ifCond .ne 7), (148, .lconst 1), (149, .goto 4), (152, .lconst 0), (153, .lastore), (154, .goto 120), (157, .iload_n 3), (158, .iconst 2), (159, .if_icmp .ge 7), (162, .ldc2_w 41), (165, .lreturn), (166, .iinc 3 (-1)), (169, .aload_n 0), (170, .getfield 9), (173, .iload 4), (175, .iaload), (176, .bipush 6), (178, .if_icmp .gt 30), (181, .aload_n 0), (182, .getfield 9), (185, .iload 4), (187, .iaload), (188, .aload_n 0), (189, .getfield 24), (192, .iload_n 3), (193, .iconst 1), (194, .isub), (195, .laload), (196, .aload_n 0), (197, .getfield 24), (200, .iload_n 3), (201, .laload), (202, .invokestatic 43), (205, .goto 35), (208, .aload_n 0), (209, .getfield 9), (212, .iload 4), (214, .iaload), (215, .aload_n 0), (216, .getfield 24), (219, .iload_n 3), (220, .iconst 1), (221, .isub), (222, .laload), (223, .aload_n 0), (224, .getfield 24), (227, .iload_n 3), (228, .laload), (229, .invokestatic 47), (232, .ifCond .eq 7), (235, .lconst 1), (236, .goto 4), (239, .lconst 0), (240, .lstore 5), (242, .lload 5), (244, .ldc2_w 51), (247, .lcmp), (248, .ifCond .gt 12), (251, .lload 5), (253, .ldc2_w 53), (256, .lcmp), (257, .ifCond .ge 7), (260, .ldc2_w 41), (263, .lreturn), (264, .aload_n 0), (265, .getfield 24), (268, .iload_n 3), (269, .iconst 1), (270, .isub), (271, .lload 5), (273, .lastore), (274, .iinc 4 1), (277, .goto (-254)), (280, .iload_n 3), (281, .iconst 1), (282, .if_icmp .ne 12), (285, .aload_n 0), (286, .getfield 24), (289, .iconst 0), (290, .laload), (291, .goto 6), (294, .ldc2_w 41), (297, .lreturn)])
def zt_m27 : xv_N := ((7, zt_K7), (0, 1, 0, 0), (0, 0), [(0, .aload_n 0), (1, .iconst 0), (2, .putfield 35), (5, .aload_n 0), (6, .iconst (-1)), (7, .putfield 31), (10, .return_)])
def zt_m28 : xv_N := ((10, zt_K10), (0, 1, 0, 0), (0, 0), [(0, .aload_n 0), (1, .iconst 0), (2, .putfield 24), (5, .return_)])
def zt_m29 : xv_N := ((12, zt_K12), (0, 1, 0, 1), (42, 2652), [(0, .aload_n 0), (1, .invokespecial 1), (4, .aload_n 0), (5, .sipush 700), (8, .newarray .int), (10, .putfield 7), (13, .aload_n 0), (14, .sipush 157), (17, .newarray .int), (19, .dup), (20, .iconst 0), (21, .bipush 103), (23, .iastore), (24, .dup), (25, .iconst 1), (26, .bipush 97), (28, .iastore), (29, .dup), (30, .iconst 2), (31, .bipush 114), (33, .iastore), (34, .dup), (35, .iconst 3), (36, .bipush 100), (38, .iastore), (39, .dup), (40, .iconst 4), (41, .bipush 101), (43, .iastore), (44, .dup), (45, .iconst 5), (46, .bipush 110), (48, .iastore), (49, .dup), (50, .bipush 6), (52, .bipush 32), (54, .iastore), (55, .dup), (56, .bipush 7), (58, .bipush 98), (60, .iastore), (61, .dup), (62, .bipush 8), (64, .bipush 117), (66, .iastore), (67, .dup), (68, .bipush 9), (70, .bipush 115), (72, .iastore), (73, .dup), (74, .bipush 10), (76, .bipush 104), (78, .iastore), (79, .dup), (80, .bipush 11), (82, .bipush 32), (84, .iastore), (85, .dup), (86, .bipush 12), (88, .bipush 112), (90, .iastore), (91, .dup), (92, .bipush 13), (94, .bipush 111), (96, .iastore), (97, .dup), (98, .bipush 14), (100, .bipush 116), (102, .iastore), (103, .dup), (104, .bipush 15), (106, .bipush 32), (108, .iastore), (109, .dup), (110, .bipush 16), (112, .bipush 116), (114, .iastore), (115, .dup), (116, .bipush 17), (118, .bipush 114), (120, .iastore), (121, .dup), (122, .bipush 18), (124, .bipush 101), (126, .iastore), (127, .dup), (128, .bipush 19), (130, .bipush 101), (132, .iastore), (133, .dup), (134, .bipush 20), (136, .bipush 32), (138, .iastore), (139, .dup), (140, .bipush 21), (142, .bipush 101), (144, .iastore), (145, .dup), (146, .bipush 22), (148, .bipush 103), (150, .iastore), (151, .dup), (152, .bipush 23), (154, .bipush 103), (156, .iastore), (157, .dup), (158, .bipush 24), (160, .bipush 32), (162, .iastore), (163, .dup), (164, .bipush 25), (166, .bipush 99), (168, .iastore), (169, .dup), (170, .bipush 26), (172, .bipush 104), (174, .iastore), (175, .dup), (176, .bipush 27), (178, .bipush 105), (180, .iastore), (181, .dup), (182, .bipush 28), (184, .bipush 108), (186, .iastore), (187, .dup), (188, .bipush 29), (190, .bipush 100), (192, .iastore), (193, .dup), (194, .bipush 30), (196, .bipush 32), (198, .iastore), (199, .dup), (200, .bipush 31), (202, .bipush 114), (204, .iastore), (205, .dup), (206, .bipush 32), (208, .bipush 117), (210, .iastore), (211, .dup), (212, .bipush 33), (214, .bipush 108), (216, .iastore), (217, .dup), (218, .bipush 34), (220, .bipush 101), (222, .iastore), (223, .dup), (224, .bipush 35), (226, .bipush 32), (228, .iastore), (229, .dup), (230, .bipush 36), (232, .bipush 108), (234, .iastore), (235, .dup), (236, .bipush 37), (238, .bipush 105), (240, .iastore), (241, .dup), (242, .bipush 38), (244, .bipush 110), (246, .iastore), (247, .dup), (248, .bipush 39), (250, .bipush 101), (252, .iastore), (253, .dup), (254, .bipush 40), (256, .bipush 32), (258, .iastore), (259, .dup), (260, .bipush 41), (262, .bipush 100), (264, .iastore), (265, .dup), (266, .bipush 42), (268, .bipush 111), (270, .iastore), (271, .dup), (272, .bipush 43), (274, .bipush 103), (276, .iastore), (277, .dup), (278, .bipush 44), (280, .bipush 32), (282, .iastore), (283, .dup), (284, .bipush 45), (286, .bipush 115), (288, .iastore), (289, .dup), (290, .bipush 46), (292, .bipush 117), (294, .iastore), (295, .dup), (296, .bipush 47), (298, .bipush 110), (300, .iastore), (301, .dup), (302, .bipush 48), (304, .bipush 32), (306, .iastore), (307, .dup), (308, .bipush 49), (310, .bipush 115), (312, .iastore), (313, .dup), (314, .bipush 50), (316, .bipush 101), (318, .iastore), (319, .dup), (320, .bipush 51), (322, .bipush 101), (324, .iastore), (325, .dup), (326, .bipush 52), (328, .bipush 100), (330, .iastore), (331, .dup), (332, .bipush 53), (334, .bipush 32), (336, .iastore), (337, .dup), (338, .bipush 54), (340, .bipush 108), (342, .iastore), (343, .dup), (344, .bipush 55), (346, .bipush 97), (348, .iastore), (349, .dup), (350, .bipush 56), (352, .bipush 119), (354, .iastore), (355, .dup), (356, .bipush 57), (358, .bipush 32), (360, .iastore), (361, .dup), (362, .bipush 58), (364, .bipush 114), (366, .iastore), (367, .dup), (368, .bipush 59), (370, .bipush 101), (372, .iastore), (373, .dup), (374, .bipush 60), (376, .bipush 100), (378, .iastore), (379, .dup), (380, .bipush 61), (382, .bipush 32), (384, .iastore), (385, .dup), (386, .bipush 62), (388, .bipush 98), (390, .iastore), (391, .dup), (392, .bipush 63), (394, .bipush 108), (396, .iastore), (397, .dup), (398, .bipush 64), (400, .bipush 117), (402, .iastore), (403, .dup), (404, .bipush 65), (406, .bipush 101), (408, .iastore), (409, .dup), (410, .bipush 66), (412, .bipush 32), (414, .iastore), (415, .dup), (416, .bipush 67), (418, .bipush 103), (420, .iastore), (421, .dup), (422, .bipush 68), (424, .bipush 114), (426, .iastore), (427, .dup), (428, .bipush 69), (430, .bipush 101), (432, .iastore), (433, .dup), (434, .bipush 70), (436, .bipush 101), (438, .iastore), (439, .dup), (440, .bipush 71), (442, .bipush 110), (444, .iastore), (445, .dup), (446, .bipush 72), (448, .bipush 32), (450, .iastore), (451, .dup), (452, .bipush 73), (454, .bipush 103), (456, .iastore), (457, .dup), (458, .bipush 74), (460, .bipush 111), (462, .iastore), (463, .dup), (464, .bipush 75), (466, .bipush 108), (468, .iastore), (469, .dup), (470, .bipush 76), (472, .bipush 100), (474, .iastore), (475, .dup), (476, .bipush 77), (478, .bipush 32), (480, .iastore), (481, .dup), (482, .bipush 78), (484, .bipush 102), (486, .iastore), (487, .dup), (488, .bipush 79), (490, .bipush 114), (492, .iastore), (493, .dup), (494, .bipush 80), (496, .bipush 101), (498, .iastore), (499, .dup), (500, .bipush 81), (502, .bipush 101), (504, .iastore), (505, .dup), (506, .bipush 82), (508, .bipush 32), (510, .iastore), (511, .dup), (512, .bipush 83), (514, .bipush 111), (516, .iastore), (517, .dup), (518, .bipush 84), (520, .bipush 119), (522, .iastore), (523, .dup), (524, .bipush 85), (526, .bipush 110), (528, .iastore), (529, .dup), (530, .bipush 86), (532, .bipush 32), (534, .iastore), (535, .dup), (536, .bipush 87), (538, .bipush 98), (540, .iastore), (541, .dup), (542, .bipush 88), (544, .bipush 101), (546, .iastore), (547, .dup), (548, .bipush 89), (550, .bipush 104), (552, .iastore), (553, .dup), (554, .bipush 90), (556, .bipush 105), (558, .iastore), (559, .dup), (560, .bipush 91), (562, .bipush 110), (564, .iastore), (565, .dup), (566, .bipush 92), (568, .bipush 100), (570, .iastore), (571, .dup), (572, .bipush 93), (574, .bipush 32), (576, .iastore), (577, .dup), (578, .bipush 94), (580, .bipush 115), (582, .iastore), (583, .dup), (584, .bipush 95), (586, .bipush 101), (588, .iastore), (589, .dup), (590, .bipush 96), (592, .bipush 101), (594, .iastore), (595, .dup), (596, .bipush 97), (598, .bipush 32), (600, .iastore), (601, .dup), (602, .bipush 98), (604, .bipush 104), (606, .iastore), (607, .dup), (608, .bipush 99), (610, .bipush 105), (612, .iastore), (613, .dup), (614, .bipush 100), (616, .bipush 100), (618, .iastore), (619, .dup), (620, .bipush 101), (622, .bipush 101), (624, .iastore), (625, .dup), (626, .bipush 102), (628, .bipush 32), (630, .iastore), (631, .dup), (632, .bipush 103), (634, .bipush 106), (636, .iastore), (637, .dup), (638, .bipush 104), (640, .bipush 111), (642, .iastore), (643, .dup), (644, .bipush 105), (646, .bipush 121), (648, .iastore), (649, .dup), (650, .bipush 106), (652, .bipush 32), (654, .iastore), (655, .dup), (656, .bipush 107), (658, .bipush 107), (660, .iastore), (661, .dup), (662, .bipush 108), (664, .bipush 101), (666, .iastore), (667, .dup), (668, .bipush 109), (670, .bipush 101), (672, .iastore), (673, .dup), (674, .bipush 110), (676, .bipush 112), (678, .iastore), (679, .dup), (680, .bipush 111), (682, .bipush 32), (684, .iastore), (685, .dup), (686, .bipush 112), (688, .bipush 97), (690, .iastore), (691, .dup), (692, .bipush 113), (694, .bipush 110), (696, .iastore), (697, .dup), (698, .bipush 114), (700, .bipush 100), (702, .iastore), (703, .dup), (704, .bipush 115), (706, .bipush 32), (708, .iastore), (709, .dup), (710, .bipush 116), (712, .bipush 111), (714, .iastore), (715, .dup), (716, .bipush 117), (718, .bipush 114), (720, .iastore), (721, .dup), (722, .bipush 118), (724, .bipush 32), (726, .iastore), (727, .dup), (728, .bipush 119), (730, .bipush 110), (732, .iastore), (733, .dup), (734, .bipush 120), (736, .bipush 111), (738, .iastore), (739, .dup), (740, .bipush 121), (742, .bipush 116), (744, .iastore), (745, .dup), (746, .bipush 122), (748, .bipush 32), (750, .iastore), (751, .dup), (752, .bipush 123), (754, .bipush 97), (756, .iastore), (757, .dup), (758, .bipush 124), (760, .bipush 103), (762, .iastore), (763, .dup), (764, .bipush 125), (766, .bipush 101), (768, .iastore), (769, .dup), (770, .bipush 126), (772, .bipush 32), (774, .iastore), (775, .dup), (776, .bipush 127), (778, .bipush 104), (780, .iastore), (781, .dup), (782, .sipush 128), (785, .bipush 97), (787, .iastore), (788, .dup), (789, .sipush 129), (792, .bipush 114), (794, .iastore), (795, .dup), (796, .sipush 130), (799, .bipush 100), (801, .iastore), (802, .dup), (803, .sipush 131), (806, .bipush 32), (808, .iastore), (809, .dup), (810, .sipush 132), (813, .bipush 107), (815, .iastore), (816, .dup), (817, .sipush 133), (820, .bipush 105), (822, .iastore), (823, .dup), (824, .sipush 134), (827, .bipush 110), (829, .iastore), (830, .dup), (831, .sipush 135), (834, .bipush 100), (836, .iastore), (837, .dup), (838, .sipush 136), (841, .bipush 32), (843, .iastore), (844, .dup), (845, .sipush 137), (848, .bipush 99), (850, .iastore), (851, .dup), (852, .sipush 138), (855, .bipush 111), (857, .iastore), (858, .dup), (859, .sipush 139), (862, .bipush 108), (864, .iastore), (865, .dup), (866, .sipush 140), (869, .bipush 111), (871, .iastore), (872, .dup), (873, .sipush 141), (876, .bipush 114), (878, .iastore), (879, .dup), (880, .sipush 142), (883, .bipush 32), (885, .iastore), (886, .dup), (887, .sipush 143), (890, .bipush 109), (892, .iastore), (893, .dup), (894, .sipush 144), (897, .bipush 105), (899, .iastore), (900, .dup), (901, .sipush 145), (904, .bipush 110), (906, .iastore), (907, .dup), (908, .sipush 146), (911, .bipush 101), (913, .iastore), (914, .dup), (915, .sipush 147), (918, .bipush 32), (920, .iastore), (921, .dup), (922, .sipush 148), (925, .bipush 114), (927, .iastore), (928, .dup), (929, .sipush 149), (932, .bipush 111), (934, .iastore), (935, .dup), (936, .sipush 150), (939, .bipush 119), (941, .iastore), (942, .dup), (943, .sipush 151), (946, .bipush 32), (948, .iastore), (949, .dup), (950, .sipush 152), (953, .bipush 109), (955, .iastore), (956, .dup), (957, .sipush 153), (960, .bipush 97), (962, .iastore), (963, .dup), (964, .sipush 154), (967, .bipush 110), (969, .iastore), (970, .dup), (971, .sipush 155), (974, .bipush 121), (976, .iastore), (977, .dup), (978, .sipush 156), (981, .bipush 32), (983, .iastore), (984, .putfield 13), (987, .aload_n 0), (988, .iconst (-1)), (989, .putfield 16), (992, .aload_n 0), (993, .bipush 6), (995, .newarray .boolean), (997, .putfield 20), (1000, .aload_n 0), (1001, .bipush 10), (1003, .newarray .int), (1005, .putfield 24), (1008, .aload_n 0), (1009, .bipush 96), (1011, .newarray .int), (1013, .putfield 27), (1016, .aload_n 0), (1017, .bipush 48), (1019, .newarray .boolean), (1021, .putfield 30), (1024, .aload_n 0), (1025, .bipush 36), (1027, .newarray .int), (1029, .putfield 33), (1032, .aload_n 0), (1033, .bipush 36), (1035, .newarray .int), (1037, .putfield 36), (1040, .aload_n 0), (1041, .bipush 36), (1043, .newarray .int), (1045, .putfield 39), (1048, .aload_n 0), (1049, .bipush 8), (1051, .newarray .int), (1053, .putfield 42), (1056, .aload_n 0), (1057, .bipush 8), (1059, .newarray .int), (1061, .putfield 45), (1064, .aload_n 0), (1065, .bipush 8), (1067, .newarray .int), (1069, .putfield 48), (1072, .aload_n 0), (1073, .bipush 8), (1075, .newarray .int), (1077, .putfield 51), (1080, .aload_n 0), (1081, .bipush 8), (1083, .newarray .int), (1085, .putfield 54), (1088, .aload_n 0), (1089, .bipush 8), (1091, .newarray .boolean), (1093, .putfield 57), (1096, .aload_n 0), (1097, .bipush 8), (1099, .newarray .int), (1101, .putfield 60), (1104, .aload_n 0), (1105, .bipush 8), (1107, .newarray .int), (1109, .putfield 63), (1112, .aload_n 0), (1113, .sipush 128), (1116, .newarray .int), (1118, .putfield 66), (1121, .aload_n 0), (1122, .sipush 128), (1125, .newarray .int), (1127, .putfield 69), (1130, .aload_n 0), (1131, .sipush 128), (1134, .newarray .int), (1136, .putfield 72), (1139, .aload_n 0), (1140, .bipush 96), (1142, .newarray .int), (1144, .putfield 75), (1147, .aload_n 0), (1148, .bipush 96), (1150, .newarray .int), (1152, .putfield 78), (1155, .aload_n 0), (1156, .bipush 7), (1158, .newarray .long), (1160, .putfield 81), (1163, .aload_n 0), (1164, .bipush 64), (1166, .newarray .long), (1168, .putfield 85), (1171, .aload_n 0), (1172, .bipush 36), (1174, .newarray .int), (1176, .putfield 88), (1179, .aload_n 0), (1180, .iconst 2), (1181, .newarray .int), (1183, .putfield 91), (1186, .aload_n 0), (1187, .bipush 8), (1189, .newarray .int), (1191, .putfield 94), (1194, .aload_n 0), (1195, .bipush 8), (1197, .newarray .int), (1199, .putfield 97), (1202, .aload_n 0), (1203, .iconst 4), (1204, .newarray .int), (1206, .putfield 100), (1209, .aload_n 0), (1210, .iconst 2), (1211, .newarray .long), (1213, .putfield 103), (1216, .aload_n 0), (1217, .iconst 2), (1218, .newarray .int), (1220, .putfield 106), (1223, .aload_n 0), (1224, .bipush 48), (1226, .newarray .int), (1228, .putfield 109), (1231, .aload_n 0), (1232, .iconst (-1)), (1233, .putfield 112), (1236, .aload_n 0), (1237, .bipush 48), (1239, .newarray .int), (1241, .putfield 115), (1244, .aload_n 0), (1245, .iconst 4), (1246, .newarray .int), (1248, .putfield 118), (1251, .aload_n 0), (1252, .iconst 4), (1253, .newarray .int), (1255, .putfield 121), (1258, .aload_n 0), (1259, .iconst (-1)), (1260, .putfield 124), (1263, .aload_n 0), (1264, .bipush 96), (1266, .newarray .int), (1268, .putfield 127), (1271, .aload_n 0), (1272, .bipush 24), (1274, .newarray .boolean), (1276, .putfield 130), (1279, .aload_n 0), (1280, .sipush 440), (1283, .newarray .int), (1285, .putfield 133), (1288, .aload_n 0), (1289, .bipush 22), (1291, .newarray .int), (1293, .putfield 136), (1296, .aload_n 0), (1297, .bipush 16), (1299, .newarray .int), (1301, .putfield 139), (1304, .aload_n 0), (1305, .iconst 4), (1306, .newarray .int), (1308, .putfield 142), (1311, .aload_n 0), (1312, .bipush 48), (1314, .newarray .int), (1316, .putfield 145), (1319, .aload_n 0), (1320, .invokevirtual 148), (1323, .aload_n 0), (1324, .invokevirtual 151), (1327, .return_)])
def zt_m30 : xv_N := ((12, zt_K12), (0, 2, 0, 0), (0, 0), [(0, .aload_n 0), (1, .bipush 6), (3, .putfield 216), (6, .aload_n 0), (7, .iconst 5), (8, .putfield 219), (11, .aload_n 0), (12, .iconst 0), (13, .putfield 222), (16, .aload_n 0), (17, .iconst 0), (18, .putfield 225), (21, .aload_n 0), (22, .iconst 0), (23, .putfield 228), (26, .aload_n 0), (27, .iconst 0), (28, .putfield 231), (31, .aload_n 0), (32, .iconst 0), (33, .putfield 234), (36, .aload_n 0), (37, .iconst 0), (38, .putfield 237), (41, .iconst 0), (42, .istore_n 1), (43, .iload_n 1), (44, .bipush 6), (46, .if_icmp .ge 16), (49, .aload_n 0), (50, .getfield 20), (53, .iload_n 1), (54, .iconst 0), (55, .bastore), (56, .iinc 1 1), (59, .goto (-16)), (62, .iconst 5), (63, .istore_n 1), (64, .iload_n 1), (65, .bipush 10), (67, .if_icmp .ge 26), (70, .aload_n 0), (71, .getfield 24), (74, .iload_n 1), (75, .iload_n 1), (76, .bipush 8), (78, .if_icmp .ne 7), (81, .iconst (-1)), (82, .goto 4), (85, .iconst 0), (86, .iastore), (87, .iinc 1 1), (90, .goto (-26)), (93, .iconst 0), (94, .istore_n 1), (95, .iload_n 1), (96, .bipush 48), (98, .if_icmp .ge 26), (101, .aload_n 0), (102, .getfield 27), (105, .bipush 48), (107, .iload_n 1), (108, .iadd), (109, .iconst 0), (110, .iastore), (111, .aload_n 0), (112, .getfield 30), (115, .iload_n 1), (116, .iconst 0), (117, .bastore), (118, .iinc 1 1), (121, .goto (-26)), (124, .iconst 4), (125, .istore_n 1), (126, .iload_n 1), (127, .bipush 8), (129, .if_icmp .ge 16), (132, .aload_n 0), (133, .getfield 57), (136, .iload_n 1), (137, .iconst 0), (138, .bastore), (139, .iinc 1 1), (142, .goto (-16)), (145, .return_)])
def zt_m31 : xv_N := ((12, zt_K12), (0, 2, 0, 0), (0, 0), [(0, .aload_n 0), (1, .aload_n 0), (2, .getfield 216), (5, .putfield 241), (8, .aload_n 0), (9, .aload_n 0), (10, .getfield 219), (13, .putfield 244), (16, .aload_n 0), (17, .aload_n 0), (18, .getfield 222), (21, .putfield 247), (24, .aload_n 0), (25, .aload_n 0), (26, .getfield 225), (29, .putfield 250), (32, .aload_n 0), (33, .aload_n 0), (34, .getfield 228), (37, .putfield 253), (40, .aload_n 0), (41, .getfield 24), (44, .iconst 5), (45, .invokestatic 256), (48, .aload_n 0), (49, .getfield 27), (52, .bipush 48), (54, .invokestatic 256), (57, .aload_n 0), (58, .getfield 33), (61, .bipush 18), (63, .invokestatic 256), (66, .aload_n 0), (67, .getfield 36), (70, .bipush 18), (72, .invokestatic 256), (75, .aload_n 0), (76, .getfield 39), (79, .bipush 18), (81, .invokestatic 256), (84, .aload_n 0), (85, .getfield 42), (88, .iconst 4), (89, .invokestatic 256), (92, .aload_n 0), (93, .getfield 45), (96, .iconst 4), (97, .invokestatic 256), (100, .aload_n 0), (101, .getfield 48), (104, .iconst 4), (105, .invokestatic 256), (108, .aload_n 0), (109, .getfield 51), (112, .iconst 4), (113, .invokestatic 256), (116, .aload_n 0), (117, .getfield 54), (120, .iconst 4), (121, .invokestatic 256), (124, .iconst 0), (125, .istore_n 1), (126, .iload_n 1), (127, .iconst 4), (128, .if_icmp .ge 23), (131, .aload_n 0), (132, .getfield 57), (135, .iload_n 1), (136, .aload_n 0), (137, .getfield 57), (140, .iconst 4), (141, .iload_n 1), (142, .iadd), (143, .baload), (144, .bastore), (145, .iinc 1 1), (148, .goto (-22)), (151, .aload_n 0), (152, .getfield 60), (155, .iconst 4), (156, .invokestatic 256), (159, .aload_n 0), (160, .getfield 63), (163, .iconst 4), (164, .invokestatic 256), (167, .aload_n 0), (168, .getfield 66), (171, .bipush 64), (173, .invokestatic 256), (176, .aload_n 0), (177, .getfield 69), (180, .bipush 64), (182, .invokestatic 256), (185, .aload_n 0), (186, .getfield 72), (189, .bipush 64), (191, .invokestatic 256), (194, .aload_n 0), (195, .invokevirtual 260), (198, .return_)])
def zt_m32 : xv_N := ((12, zt_K12), (2, 3, 0, 0), (0, 0), [(0, .iconst 0), (1, .istore_n 2), (2, .iload_n 2), (3, .iload_n 1), (4, .if_icmp .ge 17), (7, .aload_n 0), (8, .iload_n 2), (9, .aload_n 0), (10, .iload_n 1), (11, .iload_n 2), (12, .iadd), (13, .iaload), (14, .iastore), (15, .iinc 2 1), (18, .goto (-16)), (21, .return_)])
def zt_m33 : xv_N := ((12, zt_K12), (0, 2, 0, 0), (0, 0), [(0, .aload_n 0), (1, .iconst 0), (2, .invokevirtual 375), (5, .aload_n 0), (6, .aload_n 0), (7, .getfield 24), (10, .iconst 0), (11, .iaload), (12, .putfield 378), (15, .aload_n 0), (16, .aload_n 0), (17, .getfield 24), (20, .iconst 4), (21, .iaload), (22, .i2l), (23, .putfield 381), (26, .aload_n 0), (27, .invokevirtual 385), (30, .iconst 0), (31, .istore_n 1), (32, .iload_n 1), (33, .iconst 4), (34, .if_icmp .ge 16), (37, .aload_n 0), (38, .getfield 100), (41, .iload_n 1), (42, .iconst 0), (43, .iastore), (44, .iinc 1 1), (47, .goto (-15)), (50, .iconst 0), (51, .istore_n 1), (52, .iload_n 1), (53, .bipush 48), (55, .if_icmp .ge 36), (58, .aload_n 0), (59, .getfield 109), (62, .iload_n 1), (63, .iload_n 1), (64, .aload_n 0), (65, .invokevirtual 372), (68, .if_icmp .ge 15), (71, .sipush 1000), (74, .aload_n 0), (75, .iload_n 1), (76, .invokevirtual 388), (79, .imul), (80, .goto 4), (83, .iconst 0), (84, .iastore), (85, .iinc 1 1), (88, .goto (-36)), (91, .aload_n 0), (92, .iconst 0), (93, .putfield 391), (96, .aload_n 0), (97, .iconst (-1)), (98, .putfield 124), (101, .aload_n 0), (102, .iconst 0), (103, .putfield 394), (106, .aload_n 0), (107, .iconst 0), (108, .putfield 397), (111, .return_)])
def zt_m34 : xv_N := ((12, zt_K12), (1, 3, 0, 0), (0, 0), [(0, .iconst 0), (1, .istore_n 2), (2, .iload_n 2), (3, .bipush 18), (5, .if_icmp .ge 21), (8, .aload_n 0), (9, .getfield 88), (12, .bipush 18), (14, .iload_n 1), (15, .imul), (16, .iload_n 2), (17, .iadd), (18, .iconst (-1)), (19, .iastore), (20, .iinc 2 1), (23, .goto (-21)), (26, .aload_n 0), (27, .getfield 91), (30, .iload_n 1), (31, .aload_n 0), (32, .getfield 247), (35, .iastore), (36, .iconst 0), (37, .istore_n 2), (38, .iload_n 2), (39, .iconst 4), (40, .if_icmp .ge 41), (43, .aload_n 0), (44, .getfield 94), (47, .iconst 4), (48, .iload_n 1), (49, .imul), (50, .iload_n 2), (51, .iadd), (52, .aload_n 0), (53, .getfield 45), (56, .iload_n 2), (57, .iaload), (58, .iastore), (59, .aload_n 0), (60, .getfield 97), (63, .iconst 4), (64, .iload_n 1), (65, .imul), (66, .iload_n 2), (67, .iadd), (68, .aload_n 0), (69, .getfield 54), (72, .iload_n 2), (73, .iaload), (74, .iastore), (75, .iinc 2 1), (78, .goto (-40)), (81, .aload_n 0), (82, .getfield 103), (85, .iload_n 1), (86, .lconst 0), (87, .lastore), (88, .aload_n 0), (89, .getfield 106), (92, .iload_n 1), (93, .iconst 0), (94, .iastore), (95, .return_)])
def zt_m35 : xv_N := ((12, zt_K12), (0, 1, 0, 0), (0, 0), [(0, .aload_n 0), (1, .aload_n 0), (2, .getfield 378), (5, .putfield 400), (8, .aload_n 0), (9, .iconst 0), (10, .putfield 403), (13, .aload_n 0), (14, .iconst 0), (15, .putfield 406), (18, .aload_n 0), (19, .iconst 0), (20, .putfield 409), (23, .aload_n 0), (24, .iconst 0), (25, .putfield 412), (28, .aload_n 0), (29, .iconst (-1)), (30, .putfield 112), (33, .return_)])
def zt_m36 : xv_N := ((12, zt_K12), (0, 1, 1, 0), (0, 0), [(0, .aload_n 0), (1, .getfield 241), (4, .aload_n 0), (5, .getfield 244), (8, .imul), (9, .ireturn)])
def zt_m37 : xv_N := ((12, zt_K12), (1, 2, 1, 0), (0, 0), [(0, .aload_n 0), (1, .iconst 0), (2, .iconst 0), (3, .iload_n 1), (4, .iconst 0), (5, .iconst 0), (6, .iconst 0), (7, .invokevirtual 422), (10, .aload_n 0), (11, .iconst 1), (12, .iconst 1), (13, .aload_n 0), (14, .getfield 27), (17, .iload_n 1), (18, .iaload), (19, .iadd), (20, .sipush 999), (23, .invokevirtual 426), (26, .ireturn)])
def zt_m38 : xv_N := ((12, zt_K12), (6, 7, 0, 0), (0, 0), [(0, .aload_n 0), (1, .getfield 81), (4, .iconst 0), (5, .iload_n 1), (6, .i2l), (7, .lastore), (8, .aload_n 0), (9, .getfield 81), (12, .iconst 1), (13, .iload_n 2), (14, .i2l), (15, .lastore), (16, .aload_n 0), (17, .getfield 81), (20, .iconst 2), (21, .aload_n 0), (22, .getfield 27), (25, .iload_n 3), (26, .iaload), (27, .i2l), (28, .lastore), (29, .aload_n 0), (30, .getfield 81), (33, .iconst 3), (34, .iload 4), (36, .i2l), (37, .lastore), (38, .aload_n 0), (39, .getfield 81), (42, .iconst 4), (43, .iload 5), (45, .i2l), (46, .lastore), (47, .aload_n 0), (48, .getfield 81), (51, .iconst 5), (52, .iload_n 3), (53, .aload_n 0), (54, .getfield 241), (57, .idiv), (58, .i2l), (59, .lastore), (60, .aload_n 0), (61, .getfield 81), (64, .bipush 6), (66, .iload 6), (68, .i2l), (69, .lastore), (70, .return_)])
def zt_m39 : xv_N := ((12, zt_K12), (3, 6, 1, 0), (0, 0), [(0, .aload_n 0), (1, .getfield 57), (4, .iload_n 1), (5, .baload), (6, .ifCond .ne 5), (9, .iload_n 2), (10, .ireturn), (11, .aload_n 0), (12, .iload_n 1), (13, .invokevirtual 419), (16, .lstore 4), (18, .aload_n 0), (19, .getfield 353), (22, .ifCond .eq 5), (25, .iload_n 2), (26, .ireturn), (27, .lload 4), (29, .lconst 0), (30, .lcmp), (31, .ifCond .ge 7), (34, .iconst 0), (35, .goto 18), (38, .lload 4), (40, .iload_n 3), (41, .i2l), (42, .lcmp), (43, .ifCond .le 7), (46, .iload_n 3), (47, .goto 6), (50, .lload 4), (52, .l2i), (53, .ireturn)])
def zt_m40 : xv_N := ((11, zt_K11), (5, 6, 1, 0), (0, 0), [(0, .aload_n 0), (1, .getfield 78), (4, .sipush 680), (7, .if_icmp .le 5), (10, .iconst (-1)), (11, .ireturn), (12, .aload_n 0), (13, .iload_n 1), (14, .invokevirtual 81), (17, .aload_n 0), (18, .iload_n 2), (19, .invokevirtual 81), (22, .aload_n 0), (23, .iload_n 3), (24, .invokevirtual 81), (27, .aload_n 0), (28, .iload 4), (30, .invokevirtual 81), (33, .aload_n 0), (34, .iload 5), (36, .invokevirtual 81), (39, .aload_n 0), (40, .getfield 78), (43, .ireturn)])
def zt_m41 : xv_N := ((11, zt_K11), (1, 3, 0, 0), (0, 0), [(0, .bipush 24), (2, .istore_n 2), (3, .iload_n 2), (4, .ifCond .lt 45), (7, .aload_n 0), (8, .getfield 78), (11, .sipush 700), (14, .if_icmp .ge 35), (17, .aload_n 0), (18, .getfield 9), (21, .aload_n 0), (22, .getfield 78), (25, .iload_n 1), (26, .iload_n 2), (27, .iushr), (28, .sipush 255), (31, .iand), (32, .iastore), (33, .aload_n 0), (34, .dup), (35, .getfield 78), (38, .iconst 1), (39, .iadd), (40, .putfield 78), (43, .iinc 2 (-8)), (46, .goto (-43)), (49, .return_)])
def zt_m42 : xv_N := ((12, zt_K12), (5, 8, 1, 0), (0, 0), [(0, .aload_n 0), (1, .iconst 0), (2, .putfield 154), (5, .aload_n 0), (6, .getfield 157), (9, .bipush 20), (11, .iadd), (12, .sipush 700), (15, .if_icmp .le 5), (18, .iconst (-1)), (19, .ireturn), (20, .iconst 0), (21, .istore 6), (23, .iload 6), (25, .bipush 20), (27, .if_icmp .ge 86), (30, .iload 6), (32, .iconst 4), (33, .if_icmp .ge 7), (36, .iload_n 1), (37, .goto 39), (40, .iload 6), (42, .bipush 8), (44, .if_icmp .ge 7), (47, .iload_n 2), (48, .goto 28), (51, .iload 6), (53, .bipush 12), (55, .if_icmp .ge 7), (58, .iload_n 3), (59, .goto 17), (62, .iload 6), (64, .bipush 16), (66, .if_icmp .ge 8), (69, .iload 4), (71, .goto 5), (74, .iload 5), (76, .istore 7), (78, .aload_n 0), (79, .getfield 7), (82, .aload_n 0), (83, .getfield 157), (86, .iload 6), (88, .iadd), (89, .iload 7), (91, .bipush 24), (93, .bipush 8), (95, .iload 6), (97, .iconst 4), (98, .irem), (99, .imul), (100, .isub), (101, .ishr), (102, .sipush 255), (105, .iand), (106, .iastore), (107, .iinc 6 1), (110, .goto (-87)), (113, .aload_n 0), (114, .dup), (115, .getfield 157), (118, .bipush 20), (120, .iadd), (121, .putfield 157), (124, .aload_n 0), (125, .getfield 157), (128, .ireturn)])
def zt_m43 : xv_N := ((11, zt_K11), (1, 3, 1, 0), (0, 0), [(0, .iload_n 1), (1, .ifCond .lt 11), (4, .iload_n 1), (5, .aload_n 0), (6, .getfield 78), (9, .if_icmp .le 6), (12, .bipush (-2)), (14, .ireturn), (15, .aload_n 0), (16, .getfield 22), (19, .iload_n 1), (20, .invokevirtual 71), (23, .istore_n 2), (24, .aload_n 0), (25, .iconst 0), (26, .putfield 78), (29, .aload_n 0), (30, .aload_n 0), (31, .getfield 22), (34, .getfield 85), (37, .putfield 88), (40, .aload_n 0), (41, .aload_n 0), (42, .getfield 22), (45, .getfield 91), (48, .putfield 13), (51, .aload_n 0), (52, .getfield 88), (55, .ifCond .eq 5), (58, .iconst (-1)), (59, .ireturn), (60, .aload_n 0), (61, .invokevirtual 75), (64, .iload_n 2), (65, .ireturn)])
def zt_m44 : xv_N := ((12, zt_K12), (1, 3, 1, 0), (0, 0), [(0, .aload_n 0), (1, .iconst 0), (2, .putfield 154), (5, .iload_n 1), (6, .ifCond .lt 11), (9, .iload_n 1), (10, .aload_n 0), (11, .getfield 157), (14, .if_icmp .le 6), (17, .bipush (-2)), (19, .ireturn), (20, .aload_n 0), (21, .iload_n 1), (22, .putfield 166), (25, .aload_n 0), (26, .iconst 0), (27, .putfield 157), (30, .aload_n 0), (31, .iconst 0), (32, .putfield 160), (35, .aload_n 0), (36, .iconst (-1)), (37, .putfield 16), (40, .aload_n 0), (41, .iconst 0), (42, .putfield 169), (45, .aload_n 0), (46, .invokevirtual 148), (49, .aload_n 0), (50, .invokevirtual 206), (53, .iconst 0), (54, .istore_n 2), (55, .aload_n 0), (56, .getfield 172), (59, .ifCond .eq 18), (62, .aload_n 0), (63, .invokevirtual 301), (66, .ifCond .ne 5), (69, .iconst (-1)), (70, .ireturn), (71, .iinc 2 1), (74, .goto (-19)), (77, .aload_n 0), (78, .invokevirtual 151), (81, .iload_n 2), (82, .ireturn)])
def zt_m45 : xv_N := ((12, zt_K12), (0, 1, 0, 0), (0, 0), [(0, .aload_n 0), (1, .getfield 169), (4, .aload_n 0), (5, .getfield 166), (8, .if_icmp .ge 44), (11, .aload_n 0), (12, .getfield 7), (15, .aload_n 0), (16, .getfield 169), (19, .iaload), (20, .bipush 10), (22, .if_icmp .eq 17), (25, .aload_n 0), (26, .getfield 7), (29, .aload_n 0), (30, .getfield 169), (33, .iaload), (34, .bipush 32), (36, .if_icmp .ne 16), (39, .aload_n 0), (40, .dup), (41, .getfield 169), (44, .iconst 1), (45, .iadd), (46, .putfield 169), (49, .goto (-49)), (52, .aload_n 0), (53, .aload_n 0), (54, .getfield 169), (57, .putfield 163), (60, .aload_n 0), (61, .getfield 169), (64, .aload_n 0), (65, .getfield 166), (68, .if_icmp .ne 11), (71, .aload_n 0), (72, .iconst 0), (73, .putfield 172), (76, .goto 205), (79, .aload_n 0), (80, .aload_n 0), (81, .getfield 169), (84, .invokevirtual 175), (87, .ifCond .eq 105), (90, .aload_n 0), (91, .aload_n 0), (92, .getfield 169), (95, .invokevirtual 175), (98, .ifCond .eq 16), (101, .aload_n 0), (102, .dup), (103, .getfield 169), (106, .iconst 1), (107, .iadd), (108, .putfield 169), (111, .goto (-21)), (114, .aload_n 0), (115, .aload_n 0), (116, .aload_n 0), (117, .getfield 163), (120, .aload_n 0), (121, .getfield 169), (124, .invokevirtual 179), (127, .putfield 183), (130, .aload_n 0), (131, .aload_n 0), (132, .getfield 183), (135, .ifCond .lt 7), (138, .iconst 1), (139, .goto 23), (142, .aload_n 0), (143, .getfield 169), (146, .aload_n 0), (147, .getfield 163), (150, .isub), (151, .bipush 6), (153, .if_icmp .le 8), (156, .bipush 6), (158, .goto 4), (161, .iconst 2), (162, .putfield 172), (165, .aload_n 0), (166, .getfield 172), (169, .iconst 2), (170, .if_icmp .ne 111), (173, .aload_n 0), (174, .aload_n 0), (175, .aload_n 0), (176, .getfield 163), (179, .aload_n 0), (180, .getfield 169), (183, .invokevirtual 186), (186, .putfield 183), (189, .goto 92), (192, .aload_n 0), (193, .aload_n 0), (194, .getfield 169), (197, .invokevirtual 189), (200, .ifCond .eq 77), (203, .aload_n 0), (204, .iconst 3), (205, .putfield 172), (208, .aload_n 0), (209, .iconst 0), (210, .putfield 183), (213, .aload_n 0), (214, .aload_n 0), (215, .getfield 169), (218, .invokevirtual 189), (221, .ifCond .eq 60), (224, .aload_n 0), (225, .aload_n 0), (226, .getfield 183), (229, .ldc 192), (231, .if_icmp .le 10), (234, .aload_n 0), (235, .getfield 183), (238, .goto 23), (241, .bipush 10), (243, .aload_n 0), (244, .getfield 183), (247, .imul), (248, .aload_n 0), (249, .getfield 7), (252, .aload_n 0), (253, .getfield 169), (256, .iaload), (257, .iadd), (258, .bipush 48), (260, .isub), (261, .putfield 183), (264, .aload_n 0), (265, .dup), (266, .getfield 169), (269, .iconst 1), (270, .iadd), (271, .putfield 169), (274, .goto (-61)), (277, .aload_n 0), (278, .invokevirtual 193), (281, .return_)])
def zt_m46 : xv_N := ((11, zt_K11), (1, 2, 1, 0), (0, 0), [(0, .iload_n 1), (1, .ifCond .ne 8), (4, .aload_n 0), (5, .getfield 88), (8, .ireturn), (9, .iload_n 1), (10, .iconst 1), (11, .if_icmp .ne 10), (14, .aload_n 0), (15, .getfield 13), (18, .goto 4), (21, .iconst (-1)), (22, .ireturn)])
def zt_m47 : xv_N := ((12, zt_K12), (1, 2, 1, 0), (0, 0), [(0, .aload_n 0), (1, .iconst 0), (2, .putfield 154), (5, .iload_n 1), (6, .ifCond .ne 10), (9, .aload_n 0), (10, .getfield 160), (13, .goto 16), (16, .iload_n 1), (17, .iconst 1), (18, .if_icmp .ne 10), (21, .aload_n 0), (22, .getfield 16), (25, .goto 4), (28, .iconst (-1)), (29, .ireturn)])
def zt_m48 : xv_N := ((11, zt_K11), (1, 2, 1, 0), (0, 0), [(0, .aload_n 0), (1, .getfield 42), (4, .iload_n 1), (5, .invokevirtual 115), (8, .ireturn)])
def zt_m49 : xv_N := ((4, zt_K4), (1, 3, 1, 0), (0, 0), [(0, .iconst 0), (1, .istore_n 2), (2, .iload_n 2), (3, .aload_n 0), (4, .getfield 44), (7, .if_icmp .ge 24), (10, .aload_n 0), (11, .getfield 19), (14, .iload_n 2), (15, .aaload), (16, .getfield 67), (19, .iload_n 1), (20, .if_icmp .ne 5), (23, .iload_n 2), (24, .ireturn), (25, .iinc 2 1), (28, .goto (-26)), (31, .iconst (-1)), (32, .ireturn)])
def zt_m50 : xv_N := ((12, zt_K12), (1, 2, 1, 0), (0, 0), [(0, .aload_n 0), (1, .iconst 0), (2, .putfield 154), (5, .aload_n 0), (6, .getfield 42), (9, .iconst 0), (10, .aload_n 0), (11, .getfield 250), (14, .iload_n 1), (15, .invokestatic 273), (18, .ireturn)])
def zt_m51 : xv_N := ((12, zt_K12), (4, 5, 1, 0), (0, 0), [(0, .iconst 0), (1, .istore 4), (3, .iload 4), (5, .iload_n 2), (6, .if_icmp .ge 22), (9, .aload_n 0), (10, .iload_n 1), (11, .iload 4), (13, .iadd), (14, .iaload), (15, .iload_n 3), (16, .if_icmp .ne 6), (19, .iload 4), (21, .ireturn), (22, .iinc 4 1), (25, .goto (-22)), (28, .iconst (-1)), (29, .ireturn)])
def zt_m52 : xv_N := ((11, zt_K11), (2, 4, 1, 0), (0, 0), [(0, .aload_n 0), (1, .getfield 42), (4, .iload_n 1), (5, .invokevirtual 147), (8, .ifCond .ne 6), (11, .bipush (-4)), (13, .ireturn), (14, .aload_n 0), (15, .getfield 42), (18, .getfield 150), (21, .iload_n 1), (22, .aaload), (23, .astore_n 3), (24, .iload_n 2), (25, .tableswitch 51 0 3 #[31, 36, 41, 46]), (56, .aload_n 3), (57, .getfield 154), (60, .ireturn), (61, .aload_n 3), (62, .getfield 159), (65, .ireturn), (66, .aload_n 3), (67, .getfield 162), (70, .ireturn), (71, .aload_n 3), (72, .getfield 165), (75, .ireturn), (76, .bipush (-4)), (78, .ireturn)])
def zt_m53 : xv_N := ((4, zt_K4), (1, 2, 3, 0), (0, 0), [(0, .iload_n 1), (1, .ifCond .lt 15), (4, .iload_n 1), (5, .aload_n 0), (6, .getfield 40), (9, .if_icmp .ge 7), (12, .iconst 1), (13, .goto 4), (16, .iconst 0), (17, .ireturn)])
def zt_m54 : xv_N := ((12, zt_K12), (2, 3, 1, 0), (0, 0), [(0, .aload_n 0), (1, .iconst 0), (2, .putfield 154), (5, .aload_n 0), (6, .iload_n 1), (7, .invokevirtual 482), (10, .ifCond .ne 6), (13, .bipush (-4)), (15, .ireturn), (16, .iload_n 2), (17, .tableswitch 59 0 3 #[31, 38, 45, 52]), (48, .aload_n 0), (49, .getfield 33), (52, .iload_n 1), (53, .iaload), (54, .ireturn), (55, .aload_n 0), (56, .getfield 36), (59, .iload_n 1), (60, .iaload), (61, .ireturn), (62, .aload_n 0), (63, .getfield 39), (66, .iload_n 1), (67, .iaload), (68, .ireturn), (69, .aload_n 0), (70, .getfield 88), (73, .iload_n 1), (74, .iaload), (75, .ireturn), (76, .bipush (-4)), (78, .ireturn)])
def zt_m55 : xv_N := ((12, zt_K12), (1, 2, 3, 0), (0, 0), [(0, .iload_n 1), (1, .ifCond .lt 17), (4, .iload_n 1), (5, .aload_n 0), (6, .getfield 91), (9, .iconst 0), (10, .iaload), (11, .if_icmp .ge 7), (14, .iconst 1), (15, .goto 4), (18, .iconst 0), (19, .ireturn)])
def zt_m56 : xv_N := ((11, zt_K11), (2, 4, 1, 0), (0, 0), [(0, .aload_n 0), (1, .getfield 42), (4, .iload_n 1), (5, .invokevirtual 168), (8, .ifCond .ne 5), (11, .iconst (-1)), (12, .ireturn), (13, .aload_n 0), (14, .getfield 42), (17, .getfield 171), (20, .iload_n 1), (21, .aaload), (22, .astore_n 3), (23, .iload_n 2), (24, .tableswitch 69 0 4 #[36, 41, 46, 55, 60]), (60, .aload_n 3), (61, .getfield 175), (64, .ireturn), (65, .aload_n 3), (66, .getfield 178), (69, .ireturn), (70, .aload_n 0), (71, .getfield 42), (74, .iload_n 1), (75, .invokevirtual 181), (78, .ireturn), (79, .aload_n 3), (80, .getfield 184), (83, .ireturn), (84, .aload_n 0), (85, .getfield 42), (88, .iload_n 1), (89, .invokevirtual 187), (92, .ireturn), (93, .iconst (-1)), (94, .ireturn)])
def zt_m57 : xv_N := ((4, zt_K4), (1, 2, 3, 0), (0, 0), [(0, .iload_n 1), (1, .ifCond .lt 15), (4, .iload_n 1), (5, .aload_n 0), (6, .getfield 44), (9, .if_icmp .ge 7), (12, .iconst 1), (13, .goto 4), (16, .iconst 0), (17, .ireturn)])
def zt_m58 : xv_N := ((12, zt_K12), (2, 5, 1, 0), (0, 0), [(0, .aload_n 0), (1, .iconst 0), (2, .putfield 154), (5, .aload_n 0), (6, .iload_n 1), (7, .invokevirtual 485), (10, .ifCond .ne 5), (13, .iconst (-1)), (14, .ireturn), (15, .iconst 0), (16, .istore_n 3), (17, .iload_n 2), (18, .tableswitch 146 0 4 #[34, 41, 48, 92, 99]), (52, .aload_n 0), (53, .getfield 94), (56, .iload_n 1), (57, .iaload), (58, .ireturn), (59, .aload_n 0), (60, .iconst 0), (61, .iload_n 1), (62, .invokevirtual 433), (65, .ireturn), (66, .iconst 0), (67, .istore 4), (69, .iload 4), (71, .aload_n 0), (72, .getfield 91), (75, .iconst 0), (76, .iaload), (77, .if_icmp .ge 31), (80, .iload_n 3), (81, .aload_n 0), (82, .getfield 88), (85, .iload 4), (87, .iaload), (88, .iload_n 1), (89, .if_icmp .ne 10), (92, .iconst 1), (93, .iload 4), (95, .ishl), (96, .goto 4), (99, .iconst 0), (100, .ior), (101, .istore_n 3), (102, .iinc 4 1), (105, .goto (-36)), (108, .iload_n 3), (109, .ireturn), (110, .aload_n 0), (111, .getfield 100), (114, .iload_n 1), (115, .iaload), (116, .ireturn), (117, .iconst 0), (118, .istore 4), (120, .iload 4), (122, .aload_n 0), (123, .getfield 91), (126, .iconst 0), (127, .iaload), (128, .if_icmp .ge 34), (131, .iload_n 3), (132, .aload_n 0), (133, .getfield 88), (136, .iload 4), (138, .iaload), (139, .iload_n 1), (140, .if_icmp .ne 13), (143, .aload_n 0), (144, .iload_n 1), (145, .iload 4), (147, .invokevirtual 488), (150, .goto 4), (153, .iconst 0), (154, .iadd), (155, .istore_n 3), (156, .iinc 4 1), (159, .goto (-39)), (162, .iload_n 3), (163, .ireturn), (164, .iconst (-1)), (165, .ireturn)])
def zt_m59 : xv_N := ((12, zt_K12), (1, 2, 3, 0), (0, 0), [(0, .iload_n 1), (1, .ifCond .lt 15), (4, .iload_n 1), (5, .aload_n 0), (6, .getfield 250), (9, .if_icmp .ge 7), (12, .iconst 1), (13, .goto 4), (16, .iconst 0), (17, .ireturn)])
def zt_m60 : xv_N := ((11, zt_K11), (2, 3, 1, 0), (0, 0), [(0, .aload_n 0), (1, .getfield 42), (4, .iload_n 1), (5, .invokevirtual 168), (8, .ifCond .eq 14), (11, .aload_n 0), (12, .getfield 42), (15, .iload_n 2), (16, .invokevirtual 147), (19, .ifCond .ne 5), (22, .iconst (-1)), (23, .ireturn), (24, .aload_n 0), (25, .getfield 42), (28, .iload_n 1), (29, .iload_n 2), (30, .invokevirtual 190), (33, .ireturn)])
def zt_m61 : xv_N := ((12, zt_K12), (2, 3, 1, 0), (0, 0), [(0, .aload_n 0), (1, .iconst 0), (2, .putfield 154), (5, .aload_n 0), (6, .iload_n 1), (7, .invokevirtual 485), (10, .ifCond .eq 21), (13, .aload_n 0), (14, .iload_n 2), (15, .invokevirtual 482), (18, .ifCond .eq 13), (21, .aload_n 0), (22, .iconst 0), (23, .iload_n 1), (24, .iload_n 2), (25, .invokevirtual 448), (28, .goto 4), (31, .iconst (-1)), (32, .ireturn)])
def zt_m62 : xv_N := ((11, zt_K11), (3, 4, 2, 0), (0, 0), [(0, .iload_n 1), (1, .tableswitch 105 0 3 #[31, 42, 53, 79]), (32, .aload_n 0), (33, .getfield 42), (36, .iconst 0), (37, .iload_n 2), (38, .iload_n 3), (39, .invokevirtual 194), (42, .lreturn), (43, .aload_n 0), (44, .getfield 42), (47, .iconst 2), (48, .iload_n 2), (49, .iload_n 3), (50, .invokevirtual 194), (53, .lreturn), (54, .aload_n 0), (55, .getfield 29), (58, .iload_n 2), (59, .invokevirtual 118), (62, .ifCond .eq 14), (65, .aload_n 0), (66, .getfield 29), (69, .iload_n 2), (70, .invokevirtual 198), (73, .goto 6), (76, .ldc2_w 202), (79, .lreturn), (80, .aload_n 0), (81, .getfield 42), (84, .iload_n 2), (85, .invokevirtual 147), (88, .ifCond .eq 14), (91, .aload_n 0), (92, .getfield 42), (95, .iload_n 2), (96, .invokevirtual 204), (99, .goto 6), (102, .ldc2_w 202), (105, .lreturn), (106, .ldc2_w 202), (109, .lreturn)])
def zt_m63 : xv_N := ((12, zt_K12), (3, 7, 2, 0), (0, 0), [(0, .aload_n 0), (1, .iconst 0), (2, .putfield 154), (5, .iload_n 1), (6, .iconst 0), (7, .iconst 3), (8, .invokestatic 199), (11, .ifCond .ne 7), (14, .ldc2_w 491), (17, .lreturn), (18, .iload_n 1), (19, .iconst 2), (20, .if_icmp .ge 22), (23, .aload_n 0), (24, .iload_n 2), (25, .invokevirtual 485), (28, .ifCond .eq 38), (31, .aload_n 0), (32, .iload_n 3), (33, .invokevirtual 482), (36, .ifCond .ne 34), (39, .goto 27), (42, .iload_n 1), (43, .iconst 2), (44, .if_icmp .ne 14), (47, .aload_n 0), (48, .iload_n 2), (49, .invokevirtual 476), (52, .ifCond .ne 18), (55, .goto 11), (58, .aload_n 0), (59, .iload_n 2), (60, .invokevirtual 482), (63, .ifCond .ne 7), (66, .ldc2_w 491), (69, .lreturn), (70, .iload_n 1), (71, .ifCond .ne 7), (74, .iconst 0), (75, .goto 22), (78, .iload_n 1), (79, .iconst 1), (80, .if_icmp .ne 7), (83, .iconst 2), (84, .goto 13), (87, .iload_n 1), (88, .iconst 2), (89, .if_icmp .ne 7), (92, .iconst 1), (93, .goto 4), (96, .iconst 3), (97, .istore 4), (99, .aload_n 0), (100, .getfield 57), (103, .iload 4), (105, .baload), (106, .ifCond .ne 7), (109, .ldc2_w 491), (112, .lreturn), (113, .iload_n 1), (114, .iconst 2), (115, .if_icmp .ge 65), (118, .aload_n 0), (119, .aload_n 0), (120, .getfield 48), (123, .iload_n 2), (124, .iaload), (125, .aload_n 0), (126, .getfield 39), (129, .iload_n 3), (130, .iaload), (131, .aload_n 0), (132, .getfield 33), (135, .iload_n 3), (136, .iaload), (137, .aload_n 0), (138, .getfield 36), (141, .iload_n 3), (142, .iaload), (143, .aload_n 0), (144, .getfield 36), (147, .iload_n 3), (148, .iaload), (149, .iload_n 2), (150, .iconst 4), (151, .irem), (152, .if_icmp .ne 7), (155, .iconst 1), (156, .goto 4), (159, .iconst 0), (160, .iload_n 1), (161, .ifCond .ne 12), (164, .aload_n 0), (165, .iconst 0), (166, .iload_n 2), (167, .invokevirtual 433), (170, .goto 4), (173, .iconst 0), (174, .invokevirtual 422), (177, .goto 51), (180, .iload_n 1), (181, .iconst 2), (182, .if_icmp .ne 16), (185, .aload_n 0), (186, .iconst 0), (187, .iconst 0), (188, .iload_n 2), (189, .iconst 0), (190, .iconst 0), (191, .iconst 0), (192, .invokevirtual 422), (195, .goto 33), (198, .aload_n 0), (199, .iconst 0), (200, .aload_n 0), (201, .getfield 39), (204, .iload_n 2), (205, .iaload), (206, .aload_n 0), (207, .getfield 33), (210, .iload_n 2), (211, .iaload), (212, .aload_n 0), (213, .getfield 36), (216, .iload_n 2), (217, .iaload), (218, .iconst 0), (219, .aload_n 0), (220, .getfield 106), (223, .iconst 0), (224, .iaload), (225, .invokevirtual 422), (228, .aload_n 0), (229, .iload 4), (231, .invokevirtual 419), (234, .lstore 5), (236, .aload_n 0), (237, .getfield 353), (240, .ifCond .eq 9), (243, .ldc2_w 491), (246, .goto 5), (249, .lload 5), (251, .lreturn)])
def zt_m64 : xv_N := ((12, zt_K12), (3, 3, 3, 0), (0, 0), [(0, .iload_n 0), (1, .iload_n 1), (2, .if_icmp .lt 12), (5, .iload_n 0), (6, .iload_n 2), (7, .if_icmp .gt 7), (10, .iconst 1), (11, .goto 4), (14, .iconst 0), (15, .ireturn)])
def zt_m65 : xv_N := ((4, zt_K4), (3, 4, 2, 0), (0, 0), [(0, .aload_n 0), (1, .iload_n 2), (2, .invokevirtual 176), (5, .ifCond .eq 11), (8, .aload_n 0), (9, .iload_n 3), (10, .invokevirtual 180), (13, .ifCond .ne 7), (16, .ldc2_w 183), (19, .lreturn), (20, .aload_n 0), (21, .iload_n 2), (22, .iload_n 3), (23, .aload_n 0), (24, .getfield 19), (27, .iload_n 2), (28, .aaload), (29, .getfield 102), (32, .invokevirtual 116), (35, .aload_n 0), (36, .getfield 34), (39, .iload_n 1), (40, .invokevirtual 185), (43, .lreturn)])
def zt_m66 : xv_N := ((5, zt_K5), (1, 2, 3, 0), (0, 0), [(0, .iload_n 1), (1, .ifCond .lt 15), (4, .iload_n 1), (5, .aload_n 0), (6, .getfield 60), (9, .if_icmp .ge 7), (12, .iconst 1), (13, .goto 4), (16, .iconst 0), (17, .ireturn)])
def zt_m67 : xv_N := ((12, zt_K12), (1, 2, 3, 0), (0, 0), [(0, .iload_n 1), (1, .ifCond .lt 15), (4, .iload_n 1), (5, .aload_n 0), (6, .invokevirtual 372), (9, .if_icmp .ge 7), (12, .iconst 1), (13, .goto 4), (16, .iconst 0), (17, .ireturn)])
def zt_m68 : xv_N := ((11, zt_K11), (3, 5, 1, 0), (0, 0), [(0, .aload_n 0), (1, .getfield 29), (4, .iload_n 1), (5, .invokevirtual 118), (8, .ifCond .eq 29), (11, .iload_n 2), (12, .invokestatic 207), (15, .ifCond .eq 22), (18, .iload_n 3), (19, .invokestatic 210), (22, .ifCond .eq 15), (25, .aload_n 0), (26, .getfield 42), (29, .getfield 213), (32, .bipush 16), (34, .if_icmp .lt 5), (37, .iconst (-1)), (38, .ireturn), (39, .aload_n 0), (40, .getfield 42), (43, .getfield 213), (46, .istore 4), (48, .aload_n 0), (49, .getfield 42), (52, .iload_n 1), (53, .iload_n 2), (54, .iload_n 3), (55, .invokevirtual 216), (58, .aload_n 0), (59, .getfield 58), (62, .invokevirtual 220), (65, .iload 4), (67, .ireturn)])
def zt_m69 : xv_N := ((12, zt_K12), (3, 4, 1, 0), (0, 0), [(0, .aload_n 0), (1, .iconst 0), (2, .putfield 154), (5, .aload_n 0), (6, .iload_n 1), (7, .invokevirtual 476), (10, .ifCond .eq 33), (13, .iload_n 2), (14, .iconst 0), (15, .iconst 3), (16, .invokestatic 199), (19, .ifCond .eq 24), (22, .iload_n 3), (23, .iconst 0), (24, .bipush 9), (26, .invokestatic 199), (29, .ifCond .eq 14), (32, .aload_n 0), (33, .getfield 91), (36, .iconst 0), (37, .iaload), (38, .bipush 16), (40, .if_icmp .ne 5), (43, .iconst (-1)), (44, .ireturn), (45, .aload_n 0), (46, .invokevirtual 493), (49, .aload_n 0), (50, .iconst 0), (51, .iload_n 1), (52, .iload_n 2), (53, .iload_n 3), (54, .invokevirtual 496), (57, .aload_n 0), (58, .getfield 91), (61, .iconst 0), (62, .iaload), (63, .iconst 1), (64, .isub), (65, .ireturn)])
def zt_m70 : xv_N := ((11, zt_K11), (1, 1, 3, 0), (0, 0), [(0, .iload_n 0), (1, .ifCond .lt 12), (4, .iload_n 0), (5, .iconst 4), (6, .if_icmp .ge 7), (9, .iconst 1), (10, .goto 4), (13, .iconst 0), (14, .ireturn)])
def zt_m71 : xv_N := ((11, zt_K11), (1, 1, 3, 0), (0, 0), [(0, .iload_n 0), (1, .ifCond .lt 13), (4, .iload_n 0), (5, .bipush 9), (7, .if_icmp .gt 7), (10, .iconst 1), (11, .goto 4), (14, .iconst 0), (15, .ireturn)])
def zt_m72 : xv_N := ((4, zt_K4), (3, 5, 0, 0), (0, 0), [(0, .aload_n 0), (1, .getfield 40), (4, .bipush 16), (6, .if_icmp .ge 48), (9, .aload_n 0), (10, .getfield 11), (13, .aload_n 0), (14, .getfield 40), (17, .aaload), (18, .astore 4), (20, .aload 4), (22, .iload_n 1), (23, .putfield 70), (26, .aload 4), (28, .iload_n 2), (29, .putfield 73), (32, .aload 4), (34, .iload_n 3), (35, .putfield 76), (38, .aload 4), (40, .iconst (-1)), (41, .putfield 79), (44, .aload_n 0), (45, .dup), (46, .getfield 40), (49, .iconst 1), (50, .iadd), (51, .putfield 40), (54, .return_)])
def zt_m73 : xv_N := ((10, zt_K10), (0, 1, 0, 0), (0, 0), [(0, .aload_n 0), (1, .iconst 0), (2, .iconst 0), (3, .iconst 0), (4, .iconst 0), (5, .invokevirtual 31), (8, .return_)])
def zt_m74 : xv_N := ((10, zt_K10), (4, 5, 0, 0), (0, 0), [(0, .aload_n 0), (1, .getfield 24), (4, .bipush 20), (6, .if_icmp .lt 7), (9, .aload_n 0), (10, .invokevirtual 28), (13, .aload_n 0), (14, .getfield 9), (17, .aload_n 0), (18, .getfield 24), (21, .iload_n 1), (22, .iastore), (23, .aload_n 0), (24, .getfield 15), (27, .aload_n 0), (28, .getfield 24), (31, .iload_n 2), (32, .iastore), (33, .aload_n 0), (34, .getfield 18), (37, .aload_n 0), (38, .getfield 24), (41, .iload_n 3), (42, .iastore), (43, .aload_n 0), (44, .getfield 21), (47, .aload_n 0), (48, .getfield 24), (51, .iload 4), (53, .iastore), (54, .aload_n 0), (55, .dup), (56, .getfield 24), (59, .iconst 1), (60, .iadd), (61, .putfield 24), (64, .return_)])
def zt_m75 : xv_N := ((12, zt_K12), (0, 2, 0, 0), (0, 0), [(0, .aload_n 0), (1, .getfield 394), (4, .bipush 20), (6, .if_icmp .ne 43), (9, .iconst 0), (10, .istore_n 1), (11, .iload_n 1), (12, .sipush 418), (15, .if_icmp .ge 24), (18, .aload_n 0), (19, .getfield 133), (22, .iload_n 1), (23, .aload_n 0), (24, .getfield 133), (27, .iload_n 1), (28, .bipush 22), (30, .iadd), (31, .iaload), (32, .iastore), (33, .iinc 1 1), (36, .goto (-25)), (39, .aload_n 0), (40, .dup), (41, .getfield 394), (44, .iconst 1), (45, .isub), (46, .putfield 394), (49, .aload_n 0), (50, .aload_n 0), (51, .getfield 133), (54, .bipush 22), (56, .aload_n 0), (57, .getfield 394), (60, .imul), (61, .invokevirtual 570), (64, .aload_n 0), (65, .dup), (66, .getfield 394), (69, .iconst 1), (70, .iadd), (71, .putfield 394), (74, .return_)])
def zt_m76 : xv_N := ((12, zt_K12), (2, 4, 0, 0), (0, 0), [(0, .aload_n 1), (1, .iload_n 2), (2, .aload_n 0), (3, .getfield 91), (6, .iconst 0), (7, .iaload), (8, .iastore), (9, .aload_n 1), (10, .iload_n 2), (11, .iconst 1), (12, .iadd), (13, .aload_n 0), (14, .getfield 378), (17, .iastore), (18, .iconst 0), (19, .istore_n 3), (20, .iload_n 3), (21, .iconst 4), (22, .if_icmp .ge 22), (25, .aload_n 1), (26, .iload_n 2), (27, .iconst 2), (28, .iadd), (29, .iload_n 3), (30, .iadd), (31, .aload_n 0), (32, .getfield 94), (35, .iload_n 3), (36, .iaload), (37, .iastore), (38, .iinc 3 1), (41, .goto (-21)), (44, .iconst 0), (45, .istore_n 3), (46, .iload_n 3), (47, .bipush 16), (49, .if_icmp .ge 42), (52, .aload_n 1), (53, .iload_n 2), (54, .bipush 6), (56, .iadd), (57, .iload_n 3), (58, .iadd), (59, .aload_n 0), (60, .getfield 33), (63, .iload_n 3), (64, .iaload), (65, .bipush 48), (67, .aload_n 0), (68, .getfield 36), (71, .iload_n 3), (72, .iaload), (73, .iconst 4), (74, .aload_n 0), (75, .getfield 39), (78, .iload_n 3), (79, .iaload), (80, .imul), (81, .iadd), (82, .imul), (83, .iadd), (84, .iastore), (85, .iinc 3 1), (88, .goto (-42)), (91, .return_)])
def zt_m77 : xv_N := ((12, zt_K12), (4, 6, 0, 0), (0, 0), [(0, .aload_n 0), (1, .getfield 91), (4, .iload_n 1), (5, .iaload), (6, .istore 5), (8, .aload_n 0), (9, .getfield 33), (12, .iload 5), (14, .iload_n 2), (15, .iastore), (16, .aload_n 0), (17, .getfield 36), (20, .iload 5), (22, .iload_n 3), (23, .iastore), (24, .aload_n 0), (25, .getfield 39), (28, .iload 5), (30, .iload 4), (32, .iastore), (33, .aload_n 0), (34, .getfield 88), (37, .bipush 18), (39, .iload_n 1), (40, .imul), (41, .iload 5), (43, .iadd), (44, .iconst (-1)), (45, .iastore), (46, .aload_n 0), (47, .getfield 91), (50, .iload_n 1), (51, .dup2), (52, .iaload), (53, .iconst 1), (54, .iadd), (55, .iastore), (56, .return_)])
def zt_m78 : xv_N := ((11, zt_K11), (0, 2, 3, 0), (0, 0), [(0, .aload_n 0), (1, .getfield 42), (4, .getfield 213), (7, .aload_n 0), (8, .getfield 38), (11, .getfield 213), (14, .if_icmp .gt 5), (17, .iconst 0), (18, .ireturn), (19, .aload_n 0), (20, .getfield 42), (23, .getfield 150), (26, .aload_n 0), (27, .getfield 42), (30, .getfield 213), (33, .iconst 1), (34, .isub), (35, .aaload), (36, .astore_n 1), (37, .aload_n 1), (38, .getfield 165), (41, .iconst (-1)), (42, .if_icmp .eq 5), (45, .iconst 0), (46, .ireturn), (47, .aload_n 0), (48, .getfield 58), (51, .aload_n 1), (52, .invokevirtual 223), (55, .aload_n 0), (56, .getfield 42), (59, .dup), (60, .getfield 213), (63, .iconst 1), (64, .isub), (65, .putfield 213), (68, .iconst 1), (69, .ireturn)])
def zt_m79 : xv_N := ((12, zt_K12), (0, 1, 3, 0), (0, 0), [(0, .aload_n 0), (1, .iconst 0), (2, .putfield 154), (5, .aload_n 0), (6, .getfield 91), (9, .iconst 0), (10, .iaload), (11, .aload_n 0), (12, .getfield 247), (15, .if_icmp .eq 20), (18, .aload_n 0), (19, .getfield 88), (22, .aload_n 0), (23, .getfield 91), (26, .iconst 0), (27, .iaload), (28, .iconst 1), (29, .isub), (30, .iaload), (31, .iconst (-1)), (32, .if_icmp .eq 5), (35, .iconst 0), (36, .ireturn), (37, .aload_n 0), (38, .invokevirtual 493), (41, .aload_n 0), (42, .getfield 91), (45, .iconst 0), (46, .dup2), (47, .iaload), (48, .iconst 1), (49, .isub), (50, .iastore), (51, .iconst 1), (52, .ireturn)])
def zt_m80 : xv_N := ((11, zt_K11), (2, 4, 3, 0), (0, 0), [(0, .aload_n 0), (1, .getfield 42), (4, .iload_n 1), (5, .invokevirtual 168), (8, .ifCond .eq 14), (11, .aload_n 0), (12, .getfield 29), (15, .iload_n 2), (16, .invokevirtual 118), (19, .ifCond .ne 5), (22, .iconst 0), (23, .ireturn), (24, .aload_n 0), (25, .getfield 42), (28, .getfield 171), (31, .iload_n 1), (32, .aaload), (33, .astore_n 3), (34, .aload_n 3), (35, .getfield 175), (38, .iload_n 2), (39, .if_icmp .ne 5), (42, .iconst 0), (43, .ireturn), (44, .aload_n 0), (45, .getfield 58), (48, .iload_n 1), (49, .aload_n 3), (50, .getfield 175), (53, .invokevirtual 227), (56, .aload_n 3), (57, .iload_n 2), (58, .putfield 175), (61, .iconst 1), (62, .ireturn)])
def zt_m81 : xv_N := ((12, zt_K12), (2, 3, 3, 0), (0, 0), [(0, .aload_n 0), (1, .iconst 0), (2, .putfield 154), (5, .aload_n 0), (6, .iload_n 1), (7, .invokevirtual 485), (10, .ifCond .eq 21), (13, .aload_n 0), (14, .iload_n 2), (15, .invokevirtual 476), (18, .ifCond .eq 13), (21, .aload_n 0), (22, .getfield 94), (25, .iload_n 1), (26, .iaload), (27, .iload_n 2), (28, .if_icmp .ne 5), (31, .iconst 0), (32, .ireturn), (33, .aload_n 0), (34, .invokevirtual 493), (37, .aload_n 0), (38, .getfield 94), (41, .iload_n 1), (42, .iload_n 2), (43, .iastore), (44, .iconst 1), (45, .ireturn)])
def zt_m82 : xv_N := ((11, zt_K11), (1, 2, 3, 0), (0, 0), [(0, .iload_n 1), (1, .ifCond .lt 19), (4, .iload_n 1), (5, .iconst 3), (6, .if_icmp .ge 14), (9, .iload_n 1), (10, .aload_n 0), (11, .getfield 42), (14, .getfield 231), (17, .if_icmp .ne 5), (20, .iconst 0), (21, .ireturn), (22, .aload_n 0), (23, .getfield 58), (26, .aload_n 0), (27, .getfield 42), (30, .getfield 231), (33, .invokevirtual 234), (36, .aload_n 0), (37, .getfield 42), (40, .iload_n 1), (41, .putfield 231), (44, .iconst 1), (45, .ireturn)])
def zt_m83 : xv_N := ((12, zt_K12), (1, 2, 3, 0), (0, 0), [(0, .aload_n 0), (1, .iconst 0), (2, .putfield 154), (5, .iload_n 1), (6, .iconst 0), (7, .iconst 2), (8, .invokestatic 199), (11, .ifCond .eq 11), (14, .iload_n 1), (15, .aload_n 0), (16, .getfield 378), (19, .if_icmp .ne 5), (22, .iconst 0), (23, .ireturn), (24, .aload_n 0), (25, .invokevirtual 493), (28, .aload_n 0), (29, .iload_n 1), (30, .putfield 378), (33, .iconst 1), (34, .ireturn)])
def zt_m84 : xv_N := ((10, zt_K10), (1, 2, 0, 0), (0, 0), [(0, .aload_n 0), (1, .iconst 3), (2, .iload_n 1), (3, .iconst 0), (4, .iconst 0), (5, .invokevirtual 31), (8, .return_)])
def zt_m85 : xv_N := ((11, zt_K11), (1, 2, 1, 0), (0, 0), [(0, .iload_n 1), (1, .ifCond .lt 25), (4, .iload_n 1), (5, .sipush 200), (8, .if_icmp .gt 18), (11, .aload_n 0), (12, .getfield 42), (15, .getfield 237), (18, .iload_n 1), (19, .iadd), (20, .sipush 9999), (23, .if_icmp .le 5), (26, .iconst (-1)), (27, .ireturn), (28, .aload_n 0), (29, .getfield 42), (32, .iload_n 1), (33, .iconst 0), (34, .invokevirtual 240), (37, .iload_n 1), (38, .ifCond .le 10), (41, .aload_n 0), (42, .getfield 58), (45, .invokevirtual 114), (48, .aload_n 0), (49, .getfield 42), (52, .getfield 237), (55, .ireturn)])
def zt_m86 : xv_N := ((12, zt_K12), (1, 3, 1, 0), (0, 0), [(0, .aload_n 0), (1, .iconst 0), (2, .putfield 154), (5, .iload_n 1), (6, .iconst 0), (7, .sipush 200), (10, .invokestatic 199), (13, .ifCond .eq 17), (16, .aload_n 0), (17, .getfield 106), (20, .iconst 0), (21, .iaload), (22, .iload_n 1), (23, .iadd), (24, .sipush 9999), (27, .if_icmp .le 5), (30, .iconst (-1)), (31, .ireturn), (32, .aload_n 0), (33, .invokevirtual 385), (36, .iconst 0), (37, .istore_n 2), (38, .iload_n 2), (39, .iload_n 1), (40, .if_icmp .ge 14), (43, .aload_n 0), (44, .iconst 0), (45, .invokevirtual 500), (48, .iinc 2 1), (51, .goto (-13)), (54, .aload_n 0), (55, .iload_n 1), (56, .ifCond .le 7), (59, .iconst 0), (60, .goto 7), (63, .aload_n 0), (64, .getfield 394), (67, .putfield 394), (70, .aload_n 0), (71, .getfield 106), (74, .iconst 0), (75, .iaload), (76, .ireturn)])
def zt_m87 : xv_N := ((4, zt_K4), (2, 5, 0, 0), (0, 0), [(0, .iconst 0), (1, .istore_n 3), (2, .iload_n 3), (3, .iload_n 1), (4, .if_icmp .ge 125), (7, .iconst 0), (8, .istore 4), (10, .iload 4), (12, .aload_n 0), (13, .getfield 44), (16, .if_icmp .ge 33), (19, .aload_n 0), (20, .getfield 19), (23, .iload 4), (25, .aaload), (26, .getfield 82), (29, .aload_n 0), (30, .getfield 47), (33, .if_icmp .gt 10), (36, .aload_n 0), (37, .iload 4), (39, .iload_n 2), (40, .invokevirtual 85), (43, .iinc 4 1), (46, .goto (-36)), (49, .iconst 0), (50, .istore 4), (52, .iload 4), (54, .aload_n 0), (55, .getfield 44), (58, .if_icmp .ge 32), (61, .aload_n 0), (62, .getfield 19), (65, .iload 4), (67, .aaload), (68, .getfield 82), (71, .aload_n 0), (72, .getfield 47), (75, .if_icmp .gt 9), (78, .aload_n 0), (79, .iload 4), (81, .invokevirtual 89), (84, .iinc 4 1), (87, .goto (-35)), (90, .iload_n 2), (91, .ifCond .ne 7), (94, .aload_n 0), (95, .invokevirtual 93), (98, .aload_n 0), (99, .getfield 47), (102, .aload_n 0), (103, .getfield 57), (106, .if_icmp .ne 7), (109, .aload_n 0), (110, .invokevirtual 96), (113, .aload_n 0), (114, .dup), (115, .getfield 47), (118, .iconst 1), (119, .iadd), (120, .putfield 47), (123, .iinc 3 1), (126, .goto (-124)), (129, .return_)])
def zt_m88 : xv_N := ((4, zt_K4), (0, 3, 0, 0), (0, 0), [(0, .aload_n 0), (1, .getfield 34), (4, .getfield 161), (7, .ifCond .le 35), (10, .aload_n 0), (11, .getfield 34), (14, .getfield 152), (17, .ifCond .le 25), (20, .aload_n 0), (21, .getfield 47), (24, .ifCond .eq 18), (27, .aload_n 0), (28, .getfield 47), (31, .aload_n 0), (32, .getfield 34), (35, .getfield 161), (38, .irem), (39, .ifCond .eq 4), (42, .return_), (43, .aload_n 0), (44, .invokevirtual 112), (47, .aload_n 0), (48, .getfield 34), (51, .getfield 152), (54, .irem), (55, .istore_n 1), (56, .iconst 0), (57, .istore_n 2), (58, .iload_n 2), (59, .aload_n 0), (60, .getfield 40), (63, .if_icmp .ge 47), (66, .aload_n 0), (67, .getfield 11), (70, .iload_n 2), (71, .aaload), (72, .getfield 79), (75, .iconst (-1)), (76, .if_icmp .ne 28), (79, .aload_n 0), (80, .getfield 11), (83, .iload_n 2), (84, .aaload), (85, .getfield 70), (88, .iload_n 1), (89, .if_icmp .ne 15), (92, .aload_n 0), (93, .getfield 11), (96, .iload_n 2), (97, .aaload), (98, .bipush (-2)), (100, .putfield 79), (103, .return_), (104, .iinc 2 1), (107, .goto (-49)), (110, .return_)])
def zt_m89 : xv_N := ((12, zt_K12), (1, 5, 0, 0), (0, 0), [(0, .aload_n 0), (1, .getfield 106), (4, .iload_n 1), (5, .iaload), (6, .istore_n 2), (7, .iconst 0), (8, .istore_n 3), (9, .iload_n 3), (10, .aload_n 0), (11, .getfield 250), (14, .if_icmp .ge 37), (17, .aload_n 0), (18, .getfield 97), (21, .iconst 4), (22, .iload_n 1), (23, .imul), (24, .iload_n 3), (25, .iadd), (26, .iaload), (27, .iload_n 2), (28, .if_icmp .gt 17), (31, .iload_n 3), (32, .aload_n 0), (33, .getfield 112), (36, .if_icmp .eq 9), (39, .aload_n 0), (40, .iload_n 1), (41, .iload_n 3), (42, .invokevirtual 469), (45, .iinc 3 1), (48, .goto (-39)), (51, .iconst 0), (52, .istore_n 3), (53, .iload_n 3), (54, .aload_n 0), (55, .getfield 250), (58, .if_icmp .ge 37), (61, .aload_n 0), (62, .getfield 97), (65, .iconst 4), (66, .iload_n 1), (67, .imul), (68, .iload_n 3), (69, .iadd), (70, .iaload), (71, .iload_n 2), (72, .if_icmp .gt 17), (75, .iload_n 3), (76, .aload_n 0), (77, .getfield 112), (80, .if_icmp .eq 9), (83, .aload_n 0), (84, .iload_n 1), (85, .iload_n 3), (86, .invokevirtual 473), (89, .iinc 3 1), (92, .goto (-39)), (95, .aload_n 0), (96, .getfield 403), (99, .ifCond .ne 108), (102, .aload_n 0), (103, .getfield 24), (106, .iconst 2), (107, .iaload), (108, .ifCond .le 99), (111, .iload_n 2), (112, .ifCond .le 95), (115, .iload_n 2), (116, .aload_n 0), (117, .getfield 24), (120, .iconst 2), (121, .iaload), (122, .irem), (123, .ifCond .ne 84), (126, .aload_n 0), (127, .aload_n 0), (128, .invokevirtual 372), (131, .invokevirtual 451), (134, .istore_n 3), (135, .iconst 0), (136, .istore 4), (138, .iload 4), (140, .aload_n 0), (141, .getfield 91), (144, .iload_n 1), (145, .iaload), (146, .if_icmp .ge 36), (149, .aload_n 0), (150, .getfield 88), (153, .bipush 18), (155, .iload_n 1), (156, .imul), (157, .iload 4), (159, .iadd), (160, .iaload), (161, .iconst (-1)), (162, .if_icmp .ne 14), (165, .aload_n 0), (166, .getfield 33), (169, .iload 4), (171, .iaload), (172, .iload_n 3), (173, .if_icmp .eq 9), (176, .iinc 4 1), (179, .goto (-41)), (182, .iload 4), (184, .aload_n 0), (185, .getfield 91), (188, .iload_n 1), (189, .iaload), (190, .if_icmp .ge 17), (193, .aload_n 0), (194, .getfield 88), (197, .bipush 18), (199, .iload_n 1), (200, .imul), (201, .iload 4), (203, .iadd), (204, .bipush (-2)), (206, .iastore), (207, .iload_n 2), (208, .aload_n 0), (209, .getfield 24), (212, .iconst 3), (213, .iaload), (214, .if_icmp .ne 70), (217, .aload_n 0), (218, .getfield 406), (221, .ifCond .ne 63), (224, .iconst 0), (225, .istore_n 3), (226, .iload_n 3), (227, .aload_n 0), (228, .getfield 91), (231, .iload_n 1), (232, .iaload), (233, .if_icmp .ge 51), (236, .aload_n 0), (237, .getfield 88), (240, .bipush 18), (242, .iload_n 1), (243, .imul), (244, .iload_n 3), (245, .iadd), (246, .iaload), (247, .iconst (-1)), (248, .if_icmp .ne 30), (251, .aload_n 0), (252, .getfield 27), (255, .aload_n 0), (256, .getfield 33), (259, .iload_n 3), (260, .iaload), (261, .iaload), (262, .ifCond .ne 16), (265, .aload_n 0), (266, .getfield 88), (269, .bipush 18), (271, .iload_n 1), (272, .imul), (273, .iload_n 3), (274, .iadd), (275, .bipush (-3)), (277, .iastore), (278, .iinc 3 1), (281, .goto (-55)), (284, .aload_n 0), (285, .getfield 106), (288, .iload_n 1), (289, .dup2), (290, .iaload), (291, .iconst 1), (292, .iadd), (293, .iastore), (294, .return_)])
def zt_m90 : xv_N := ((11, zt_K11), (1, 2, 1, 0), (0, 0), [(0, .aload_n 0), (1, .getfield 29), (4, .iload_n 1), (5, .invokevirtual 118), (8, .ifCond .eq 15), (11, .aload_n 0), (12, .getfield 42), (15, .getfield 244), (18, .iload_n 1), (19, .iaload), (20, .goto 4), (23, .iconst (-1)), (24, .ireturn)])
def zt_m91 : xv_N := ((12, zt_K12), (1, 2, 1, 0), (0, 0), [(0, .aload_n 0), (1, .iconst 0), (2, .putfield 154), (5, .aload_n 0), (6, .iload_n 1), (7, .invokevirtual 476), (10, .ifCond .eq 12), (13, .aload_n 0), (14, .getfield 109), (17, .iload_n 1), (18, .iaload), (19, .goto 4), (22, .iconst (-1)), (23, .ireturn)])
def zt_m92 : xv_N := ((11, zt_K11), (1, 2, 1, 0), (0, 0), [(0, .aload_n 0), (1, .getfield 42), (4, .iload_n 1), (5, .invokevirtual 168), (8, .ifCond .ne 5), (11, .iconst (-1)), (12, .ireturn), (13, .aload_n 0), (14, .getfield 42), (17, .iload_n 1), (18, .aload_n 0), (19, .getfield 42), (22, .getfield 171), (25, .iload_n 1), (26, .aaload), (27, .getfield 175), (30, .invokevirtual 247), (33, .ireturn)])
def zt_m93 : xv_N := ((12, zt_K12), (1, 2, 1, 0), (0, 0), [(0, .aload_n 0), (1, .iconst 0), (2, .putfield 154), (5, .aload_n 0), (6, .iload_n 1), (7, .invokevirtual 485), (10, .ifCond .ne 5), (13, .iconst (-1)), (14, .ireturn), (15, .aload_n 0), (16, .invokevirtual 503), (19, .aload_n 0), (20, .iload_n 1), (21, .aload_n 0), (22, .getfield 94), (25, .iload_n 1), (26, .iaload), (27, .invokevirtual 506), (30, .ireturn)])
def zt_m94 : xv_N := ((11, zt_K11), (2, 3, 1, 0), (0, 0), [(0, .aload_n 0), (1, .getfield 42), (4, .iload_n 1), (5, .invokevirtual 168), (8, .ifCond .eq 14), (11, .iload_n 2), (12, .iconst 1), (13, .if_icmp .lt 9), (16, .iload_n 2), (17, .ldc 250), (19, .if_icmp .le 5), (22, .iconst (-1)), (23, .ireturn), (24, .aload_n 0), (25, .getfield 67), (28, .iload_n 1), (29, .iload_n 2), (30, .invokevirtual 251), (33, .ireturn)])
def zt_m95 : xv_N := ((12, zt_K12), (2, 6, 1, 0), (0, 0), [(0, .aload_n 0), (1, .iconst 0), (2, .putfield 154), (5, .aload_n 0), (6, .iload_n 1), (7, .invokevirtual 485), (10, .ifCond .eq 13), (13, .iload_n 2), (14, .iconst 1), (15, .ldc 192), (17, .invokestatic 199), (20, .ifCond .ne 5), (23, .iconst (-1)), (24, .ireturn), (25, .aload_n 0), (26, .invokevirtual 503), (29, .aload_n 0), (30, .getfield 94), (33, .iload_n 1), (34, .iaload), (35, .istore_n 3), (36, .iconst 0), (37, .istore 4), (39, .iload 4), (41, .bipush 40), (43, .if_icmp .ge 74), (46, .aload_n 0), (47, .iload_n 1), (48, .iload_n 3), (49, .invokevirtual 506), (52, .istore 5), (54, .iload 5), (56, .ifCond .lt 28), (59, .aload_n 0), (60, .getfield 115), (63, .iload 5), (65, .iaload), (66, .i2l), (67, .iload_n 2), (68, .i2l), (69, .aload_n 0), (70, .iload_n 3), (71, .iload 5), (73, .invokevirtual 466), (76, .iconst 1), (77, .iadd), (78, .i2l), (79, .lmul), (80, .lcmp), (81, .ifCond .ge 6), (84, .iload 4), (86, .ireturn), (87, .aload_n 0), (88, .getfield 115), (91, .iload 5), (93, .aload_n 0), (94, .iload_n 1), (95, .iload 5), (97, .aload_n 0), (98, .getfield 115), (101, .iload 5), (103, .iaload), (104, .invokevirtual 454), (107, .iastore), (108, .iload 5), (110, .istore_n 3), (111, .iinc 4 1), (114, .goto (-75)), (117, .iload 4), (119, .ireturn)])
def zt_m96 : xv_N := ((11, zt_K11), (5, 6, 1, 0), (0, 0), [(0, .iload_n 1), (1, .iconst 1), (2, .if_icmp .lt 56), (5, .iload_n 1), (6, .iconst 2), (7, .if_icmp .gt 51), (10, .iload_n 2), (11, .invokestatic 207), (14, .ifCond .eq 44), (17, .iload_n 3), (18, .invokestatic 210), (21, .ifCond .eq 37), (24, .iload 4), (26, .iconst 1), (27, .if_icmp .lt 31), (30, .iload 4), (32, .bipush 40), (34, .if_icmp .gt 24), (37, .iload 5), (39, .ifCond .lt 19), (42, .iload 5), (44, .iconst 2), (45, .if_icmp .gt 13), (48, .aload_n 0), (49, .getfield 42), (52, .getfield 254), (55, .ifCond .ne 5), (58, .iconst (-1)), (59, .ireturn), (60, .iload_n 1), (61, .aload_n 0), (62, .getfield 29), (65, .getfield 257), (68, .if_icmp .le 6), (71, .bipush (-3)), (73, .ireturn), (74, .iload 5), (76, .iload_n 1), (77, .if_icmp .le 6), (80, .bipush (-2)), (82, .ireturn), (83, .aload_n 0), (84, .getfield 67), (87, .iload_n 1), (88, .iload_n 2), (89, .iload_n 3), (90, .iload 4), (92, .invokevirtual 260), (95, .iload 5), (97, .ifCond .ne 13), (100, .aload_n 0), (101, .getfield 67), (104, .getfield 264), (107, .goto 15), (110, .aload_n 0), (111, .getfield 67), (114, .getfield 267), (117, .iload 5), (119, .iconst 1), (120, .isub), (121, .iaload), (122, .ireturn)])
def zt_m97 : xv_N := ((12, zt_K12), (5, 6, 1, 0), (0, 0), [(0, .aload_n 0), (1, .iconst 0), (2, .putfield 154), (5, .iload_n 1), (6, .iconst 1), (7, .iconst 2), (8, .invokestatic 199), (11, .ifCond .eq 50), (14, .iload_n 2), (15, .iconst 0), (16, .iconst 3), (17, .invokestatic 199), (20, .ifCond .eq 41), (23, .iload_n 3), (24, .iconst 0), (25, .bipush 9), (27, .invokestatic 199), (30, .ifCond .eq 31), (33, .iload 4), (35, .iconst 1), (36, .bipush 40), (38, .invokestatic 199), (41, .ifCond .eq 20), (44, .iload 5), (46, .iconst 0), (47, .iconst 2), (48, .invokestatic 199), (51, .ifCond .eq 10), (54, .aload_n 0), (55, .getfield 250), (58, .ifCond .ne 5), (61, .iconst (-1)), (62, .ireturn), (63, .iload_n 1), (64, .aload_n 0), (65, .invokevirtual 372), (68, .if_icmp .le 6), (71, .bipush (-3)), (73, .ireturn), (74, .iload 5), (76, .iload_n 1), (77, .if_icmp .le 6), (80, .bipush (-2)), (82, .ireturn), (83, .aload_n 0), (84, .iload_n 1), (85, .iload_n 2), (86, .iload_n 3), (87, .iload 4), (89, .invokevirtual 527), (92, .iload 5), (94, .ifCond .ne 10), (97, .aload_n 0), (98, .getfield 509), (101, .goto 20), (104, .iload 5), (106, .iconst 1), (107, .if_icmp .ne 10), (110, .aload_n 0), (111, .getfield 521), (114, .goto 7), (117, .aload_n 0), (118, .getfield 524), (121, .ireturn)])
def zt_m98 : xv_N := ((11, zt_K11), (2, 4, 1, 0), (0, 0), [(0, .iload_n 1), (1, .invokestatic 270), (4, .ifCond .eq 22), (7, .iload_n 2), (8, .ifCond .lt 18), (11, .iload_n 2), (12, .iconst 1), (13, .if_icmp .gt 13), (16, .aload_n 0), (17, .getfield 42), (20, .getfield 254), (23, .ifCond .ne 5), (26, .iconst (-1)), (27, .ireturn), (28, .aload_n 0), (29, .getfield 67), (32, .iload_n 1), (33, .invokevirtual 273), (36, .istore_n 3), (37, .iload_n 2), (38, .ifCond .ne 7), (41, .iload_n 3), (42, .goto 10), (45, .aload_n 0), (46, .getfield 67), (49, .getfield 264), (52, .ireturn)])
def zt_m99 : xv_N := ((11, zt_K11), (1, 1, 3, 0), (0, 0), [(0, .iload_n 0), (1, .iconst 1), (2, .if_icmp .lt 14), (5, .iload_n 0), (6, .sipush 200), (9, .if_icmp .gt 7), (12, .iconst 1), (13, .goto 4), (16, .iconst 0), (17, .ireturn)])
def zt_m100 : xv_N := ((12, zt_K12), (2, 8, 1, 0), (0, 0), [(0, .aload_n 0), (1, .iconst 0), (2, .putfield 154), (5, .iload_n 1), (6, .iconst 1), (7, .sipush 200), (10, .invokestatic 199), (13, .ifCond .eq 19), (16, .iload_n 2), (17, .iconst 0), (18, .iconst 1), (19, .invokestatic 199), (22, .ifCond .eq 10), (25, .aload_n 0), (26, .getfield 250), (29, .ifCond .ne 5), (32, .iconst (-1)), (33, .ireturn), (34, .iconst 0), (35, .istore_n 3), (36, .iconst 1), (37, .istore 4), (39, .iload 4), (41, .aload_n 0), (42, .getfield 250), (45, .if_icmp .ge 32), (48, .aload_n 0), (49, .getfield 48), (52, .iload 4), (54, .iaload), (55, .aload_n 0), (56, .getfield 48), (59, .iload_n 3), (60, .iaload), (61, .if_icmp .le 8), (64, .iload 4), (66, .goto 4), (69, .iload_n 3), (70, .istore_n 3), (71, .iinc 4 1), (74, .goto (-35)), (77, .iconst 0), (78, .istore 4), (80, .iconst (-1)), (81, .istore 5), (83, .iconst 0), (84, .istore 6), (86, .iload 6), (88, .bipush 31), (90, .if_icmp .ge 61), (93, .aload_n 0), (94, .invokevirtual 512), (97, .aload_n 0), (98, .getfield 97), (101, .iconst 4), (102, .iload_n 3), (103, .iadd), (104, .dup2), (105, .iaload), (106, .iload 6), (108, .iadd), (109, .iastore), (110, .aload_n 0), (111, .iload_n 1), (112, .invokevirtual 515), (115, .aload_n 0), (116, .iconst 1), (117, .invokevirtual 518), (120, .istore 7), (122, .iload 5), (124, .ifCond .lt 13), (127, .iload 7), (129, .iload 5), (131, .if_icmp .lt 6), (134, .goto 11), (137, .iload 6), (139, .istore 4), (141, .iload 7), (143, .istore 5), (145, .iinc 6 1), (148, .goto (-62)), (151, .iload_n 2), (152, .ifCond .ne 8), (155, .iload 4), (157, .goto 5), (160, .iload 5), (162, .ireturn)])
def zt_m101 : xv_N := ((11, zt_K11), (2, 3, 1, 0), (0, 0), [(0, .iload_n 1), (1, .ifCond .lt 15), (4, .iload_n 1), (5, .iconst 3), (6, .if_icmp .ge 10), (9, .iload_n 2), (10, .invokestatic 270), (13, .ifCond .ne 5), (16, .iconst (-1)), (17, .ireturn), (18, .aload_n 0), (19, .getfield 67), (22, .iload_n 1), (23, .iload_n 2), (24, .invokevirtual 276), (27, .ireturn)])
def zt_m102 : xv_N := ((12, zt_K12), (2, 3, 1, 0), (0, 0), [(0, .aload_n 0), (1, .iconst 0), (2, .putfield 154), (5, .iload_n 1), (6, .iconst 0), (7, .iconst 2), (8, .invokestatic 199), (11, .ifCond .eq 23), (14, .iload_n 2), (15, .iconst 1), (16, .sipush 200), (19, .invokestatic 199), (22, .ifCond .eq 12), (25, .aload_n 0), (26, .iload_n 1), (27, .iload_n 2), (28, .invokevirtual 530), (31, .goto 4), (34, .iconst (-1)), (35, .ireturn)])
def zt_m103 : xv_N := ((9, zt_K9), (2, 3, 1, 0), (0, 0), [(0, .aload_n 0), (1, .getfield 64), (4, .aload_n 0), (5, .getfield 50), (8, .invokevirtual 67), (11, .aload_n 0), (12, .getfield 64), (15, .iload_n 1), (16, .putfield 220), (19, .aload_n 0), (20, .getfield 64), (23, .iload_n 2), (24, .iconst 1), (25, .invokevirtual 133), (28, .aload_n 0), (29, .getfield 64), (32, .invokevirtual 223), (35, .ireturn)])
def zt_m104 : xv_N := ((4, zt_K4), (0, 4, 1, 0), (0, 0), [(0, .aload_n 0), (1, .invokevirtual 206), (4, .istore_n 1), (5, .iconst 0), (6, .istore_n 2), (7, .iconst 0), (8, .istore_n 3), (9, .iload_n 3), (10, .aload_n 0), (11, .getfield 44), (14, .if_icmp .ge 23), (17, .iload_n 2), (18, .iload_n 1), (19, .aload_n 0), (20, .getfield 19), (23, .iload_n 3), (24, .aaload), (25, .getfield 102), (28, .isub), (29, .iadd), (30, .istore_n 2), (31, .iinc 3 1), (34, .goto (-25)), (37, .iload_n 2), (38, .ireturn)])
def zt_m105 : xv_N := ((4, zt_K4), (0, 3, 1, 0), (0, 0), [(0, .iconst 0), (1, .istore_n 1), (2, .iconst 0), (3, .istore_n 2), (4, .iload_n 2), (5, .aload_n 0), (6, .getfield 44), (9, .if_icmp .ge 23), (12, .iload_n 1), (13, .aload_n 0), (14, .getfield 19), (17, .iload_n 2), (18, .aaload), (19, .getfield 102), (22, .invokestatic 201), (25, .istore_n 1), (26, .iinc 2 1), (29, .goto (-25)), (32, .iload_n 1), (33, .ireturn)])
def zt_m106 : xv_N := ((12, zt_K12), (2, 6, 1, 0), (0, 0), [(0, .aload_n 0), (1, .invokevirtual 512), (4, .aload_n 0), (5, .iload_n 1), (6, .putfield 400), (9, .aload_n 0), (10, .iload_n 2), (11, .invokevirtual 515), (14, .iconst 0), (15, .istore_n 3), (16, .iconst 0), (17, .istore 4), (19, .iconst 0), (20, .istore 5), (22, .iload 5), (24, .aload_n 0), (25, .getfield 250), (28, .if_icmp .ge 32), (31, .aload_n 0), (32, .iconst 1), (33, .iload 5), (35, .invokevirtual 433), (38, .iload_n 3), (39, .if_icmp .le 13), (42, .aload_n 0), (43, .iconst 1), (44, .iload 5), (46, .invokevirtual 433), (49, .goto 4), (52, .iload_n 3), (53, .istore_n 3), (54, .iinc 5 1), (57, .goto (-35)), (60, .iconst 0), (61, .istore 5), (63, .iload 5), (65, .aload_n 0), (66, .getfield 250), (69, .if_icmp .ge 23), (72, .iload 4), (74, .iload_n 3), (75, .aload_n 0), (76, .iconst 1), (77, .iload 5), (79, .invokevirtual 433), (82, .isub), (83, .iadd), (84, .istore 4), (86, .iinc 5 1), (89, .goto (-26)), (92, .iload 4), (94, .ireturn)])
def zt_m107 : xv_N := ((12, zt_K12), (0, 2, 0, 0), (0, 0), [(0, .iconst 0), (1, .istore_n 1), (2, .iload_n 1), (3, .bipush 18), (5, .if_icmp .ge 24), (8, .aload_n 0), (9, .getfield 88), (12, .bipush 18), (14, .iload_n 1), (15, .iadd), (16, .aload_n 0), (17, .getfield 88), (20, .iload_n 1), (21, .iaload), (22, .iastore), (23, .iinc 1 1), (26, .goto (-24)), (29, .aload_n 0), (30, .getfield 91), (33, .iconst 1), (34, .aload_n 0), (35, .getfield 91), (38, .iconst 0), (39, .iaload), (40, .iastore), (41, .iconst 0), (42, .istore_n 1), (43, .iload_n 1), (44, .iconst 4), (45, .if_icmp .ge 37), (48, .aload_n 0), (49, .getfield 94), (52, .iconst 4), (53, .iload_n 1), (54, .iadd), (55, .aload_n 0), (56, .getfield 94), (59, .iload_n 1), (60, .iaload), (61, .iastore), (62, .aload_n 0), (63, .getfield 97), (66, .iconst 4), (67, .iload_n 1), (68, .iadd), (69, .aload_n 0), (70, .getfield 97), (73, .iload_n 1), (74, .iaload), (75, .iastore), (76, .iinc 1 1), (79, .goto (-36)), (82, .aload_n 0), (83, .getfield 103), (86, .iconst 1), (87, .aload_n 0), (88, .getfield 103), (91, .iconst 0), (92, .laload), (93, .lastore), (94, .aload_n 0), (95, .getfield 106), (98, .iconst 1), (99, .aload_n 0), (100, .getfield 106), (103, .iconst 0), (104, .iaload), (105, .iastore), (106, .aload_n 0), (107, .invokevirtual 385), (110, .return_)])
def zt_m108 : xv_N := ((12, zt_K12), (1, 3, 0, 0), (0, 0), [(0, .aload_n 0), (1, .iconst 1), (2, .putfield 403), (5, .iconst 0), (6, .istore_n 2), (7, .iload_n 2), (8, .iload_n 1), (9, .if_icmp .ge 14), (12, .aload_n 0), (13, .iconst 1), (14, .invokevirtual 500), (17, .iinc 2 1), (20, .goto (-13)), (23, .aload_n 0), (24, .invokevirtual 385), (27, .return_)])
def zt_m109 : xv_N := ((11, zt_K11), (1, 2, 1, 0), (0, 0), [(0, .iload_n 1), (1, .invokestatic 270), (4, .ifCond .eq 14), (7, .aload_n 0), (8, .getfield 67), (11, .iload_n 1), (12, .invokevirtual 279), (15, .goto 4), (18, .iconst (-1)), (19, .ireturn)])
def zt_m110 : xv_N := ((12, zt_K12), (1, 4, 1, 0), (0, 0), [(0, .aload_n 0), (1, .iconst 0), (2, .putfield 154), (5, .iload_n 1), (6, .iconst 1), (7, .sipush 200), (10, .invokestatic 199), (13, .ifCond .ne 5), (16, .iconst (-1)), (17, .ireturn), (18, .iconst 0), (19, .istore_n 2), (20, .iconst 1), (21, .istore_n 3), (22, .iload_n 3), (23, .iconst 3), (24, .if_icmp .ge 30), (27, .aload_n 0), (28, .iload_n 3), (29, .iload_n 1), (30, .invokevirtual 530), (33, .aload_n 0), (34, .iload_n 2), (35, .iload_n 1), (36, .invokevirtual 530), (39, .if_icmp .ge 7), (42, .iload_n 3), (43, .goto 4), (46, .iload_n 2), (47, .istore_n 2), (48, .iinc 3 1), (51, .goto (-29)), (54, .iload_n 2), (55, .ireturn)])
def zt_m111 : xv_N := ((9, zt_K9), (1, 6, 1, 0), (0, 0), [(0, .iconst 0), (1, .istore_n 2), (2, .ldc 107), (4, .istore_n 3), (5, .iconst 0), (6, .istore 4), (8, .iload 4), (10, .iconst 3), (11, .if_icmp .ge 30), (14, .aload_n 0), (15, .iload 4), (17, .iload_n 1), (18, .invokevirtual 226), (21, .istore 5), (23, .iload 5), (25, .iload_n 3), (26, .if_icmp .ge 9), (29, .iload 5), (31, .istore_n 3), (32, .iload 4), (34, .istore_n 2), (35, .iinc 4 1), (38, .goto (-30)), (41, .iload_n 2), (42, .ireturn)])
def zt_m112 : xv_N := ((11, zt_K11), (0, 1, 1, 0), (0, 0), [(0, .aload_n 0), (1, .getfield 67), (4, .invokevirtual 282), (7, .ireturn)])
def zt_m113 : xv_N := ((9, zt_K9), (0, 4, 1, 0), (0, 0), [(0, .aload_n 0), (1, .iconst 0), (2, .putfield 205), (5, .iconst 0), (6, .istore_n 1), (7, .iload_n 1), (8, .aload_n 0), (9, .getfield 49), (12, .getfield 111), (15, .if_icmp .ge 22), (18, .aload_n 0), (19, .aload_n 0), (20, .getfield 50), (23, .getfield 85), (26, .iload_n 1), (27, .iaload), (28, .invokevirtual 208), (31, .iinc 1 1), (34, .goto (-27)), (37, .iconst 0), (38, .istore_n 1), (39, .iconst 0), (40, .istore_n 2), (41, .iload_n 2), (42, .aload_n 0), (43, .getfield 205), (46, .if_icmp .ge 58), (49, .iconst 0), (50, .istore_n 3), (51, .iload_n 3), (52, .aload_n 0), (53, .getfield 205), (56, .if_icmp .ge 42), (59, .aload_n 0), (60, .iload_n 2), (61, .iload_n 3), (62, .invokevirtual 211), (65, .ifCond .eq 27), (68, .aload_n 0), (69, .iload_n 3), (70, .iload_n 2), (71, .invokevirtual 211), (74, .ifCond .eq 18), (77, .aload_n 0), (78, .getfield 40), (81, .iload_n 1), (82, .bipush 10), (84, .iload_n 2), (85, .imul), (86, .iload_n 3), (87, .iadd), (88, .iastore), (89, .iinc 1 1), (92, .iinc 3 1), (95, .goto (-44)), (98, .iinc 2 1), (101, .goto (-60)), (104, .iload_n 1), (105, .ireturn)])
def zt_m114 : xv_N := ((9, zt_K9), (1, 3, 0, 0), (0, 0), [(0, .aload_n 0), (1, .getfield 205), (4, .istore_n 2), (5, .aload_n 0), (6, .getfield 205), (9, .iconst 4), (10, .if_icmp .ge 13), (13, .aload_n 0), (14, .dup), (15, .getfield 205), (18, .iconst 1), (19, .iadd), (20, .putfield 205), (23, .iload_n 2), (24, .ifCond .le 40), (27, .aload_n 0), (28, .getfield 37), (31, .iload_n 2), (32, .iconst 1), (33, .isub), (34, .iaload), (35, .iload_n 1), (36, .if_icmp .ge 28), (39, .iload_n 2), (40, .iconst 4), (41, .if_icmp .ge 17), (44, .aload_n 0), (45, .getfield 37), (48, .iload_n 2), (49, .aload_n 0), (50, .getfield 37), (53, .iload_n 2), (54, .iconst 1), (55, .isub), (56, .iaload), (57, .iastore), (58, .iinc 2 (-1)), (61, .goto (-38)), (64, .iload_n 2), (65, .iconst 4), (66, .if_icmp .ge 10), (69, .aload_n 0), (70, .getfield 37), (73, .iload_n 2), (74, .iload_n 1), (75, .iastore), (76, .return_)])
def zt_m115 : xv_N := ((9, zt_K9), (2, 4, 3, 0), (0, 0), [(0, .iconst 0), (1, .istore_n 3), (2, .iload_n 3), (3, .aload_n 0), (4, .getfield 205), (7, .if_icmp .ge 26), (10, .aload_n 0), (11, .iload_n 3), (12, .iload_n 2), (13, .invokevirtual 214), (16, .aload_n 0), (17, .iload_n 1), (18, .iload_n 2), (19, .invokevirtual 214), (22, .if_icmp .le 5), (25, .iconst 0), (26, .ireturn), (27, .iinc 3 1), (30, .goto (-28)), (33, .iconst 1), (34, .ireturn)])
def zt_m116 : xv_N := ((9, zt_K9), (2, 3, 1, 0), (0, 0), [(0, .iload_n 1), (1, .iload_n 2), (2, .if_icmp .ne 14), (5, .aload_n 0), (6, .getfield 37), (9, .iload_n 1), (10, .iaload), (11, .iconst 2), (12, .idiv), (13, .goto 9), (16, .aload_n 0), (17, .getfield 37), (20, .iload_n 1), (21, .iaload), (22, .ireturn)])
def zt_m117 : xv_N := ((12, zt_K12), (0, 1, 1, 0), (0, 0), [(0, .aload_n 0), (1, .iconst 0), (2, .putfield 154), (5, .aload_n 0), (6, .iconst (-1)), (7, .invokevirtual 545), (10, .ireturn)])
def zt_m118 : xv_N := ((12, zt_K12), (1, 5, 1, 0), (0, 0), [(0, .aload_n 0), (1, .invokevirtual 539), (4, .iconst 0), (5, .istore_n 2), (6, .iconst 0), (7, .istore_n 3), (8, .iload_n 3), (9, .aload_n 0), (10, .getfield 533), (13, .if_icmp .ge 56), (16, .iconst 0), (17, .istore 4), (19, .iload 4), (21, .aload_n 0), (22, .getfield 533), (25, .if_icmp .ge 38), (28, .aload_n 0), (29, .iload_n 3), (30, .iload 4), (32, .invokevirtual 542), (35, .ifCond .ne 6), (38, .goto 19), (41, .iload_n 2), (42, .iload_n 1), (43, .if_icmp .ne 11), (46, .bipush 10), (48, .iload_n 3), (49, .imul), (50, .iload 4), (52, .iadd), (53, .ireturn), (54, .iinc 2 1), (57, .iinc 4 1), (60, .goto (-41)), (63, .iinc 3 1), (66, .goto (-58)), (69, .iload_n 1), (70, .ifCond .ge 7), (73, .iload_n 2), (74, .goto 5), (77, .bipush (-2)), (79, .ireturn)])
def zt_m119 : xv_N := ((12, zt_K12), (0, 5, 0, 0), (0, 0), [(0, .aload_n 0), (1, .iconst 0), (2, .putfield 533), (5, .lconst 0), (6, .lstore_n 1), (7, .aload_n 0), (8, .getfield 533), (11, .iconst 4), (12, .if_icmp .ge 95), (15, .aload_n 0), (16, .getfield 533), (19, .aload_n 0), (20, .invokevirtual 372), (23, .if_icmp .ge 84), (26, .iconst (-1)), (27, .istore_n 3), (28, .iconst 0), (29, .istore 4), (31, .iload 4), (33, .aload_n 0), (34, .invokevirtual 372), (37, .if_icmp .ge 41), (40, .lload_n 1), (41, .iload 4), (43, .invokestatic 459), (46, .ifCond .ne 26), (49, .iload_n 3), (50, .ifCond .lt 19), (53, .aload_n 0), (54, .getfield 109), (57, .iload 4), (59, .iaload), (60, .aload_n 0), (61, .getfield 109), (64, .iload_n 3), (65, .iaload), (66, .if_icmp .le 6), (69, .iload 4), (71, .istore_n 3), (72, .iinc 4 1), (75, .goto (-44)), (78, .aload_n 0), (79, .getfield 118), (82, .aload_n 0), (83, .getfield 533), (86, .iload_n 3), (87, .iastore), (88, .lload_n 1), (89, .lconst 1), (90, .iload_n 3), (91, .lshl), (92, .lor), (93, .lstore_n 1), (94, .aload_n 0), (95, .dup), (96, .getfield 533), (99, .iconst 1), (100, .iadd), (101, .putfield 533), (104, .goto (-97)), (107, .return_)])
def zt_m120 : xv_N := ((12, zt_K12), (2, 3, 3, 0), (0, 0), [(0, .lload_n 0), (1, .iload_n 2), (2, .lshr), (3, .lconst 1), (4, .land), (5, .lconst 1), (6, .lcmp), (7, .ifCond .ne 7), (10, .iconst 1), (11, .goto 4), (14, .iconst 0), (15, .ireturn)])
def zt_m121 : xv_N := ((12, zt_K12), (2, 4, 3, 0), (0, 0), [(0, .iconst 0), (1, .istore_n 3), (2, .iload_n 3), (3, .aload_n 0), (4, .getfield 533), (7, .if_icmp .ge 41), (10, .aload_n 0), (11, .iload_n 3), (12, .iload_n 2), (13, .invokevirtual 536), (16, .aload_n 0), (17, .iload_n 1), (18, .iload_n 2), (19, .invokevirtual 536), (22, .if_icmp .gt 18), (25, .aload_n 0), (26, .iload_n 3), (27, .iload_n 1), (28, .invokevirtual 536), (31, .aload_n 0), (32, .iload_n 2), (33, .iload_n 1), (34, .invokevirtual 536), (37, .if_icmp .le 5), (40, .iconst 0), (41, .ireturn), (42, .iinc 3 1), (45, .goto (-43)), (48, .iconst 1), (49, .ireturn)])
def zt_m122 : xv_N := ((12, zt_K12), (2, 3, 1, 0), (0, 0), [(0, .iload_n 1), (1, .iload_n 2), (2, .if_icmp .ne 19), (5, .aload_n 0), (6, .getfield 109), (9, .aload_n 0), (10, .getfield 118), (13, .iload_n 1), (14, .iaload), (15, .iaload), (16, .iconst 2), (17, .idiv), (18, .goto 14), (21, .aload_n 0), (22, .getfield 109), (25, .aload_n 0), (26, .getfield 118), (29, .iload_n 1), (30, .iaload), (31, .iaload), (32, .ireturn)])
def zt_m123 : xv_N := ((11, zt_K11), (1, 2, 1, 0), (0, 0), [(0, .iload_n 1), (1, .ifCond .ge 5), (4, .iconst (-1)), (5, .ireturn), (6, .iload_n 1), (7, .aload_n 0), (8, .getfield 67), (11, .invokevirtual 282), (14, .if_icmp .ge 15), (17, .aload_n 0), (18, .getfield 67), (21, .getfield 286), (24, .iload_n 1), (25, .iaload), (26, .goto 5), (29, .bipush (-2)), (31, .ireturn)])
def zt_m124 : xv_N := ((12, zt_K12), (1, 2, 1, 0), (0, 0), [(0, .aload_n 0), (1, .iconst 0), (2, .putfield 154), (5, .iload_n 1), (6, .ifCond .ge 7), (9, .iconst (-1)), (10, .goto 8), (13, .aload_n 0), (14, .iload_n 1), (15, .invokevirtual 545), (18, .ireturn)])
def zt_m125 : xv_N := ((11, zt_K11), (1, 2, 2, 0), (0, 0), [(0, .iload_n 1), (1, .ifCond .lt 8), (4, .iload_n 1), (5, .iconst 1), (6, .if_icmp .le 7), (9, .ldc2_w 289), (12, .lreturn), (13, .aload_n 0), (14, .getfield 29), (17, .iload_n 1), (18, .ifCond .ne 7), (21, .iconst 1), (22, .goto 4), (25, .iconst 0), (26, .invokevirtual 291), (29, .lreturn)])
def zt_m126 : xv_N := ((12, zt_K12), (1, 12, 2, 0), (0, 0), [(0, .aload_n 0), (1, .iconst 0), (2, .putfield 154), (5, .lconst 0), (6, .lstore_n 2), (7, .lconst 0), (8, .lstore 4), (10, .iconst 0), (11, .istore 6), (13, .iload 6), (15, .aload_n 0), (16, .invokevirtual 372), (19, .if_icmp .ge 33), (22, .aload_n 0), (23, .iload 6), (25, .invokevirtual 388), (28, .i2l), (29, .lstore 7), (31, .lload_n 2), (32, .lload 7), (34, .ladd), (35, .lstore_n 2), (36, .lload 4), (38, .lload 7), (40, .lload 7), (42, .lmul), (43, .ladd), (44, .lstore 4), (46, .iinc 6 1), (49, .goto (-36)), (52, .iload_n 1), (53, .iconst 0), (54, .iconst 1), (55, .invokestatic 199), (58, .ifCond .eq 9), (61, .lload_n 2), (62, .lconst 0), (63, .lcmp), (64, .ifCond .ne 7), (67, .ldc2_w 548), (70, .lreturn), (71, .lload 4), (73, .lstore 6), (75, .lload_n 2), (76, .lload_n 2), (77, .lmul), (78, .lstore 8), (80, .lload 8), (82, .lconst 0), (83, .lcmp), (84, .ifCond .eq 21), (87, .lload 6), (89, .lload 8), (91, .lrem), (92, .lstore 10), (94, .lload 8), (96, .lstore 6), (98, .lload 10), (100, .lstore 8), (102, .goto (-22)), (105, .iload_n 1), (106, .ifCond .ne 8), (109, .lload 4), (111, .goto 6), (114, .lload_n 2), (115, .lload_n 2), (116, .lmul), (117, .lload 6), (119, .ldiv), (120, .lreturn)])
def zt_m127 : xv_N := ((5, zt_K5), (1, 8, 2, 0), (0, 0), [(0, .lconst 0), (1, .lstore_n 2), (2, .lconst 0), (3, .lstore 4), (5, .iconst 0), (6, .istore 6), (8, .iload 6), (10, .aload_n 0), (11, .getfield 60), (14, .if_icmp .ge 42), (17, .lload_n 2), (18, .aload_n 0), (19, .getfield 28), (22, .iload 6), (24, .iaload), (25, .i2l), (26, .ladd), (27, .lstore_n 2), (28, .lload 4), (30, .aload_n 0), (31, .getfield 28), (34, .iload 6), (36, .iaload), (37, .i2l), (38, .aload_n 0), (39, .getfield 28), (42, .iload 6), (44, .iaload), (45, .i2l), (46, .lmul), (47, .ladd), (48, .lstore 4), (50, .iinc 6 1), (53, .goto (-45)), (56, .lload_n 2), (57, .lload_n 2), (58, .lmul), (59, .lload 4), (61, .invokestatic 131), (64, .lstore 6), (66, .lload 6), (68, .lconst 0), (69, .lcmp), (70, .ifCond .ne 7), (73, .ldc2_w 134), (76, .lreturn), (77, .iload_n 1), (78, .ifCond .eq 11), (81, .lload 4), (83, .lload 6), (85, .ldiv), (86, .goto 9), (89, .lload_n 2), (90, .lload_n 2), (91, .lmul), (92, .lload 6), (94, .ldiv), (95, .lreturn)])
def zt_m128 : xv_N := ((5, zt_K5), (2, 11, 2, 0), (0, 0), [(0, .lload_n 0), (1, .lstore 4), (3, .lload_n 2), (4, .lstore 6), (6, .iconst 0), (7, .istore 8), (9, .iload 8), (11, .sipush 1000), (14, .if_icmp .ge 31), (17, .lload 6), (19, .lconst 0), (20, .lcmp), (21, .ifCond .eq 24), (24, .lload 4), (26, .lload 6), (28, .lrem), (29, .lstore 9), (31, .lload 6), (33, .lstore 4), (35, .lload 9), (37, .lstore 6), (39, .iinc 8 1), (42, .goto (-33)), (45, .lload 4), (47, .lreturn)])
def zt_m129 : xv_N := ((11, zt_K11), (0, 1, 1, 0), (0, 0), [(0, .aload_n 0), (1, .getfield 42), (4, .invokevirtual 295), (7, .ireturn)])
def zt_m130 : xv_N := ((4, zt_K4), (0, 3, 1, 0), (0, 0), [(0, .iconst 0), (1, .istore_n 1), (2, .iconst 0), (3, .istore_n 2), (4, .iload_n 2), (5, .aload_n 0), (6, .getfield 40), (9, .if_icmp .ge 40), (12, .aload_n 0), (13, .getfield 11), (16, .iload_n 2), (17, .aaload), (18, .getfield 79), (21, .iconst (-1)), (22, .if_icmp .ne 21), (25, .aload_n 0), (26, .iload_n 2), (27, .invokevirtual 192), (30, .iload_n 1), (31, .bipush 100), (33, .aload_n 0), (34, .getfield 34), (37, .invokevirtual 195), (40, .isub), (41, .iadd), (42, .istore_n 1), (43, .iinc 2 1), (46, .goto (-42)), (49, .iload_n 1), (50, .ireturn)])
def zt_m131 : xv_N := ((12, zt_K12), (0, 3, 1, 0), (0, 0), [(0, .aload_n 0), (1, .iconst 0), (2, .putfield 154), (5, .iconst 0), (6, .istore_n 1), (7, .iconst 0), (8, .istore_n 2), (9, .iload_n 2), (10, .aload_n 0), (11, .getfield 91), (14, .iconst 0), (15, .iaload), (16, .if_icmp .ge 34), (19, .iload_n 1), (20, .aload_n 0), (21, .getfield 88), (24, .iload_n 2), (25, .iaload), (26, .iconst (-1)), (27, .if_icmp .ne 14), (30, .bipush 100), (32, .aload_n 0), (33, .iload_n 2), (34, .invokevirtual 550), (37, .isub), (38, .goto 4), (41, .iconst 0), (42, .iadd), (43, .istore_n 1), (44, .iinc 2 1), (47, .goto (-38)), (50, .iload_n 1), (51, .ireturn)])
def zt_m132 : xv_N := ((11, zt_K11), (2, 3, 1, 0), (0, 0), [(0, .aload_n 0), (1, .getfield 42), (4, .iload_n 1), (5, .invokevirtual 168), (8, .ifCond .eq 14), (11, .aload_n 0), (12, .getfield 42), (15, .iload_n 2), (16, .invokevirtual 147), (19, .ifCond .ne 5), (22, .iconst (-1)), (23, .ireturn), (24, .aload_n 0), (25, .getfield 42), (28, .iload_n 1), (29, .iload_n 2), (30, .invokevirtual 298), (33, .ireturn)])
def zt_m133 : xv_N := ((12, zt_K12), (2, 3, 1, 0), (0, 0), [(0, .aload_n 0), (1, .iconst 0), (2, .putfield 154), (5, .aload_n 0), (6, .iload_n 1), (7, .invokevirtual 485), (10, .ifCond .eq 20), (13, .aload_n 0), (14, .iload_n 2), (15, .invokevirtual 482), (18, .ifCond .eq 12), (21, .aload_n 0), (22, .iload_n 1), (23, .iload_n 2), (24, .invokevirtual 488), (27, .goto 4), (30, .iconst (-1)), (31, .ireturn)])
def zt_m134 : xv_N := ((11, zt_K11), (1, 2, 1, 0), (0, 0), [(0, .iload_n 1), (1, .ifCond .lt 8), (4, .iload_n 1), (5, .iconst 3), (6, .if_icmp .le 5), (9, .iconst (-1)), (10, .ireturn), (11, .aload_n 0), (12, .getfield 42), (15, .iload_n 1), (16, .invokevirtual 301), (19, .ireturn)])
def zt_m135 : xv_N := ((12, zt_K12), (1, 6, 1, 0), (0, 0), [(0, .aload_n 0), (1, .iconst 0), (2, .putfield 154), (5, .iload_n 1), (6, .iconst 0), (7, .iconst 3), (8, .invokestatic 199), (11, .ifCond .ne 5), (14, .iconst (-1)), (15, .ireturn), (16, .iconst 0), (17, .istore_n 2), (18, .iload_n 2), (19, .aload_n 0), (20, .getfield 250), (23, .if_icmp .ge 132), (26, .iload_n 2), (27, .iconst 1), (28, .iadd), (29, .istore_n 3), (30, .iload_n 3), (31, .aload_n 0), (32, .getfield 250), (35, .if_icmp .ge 114), (38, .iconst 0), (39, .istore 4), (41, .iload 4), (43, .aload_n 0), (44, .getfield 91), (47, .iconst 0), (48, .iaload), (49, .if_icmp .ge 94), (52, .iconst 0), (53, .istore 5), (55, .iload 5), (57, .aload_n 0), (58, .getfield 91), (61, .iconst 0), (62, .iaload), (63, .if_icmp .ge 74), (66, .aload_n 0), (67, .getfield 88), (70, .iload 4), (72, .iaload), (73, .iload_n 2), (74, .if_icmp .ne 63), (77, .aload_n 0), (78, .getfield 88), (81, .iload 5), (83, .iaload), (84, .iload_n 3), (85, .if_icmp .ne 46), (88, .aload_n 0), (89, .iload_n 2), (90, .iload_n 3), (91, .iload 4), (93, .iload 5), (95, .invokevirtual 553), (98, .ifCond .eq 33), (101, .iload_n 1), (102, .ifCond .ne 7), (105, .iload_n 2), (106, .goto 24), (109, .iload_n 1), (110, .iconst 1), (111, .if_icmp .ne 7), (114, .iload_n 3), (115, .goto 15), (118, .iload_n 1), (119, .iconst 2), (120, .if_icmp .ne 8), (123, .iload 4), (125, .goto 5), (128, .iload 5), (130, .ireturn), (131, .iinc 5 1), (134, .goto (-79)), (137, .iinc 4 1), (140, .goto (-99)), (143, .iinc 3 1), (146, .goto (-116)), (149, .iinc 2 1), (152, .goto (-134)), (155, .bipush (-2)), (157, .ireturn)])
def zt_m136 : xv_N := ((4, zt_K4), (1, 5, 1, 0), (0, 0), [(0, .iconst 0), (1, .istore_n 2), (2, .iload_n 2), (3, .aload_n 0), (4, .getfield 44), (7, .if_icmp .ge 85), (10, .iload_n 2), (11, .iconst 1), (12, .iadd), (13, .istore_n 3), (14, .iload_n 3), (15, .aload_n 0), (16, .getfield 44), (19, .if_icmp .ge 67), (22, .aload_n 0), (23, .iload_n 2), (24, .iload_n 3), (25, .invokevirtual 212), (28, .istore 4), (30, .iload 4), (32, .iconst (-1)), (33, .if_icmp .eq 47), (36, .iload_n 1), (37, .tableswitch 37 0 2 #[27, 29, 31]), (64, .iload_n 2), (65, .ireturn), (66, .iload_n 3), (67, .ireturn), (68, .iload 4), (70, .bipush 16), (72, .idiv), (73, .ireturn), (74, .iload 4), (76, .bipush 16), (78, .irem), (79, .ireturn), (80, .iinc 3 1), (83, .goto (-69)), (86, .iinc 2 1), (89, .goto (-87)), (92, .bipush (-2)), (94, .ireturn)])
def zt_m137 : xv_N := ((11, zt_K11), (1, 2, 1, 0), (0, 0), [(0, .aload_n 0), (1, .getfield 42), (4, .iload_n 1), (5, .invokevirtual 147), (8, .ifCond .eq 14), (11, .aload_n 0), (12, .getfield 42), (15, .iload_n 1), (16, .invokevirtual 304), (19, .goto 4), (22, .iconst (-1)), (23, .ireturn)])
def zt_m138 : xv_N := ((12, zt_K12), (1, 5, 1, 0), (0, 0), [(0, .aload_n 0), (1, .iconst 0), (2, .putfield 154), (5, .aload_n 0), (6, .iload_n 1), (7, .invokevirtual 482), (10, .ifCond .ne 5), (13, .iconst (-1)), (14, .ireturn), (15, .aload_n 0), (16, .getfield 88), (19, .iload_n 1), (20, .iaload), (21, .ifCond .ge 6), (24, .bipush (-2)), (26, .ireturn), (27, .iconst 0), (28, .istore_n 2), (29, .iload_n 2), (30, .iconst 4), (31, .if_icmp .ge 16), (34, .aload_n 0), (35, .getfield 121), (38, .iload_n 2), (39, .iconst 0), (40, .iastore), (41, .iinc 2 1), (44, .goto (-15)), (47, .iconst 0), (48, .istore_n 2), (49, .iconst 0), (50, .istore_n 3), (51, .iload_n 3), (52, .iload_n 1), (53, .if_icmp .gt 79), (56, .aload_n 0), (57, .getfield 88), (60, .iload_n 3), (61, .iaload), (62, .ifCond .ge 6), (65, .goto 61), (68, .iconst 0), (69, .istore_n 2), (70, .iconst 1), (71, .istore 4), (73, .iload 4), (75, .aload_n 0), (76, .getfield 250), (79, .if_icmp .ge 32), (82, .aload_n 0), (83, .getfield 121), (86, .iload 4), (88, .iaload), (89, .aload_n 0), (90, .getfield 121), (93, .iload_n 2), (94, .iaload), (95, .if_icmp .ge 8), (98, .iload 4), (100, .goto 4), (103, .iload_n 2), (104, .istore_n 2), (105, .iinc 4 1), (108, .goto (-35)), (111, .aload_n 0), (112, .getfield 121), (115, .iload_n 2), (116, .dup2), (117, .iaload), (118, .aload_n 0), (119, .iload_n 2), (120, .iload_n 3), (121, .invokevirtual 488), (124, .iadd), (125, .iastore), (126, .iinc 3 1), (129, .goto (-78)), (132, .iload_n 2), (133, .ireturn)])
def zt_m139 : xv_N := ((11, zt_K11), (4, 5, 1, 0), (0, 0), [(0, .iload_n 1), (1, .invokestatic 270), (4, .ifCond .eq 24), (7, .aload_n 0), (8, .getfield 42), (11, .iload_n 2), (12, .invokevirtual 168), (15, .ifCond .eq 13), (18, .iload_n 3), (19, .ifCond .lt 9), (22, .iload_n 3), (23, .bipush 16), (25, .if_icmp .le 5), (28, .iconst (-1)), (29, .ireturn), (30, .aload_n 0), (31, .getfield 51), (34, .iload_n 1), (35, .iload_n 2), (36, .iload_n 3), (37, .iload 4), (39, .invokevirtual 307), (42, .ireturn)])
def zt_m140 : xv_N := ((12, zt_K12), (4, 5, 1, 0), (0, 0), [(0, .aload_n 0), (1, .iconst 0), (2, .putfield 154), (5, .aload_n 0), (6, .getfield 391), (9, .bipush 24), (11, .if_icmp .eq 32), (14, .iload_n 1), (15, .iconst 1), (16, .sipush 200), (19, .invokestatic 199), (22, .ifCond .eq 21), (25, .aload_n 0), (26, .iload_n 2), (27, .invokevirtual 485), (30, .ifCond .eq 13), (33, .iload_n 3), (34, .iconst 0), (35, .bipush 16), (37, .invokestatic 199), (40, .ifCond .ne 7), (43, .iconst (-1)), (44, .goto 20), (47, .aload_n 0), (48, .iload_n 1), (49, .iload_n 2), (50, .iload_n 3), (51, .iload 4), (53, .ifCond .eq 7), (56, .iconst 1), (57, .goto 4), (60, .iconst 0), (61, .invokevirtual 557), (64, .ireturn)])
def zt_m141 : xv_N := ((11, zt_K11), (1, 2, 1, 0), (0, 0), [(0, .aload_n 0), (1, .getfield 51), (4, .iload_n 1), (5, .invokevirtual 311), (8, .ireturn)])
def zt_m142 : xv_N := ((7, zt_K7), (1, 2, 1, 0), (0, 0), [(0, .iload_n 1), (1, .ifCond .lt 20), (4, .iload_n 1), (5, .aload_n 0), (6, .getfield 35), (9, .if_icmp .ge 12), (12, .aload_n 0), (13, .getfield 35), (16, .bipush 24), (18, .if_icmp .lt 5), (21, .iconst (-1)), (22, .ireturn), (23, .aload_n 0), (24, .getfield 25), (27, .aload_n 0), (28, .getfield 35), (31, .iload_n 1), (32, .iastore), (33, .aload_n 0), (34, .dup), (35, .getfield 35), (38, .iconst 1), (39, .iadd), (40, .putfield 35), (43, .aload_n 0), (44, .getfield 35), (47, .iconst 1), (48, .isub), (49, .ireturn)])
def zt_m143 : xv_N := ((12, zt_K12), (1, 2, 1, 0), (0, 0), [(0, .aload_n 0), (1, .iconst 0), (2, .putfield 154), (5, .aload_n 0), (6, .getfield 391), (9, .bipush 24), (11, .if_icmp .eq 15), (14, .iload_n 1), (15, .ifCond .lt 11), (18, .iload_n 1), (19, .aload_n 0), (20, .getfield 391), (23, .if_icmp .lt 7), (26, .iconst (-1)), (27, .goto 11), (30, .aload_n 0), (31, .iconst (-1)), (32, .iload_n 1), (33, .iconst 0), (34, .iconst 0), (35, .invokevirtual 557), (38, .ireturn)])
def zt_m144 : xv_N := ((11, zt_K11), (1, 2, 3, 0), (0, 0), [(0, .iload_n 1), (1, .iconst (-1)), (2, .if_icmp .lt 14), (5, .iload_n 1), (6, .aload_n 0), (7, .getfield 51), (10, .getfield 314), (13, .if_icmp .le 5), (16, .iconst 0), (17, .ireturn), (18, .aload_n 0), (19, .getfield 51), (22, .iload_n 1), (23, .putfield 317), (26, .iconst 1), (27, .ireturn)])
def zt_m145 : xv_N := ((12, zt_K12), (1, 2, 3, 0), (0, 0), [(0, .aload_n 0), (1, .iconst 0), (2, .putfield 154), (5, .iload_n 1), (6, .iconst (-1)), (7, .aload_n 0), (8, .getfield 391), (11, .invokestatic 199), (14, .ifCond .ne 5), (17, .iconst 0), (18, .ireturn), (19, .aload_n 0), (20, .iload_n 1), (21, .putfield 124), (24, .iconst 1), (25, .ireturn)])
def zt_m146 : xv_N := ((11, zt_K11), (1, 2, 1, 0), (0, 0), [(0, .aload_n 0), (1, .getfield 42), (4, .iload_n 1), (5, .invokevirtual 168), (8, .ifCond .eq 14), (11, .aload_n 0), (12, .getfield 67), (15, .iload_n 1), (16, .invokevirtual 320), (19, .goto 4), (22, .iconst (-1)), (23, .ireturn)])
def zt_m147 : xv_N := ((12, zt_K12), (1, 7, 1, 0), (0, 0), [(0, .aload_n 0), (1, .iconst 0), (2, .putfield 154), (5, .aload_n 0), (6, .iload_n 1), (7, .invokevirtual 485), (10, .ifCond .ne 5), (13, .iconst (-1)), (14, .ireturn), (15, .iconst 0), (16, .istore_n 2), (17, .iconst 0), (18, .istore_n 3), (19, .iload_n 3), (20, .aload_n 0), (21, .invokevirtual 561), (24, .if_icmp .ge 16), (27, .aload_n 0), (28, .getfield 130), (31, .iload_n 3), (32, .iconst 1), (33, .bastore), (34, .iinc 3 1), (37, .goto (-18)), (40, .aload_n 0), (41, .invokevirtual 561), (44, .iconst 1), (45, .isub), (46, .istore_n 3), (47, .iload_n 3), (48, .ifCond .lt 45), (51, .aload_n 0), (52, .getfield 130), (55, .iload_n 3), (56, .baload), (57, .ifCond .eq 30), (60, .aload_n 0), (61, .getfield 127), (64, .iconst 4), (65, .iload_n 3), (66, .imul), (67, .iaload), (68, .ifCond .ge 19), (71, .aload_n 0), (72, .getfield 130), (75, .aload_n 0), (76, .getfield 127), (79, .iconst 4), (80, .iload_n 3), (81, .imul), (82, .iconst 1), (83, .iadd), (84, .iaload), (85, .iconst 0), (86, .bastore), (87, .iinc 3 (-1)), (90, .goto (-43)), (93, .iconst 0), (94, .istore_n 3), (95, .iload_n 3), (96, .aload_n 0), (97, .invokevirtual 561), (100, .if_icmp .ge 43), (103, .aload_n 0), (104, .getfield 130), (107, .iload_n 3), (108, .baload), (109, .ifCond .eq 26), (112, .aload_n 0), (113, .getfield 127), (116, .iconst 4), (117, .iload_n 3), (118, .imul), (119, .iaload), (120, .iload_n 2), (121, .if_icmp .le 14), (124, .aload_n 0), (125, .getfield 127), (128, .iconst 4), (129, .iload_n 3), (130, .imul), (131, .iaload), (132, .goto 4), (135, .iload_n 2), (136, .istore_n 2), (137, .iinc 3 1), (140, .goto (-45)), (143, .iconst 0), (144, .istore_n 3), (145, .iconst 0), (146, .istore 4), (148, .iload 4), (150, .bipush 31), (152, .if_icmp .ge 95), (155, .aload_n 0), (156, .invokevirtual 385), (159, .aload_n 0), (160, .iconst 1), (161, .invokevirtual 375), (164, .aload_n 0), (165, .getfield 97), (168, .iconst 4), (169, .iload_n 1), (170, .iadd), (171, .iload 4), (173, .iastore), (174, .aload_n 0), (175, .aload_n 0), (176, .getfield 24), (179, .iconst 0), (180, .iaload), (181, .putfield 400), (184, .aload_n 0), (185, .iconst 1), (186, .putfield 403), (189, .iconst 1), (190, .istore 5), (192, .iconst 1), (193, .istore 6), (195, .iload 6), (197, .iload_n 2), (198, .if_icmp .gt 27), (201, .iload 5), (203, .ifCond .eq 22), (206, .aload_n 0), (207, .iconst 1), (208, .invokevirtual 500), (211, .aload_n 0), (212, .iload 6), (214, .invokevirtual 564), (217, .istore 5), (219, .iinc 6 1), (222, .goto (-27)), (225, .iload_n 3), (226, .iload 5), (228, .ifCond .eq 10), (231, .iconst 1), (232, .iload 4), (234, .ishl), (235, .goto 4), (238, .iconst 0), (239, .ior), (240, .istore_n 3), (241, .iinc 4 1), (244, .goto (-96)), (247, .aload_n 0), (248, .invokevirtual 385), (251, .iload_n 3), (252, .ireturn)])
def zt_m148 : xv_N := ((11, zt_K11), (4, 5, 1, 0), (0, 0), [(0, .iload_n 1), (1, .ifCond .lt 33), (4, .iload_n 2), (5, .invokestatic 270), (8, .ifCond .eq 26), (11, .aload_n 0), (12, .getfield 42), (15, .iload_n 3), (16, .invokevirtual 168), (19, .ifCond .eq 15), (22, .iload 4), (24, .ifCond .lt 10), (27, .iload 4), (29, .bipush 16), (31, .if_icmp .le 5), (34, .iconst (-1)), (35, .ireturn), (36, .aload_n 0), (37, .getfield 67), (40, .iload_n 1), (41, .iload_n 2), (42, .iload_n 3), (43, .iload 4), (45, .invokevirtual 323), (48, .ireturn)])
def zt_m149 : xv_N := ((12, zt_K12), (4, 10, 1, 0), (0, 0), [(0, .aload_n 0), (1, .iconst 0), (2, .putfield 154), (5, .iload_n 1), (6, .ifCond .lt 33), (9, .iload_n 2), (10, .iconst 1), (11, .sipush 200), (14, .invokestatic 199), (17, .ifCond .eq 22), (20, .aload_n 0), (21, .iload_n 3), (22, .invokevirtual 485), (25, .ifCond .eq 14), (28, .iload 4), (30, .iconst 0), (31, .bipush 16), (33, .invokestatic 199), (36, .ifCond .ne 5), (39, .iconst (-1)), (40, .ireturn), (41, .aload_n 0), (42, .getfield 381), (45, .lstore 5), (47, .aload_n 0), (48, .iload_n 1), (49, .i2l), (50, .putfield 381), (53, .iconst 0), (54, .istore 7), (56, .iconst 0), (57, .istore 8), (59, .iload 8), (61, .bipush 10), (63, .if_icmp .ge 54), (66, .aload_n 0), (67, .invokevirtual 512), (70, .iconst 0), (71, .istore 9), (73, .iload 9), (75, .iload_n 2), (76, .if_icmp .ge 14), (79, .aload_n 0), (80, .iconst 1), (81, .invokevirtual 500), (84, .iinc 9 1), (87, .goto (-14)), (90, .iload 7), (92, .aload_n 0), (93, .iconst 1), (94, .iload_n 3), (95, .invokevirtual 433), (98, .iload 4), (100, .if_icmp .lt 7), (103, .iconst 1), (104, .goto 4), (107, .iconst 0), (108, .iadd), (109, .istore 7), (111, .iinc 8 1), (114, .goto (-55)), (117, .aload_n 0), (118, .lload 5), (120, .putfield 381), (123, .iload 7), (125, .ireturn)])
def zt_m150 : xv_N := ((11, zt_K11), (3, 5, 1, 0), (0, 0), [(0, .iload_n 1), (1, .ifCond .lt 19), (4, .iload_n 1), (5, .iconst 4), (6, .if_icmp .gt 14), (9, .iload_n 3), (10, .ifCond .lt 10), (13, .iload_n 3), (14, .sipush 200), (17, .if_icmp .le 5), (20, .iconst (-1)), (21, .ireturn), (22, .iload_n 1), (23, .iconst 2), (24, .if_icmp .ne 14), (27, .aload_n 0), (28, .getfield 42), (31, .iload_n 2), (32, .invokevirtual 168), (35, .goto 12), (38, .iload_n 2), (39, .ifCond .ne 7), (42, .iconst 1), (43, .goto 4), (46, .iconst 0), (47, .istore 4), (49, .iload 4), (51, .ifCond .eq 16), (54, .aload_n 0), (55, .getfield 67), (58, .iload_n 1), (59, .iload_n 2), (60, .iload_n 3), (61, .invokevirtual 327), (64, .goto 4), (67, .iconst (-1)), (68, .ireturn)])
def zt_m151 : xv_N := ((12, zt_K12), (3, 5, 1, 0), (0, 0), [(0, .aload_n 0), (1, .iconst 0), (2, .putfield 154), (5, .iload_n 1), (6, .iconst 0), (7, .iconst 4), (8, .invokestatic 199), (11, .ifCond .eq 34), (14, .iload_n 3), (15, .iconst 0), (16, .sipush 200), (19, .invokestatic 199), (22, .ifCond .eq 23), (25, .iload_n 1), (26, .iconst 2), (27, .if_icmp .ne 14), (30, .aload_n 0), (31, .iload_n 2), (32, .invokevirtual 485), (35, .ifCond .ne 12), (38, .goto 7), (41, .iload_n 2), (42, .ifCond .eq 5), (45, .iconst (-1)), (46, .ireturn), (47, .aload_n 0), (48, .invokevirtual 512), (51, .aload_n 0), (52, .iload_n 1), (53, .ifCond .ne 7), (56, .iconst 1), (57, .goto 4), (60, .iconst 0), (61, .putfield 412), (64, .aload_n 0), (65, .iload_n 1), (66, .iconst 1), (67, .if_icmp .ne 7), (70, .iconst 1), (71, .goto 4), (74, .iconst 0), (75, .putfield 406), (78, .aload_n 0), (79, .iload_n 1), (80, .iconst 2), (81, .if_icmp .ne 7), (84, .iload_n 2), (85, .goto 4), (88, .iconst (-1)), (89, .putfield 112), (92, .aload_n 0), (93, .iload_n 1), (94, .iconst 4), (95, .if_icmp .ne 7), (98, .iconst 1), (99, .goto 4), (102, .iconst 0), (103, .putfield 409), (106, .iconst 0), (107, .istore 4), (109, .iload 4), (111, .iconst 4), (112, .if_icmp .ge 24), (115, .iload_n 1), (116, .iconst 3), (117, .if_icmp .ne 19), (120, .aload_n 0), (121, .getfield 97), (124, .iconst 4), (125, .iload 4), (127, .iadd), (128, .iconst 0), (129, .iastore), (130, .iinc 4 1), (133, .goto (-24)), (136, .aload_n 0), (137, .iload_n 3), (138, .invokevirtual 515), (141, .aload_n 0), (142, .iconst 1), (143, .invokevirtual 567), (146, .ireturn)])
def zt_m152 : xv_N := ((9, zt_K9), (3, 6, 1, 0), (0, 0), [(0, .aload_n 0), (1, .getfield 64), (4, .aload_n 0), (5, .getfield 50), (8, .invokevirtual 67), (11, .iload_n 1), (12, .iconst 1), (13, .if_icmp .ne 12), (16, .aload_n 0), (17, .getfield 64), (20, .ldc 107), (22, .putfield 130), (25, .iconst 0), (26, .istore 4), (28, .iload 4), (30, .aload_n 0), (31, .getfield 64), (34, .getfield 121), (37, .if_icmp .ge 81), (40, .aload_n 0), (41, .getfield 64), (44, .getfield 71), (47, .iload 4), (49, .aaload), (50, .astore 5), (52, .iload_n 1), (53, .ifCond .ne 13), (56, .aload 5), (58, .bipush 11), (60, .putfield 191), (63, .goto 49), (66, .iload_n 1), (67, .iconst 2), (68, .if_icmp .ne 19), (71, .iload 4), (73, .iload_n 2), (74, .if_icmp .ne 13), (77, .aload 5), (79, .ldc 107), (81, .putfield 124), (84, .goto 28), (87, .iload_n 1), (88, .iconst 3), (89, .if_icmp .ne 12), (92, .aload 5), (94, .iconst 0), (95, .putfield 124), (98, .goto 14), (101, .iload_n 1), (102, .iconst 4), (103, .if_icmp .ne 9), (106, .aload 5), (108, .iconst 0), (109, .putfield 246), (112, .iinc 4 1), (115, .goto (-87)), (118, .aload_n 0), (119, .getfield 64), (122, .iload_n 3), (123, .iconst 1), (124, .invokevirtual 133), (127, .aload_n 0), (128, .getfield 64), (131, .invokevirtual 249), (134, .ireturn)])
def zt_m153 : xv_N := ((4, zt_K4), (0, 3, 1, 0), (0, 0), [(0, .iconst 0), (1, .istore_n 1), (2, .iconst 0), (3, .istore_n 2), (4, .iload_n 2), (5, .aload_n 0), (6, .getfield 40), (9, .if_icmp .ge 24), (12, .aload_n 0), (13, .getfield 11), (16, .iload_n 2), (17, .aaload), (18, .getfield 79), (21, .ifCond .lt 6), (24, .iinc 1 1), (27, .iinc 2 1), (30, .goto (-26)), (33, .iload_n 1), (34, .ireturn)])
def zt_m154 : xv_N := ((12, zt_K12), (1, 4, 1, 0), (0, 0), [(0, .iconst 0), (1, .istore_n 2), (2, .iconst 0), (3, .istore_n 3), (4, .iload_n 3), (5, .aload_n 0), (6, .getfield 91), (9, .iload_n 1), (10, .iaload), (11, .if_icmp .ge 31), (14, .iload_n 2), (15, .aload_n 0), (16, .getfield 88), (19, .bipush 18), (21, .iload_n 1), (22, .imul), (23, .iload_n 3), (24, .iadd), (25, .iaload), (26, .ifCond .lt 7), (29, .iconst 1), (30, .goto 4), (33, .iconst 0), (34, .iadd), (35, .istore_n 2), (36, .iinc 3 1), (39, .goto (-35)), (42, .iload_n 2), (43, .ireturn)])
def zt_m155 : xv_N := ((11, zt_K11), (0, 1, 1, 0), (0, 0), [(0, .aload_n 0), (1, .getfield 58), (4, .aload_n 0), (5, .getfield 42), (8, .invokevirtual 331), (11, .ifCond .eq 13), (14, .aload_n 0), (15, .getfield 58), (18, .getfield 335), (21, .goto 4), (24, .iconst (-1)), (25, .ireturn)])
def zt_m156 : xv_N := ((10, zt_K10), (1, 2, 3, 0), (0, 0), [(0, .aload_n 0), (1, .getfield 24), (4, .ifCond .gt 5), (7, .iconst 0), (8, .ireturn), (9, .aload_n 0), (10, .dup), (11, .getfield 24), (14, .iconst 1), (15, .isub), (16, .putfield 24), (19, .aload_n 0), (20, .getfield 9), (23, .aload_n 0), (24, .getfield 24), (27, .iaload), (28, .tableswitch 104 0 2 #[28, 41, 75]), (56, .aload_n 1), (57, .dup), (58, .getfield 45), (61, .iconst 1), (62, .isub), (63, .putfield 45), (66, .goto 79), (69, .aload_n 1), (70, .aload_n 0), (71, .getfield 18), (74, .aload_n 0), (75, .getfield 24), (78, .iaload), (79, .aload_n 0), (80, .getfield 15), (83, .aload_n 0), (84, .getfield 24), (87, .iaload), (88, .aload_n 0), (89, .getfield 21), (92, .aload_n 0), (93, .getfield 24), (96, .iaload), (97, .invokevirtual 50), (100, .goto 45), (103, .aload_n 1), (104, .getfield 54), (107, .aload_n 0), (108, .getfield 15), (111, .aload_n 0), (112, .getfield 24), (115, .iaload), (116, .aaload), (117, .aload_n 0), (118, .getfield 18), (121, .aload_n 0), (122, .getfield 24), (125, .iaload), (126, .putfield 58), (129, .goto 16), (132, .aload_n 1), (133, .aload_n 0), (134, .getfield 15), (137, .aload_n 0), (138, .getfield 24), (141, .iaload), (142, .putfield 61), (145, .iconst 1), (146, .ireturn)])
def zt_m157 : xv_N := ((12, zt_K12), (0, 3, 1, 0), (0, 0), [(0, .aload_n 0), (1, .iconst 0), (2, .putfield 154), (5, .aload_n 0), (6, .getfield 394), (9, .ifCond .ne 5), (12, .iconst (-1)), (13, .ireturn), (14, .aload_n 0), (15, .dup), (16, .getfield 394), (19, .iconst 1), (20, .isub), (21, .putfield 394), (24, .aload_n 0), (25, .getfield 91), (28, .iconst 0), (29, .iaload), (30, .istore_n 1), (31, .aload_n 0), (32, .aload_n 0), (33, .getfield 133), (36, .bipush 22), (38, .aload_n 0), (39, .getfield 394), (42, .imul), (43, .invokevirtual 573), (46, .iload_n 1), (47, .istore_n 2), (48, .iload_n 2), (49, .aload_n 0), (50, .getfield 91), (53, .iconst 0), (54, .iaload), (55, .if_icmp .ge 16), (58, .aload_n 0), (59, .getfield 88), (62, .iload_n 2), (63, .iconst (-1)), (64, .iastore), (65, .iinc 2 1), (68, .goto (-20)), (71, .aload_n 0), (72, .getfield 394), (75, .ireturn)])
def zt_m158 : xv_N := ((11, zt_K11), (0, 1, 1, 0), (0, 0), [(0, .aload_n 0), (1, .getfield 45), (4, .aload_n 0), (5, .getfield 42), (8, .invokevirtual 101), (11, .aload_n 0), (12, .iconst 1), (13, .putfield 107), (16, .aload_n 0), (17, .getfield 42), (20, .getfield 237), (23, .ireturn)])
def zt_m159 : xv_N := ((12, zt_K12), (0, 2, 1, 0), (0, 0), [(0, .aload_n 0), (1, .iconst 0), (2, .putfield 154), (5, .aload_n 0), (6, .iconst 1), (7, .putfield 397), (10, .aload_n 0), (11, .aload_n 0), (12, .getfield 136), (15, .iconst 0), (16, .invokevirtual 570), (19, .iconst 0), (20, .istore_n 1), (21, .iload_n 1), (22, .bipush 16), (24, .if_icmp .ge 21), (27, .aload_n 0), (28, .getfield 139), (31, .iload_n 1), (32, .aload_n 0), (33, .getfield 88), (36, .iload_n 1), (37, .iaload), (38, .iastore), (39, .iinc 1 1), (42, .goto (-21)), (45, .iconst 0), (46, .istore_n 1), (47, .iload_n 1), (48, .iconst 4), (49, .if_icmp .ge 21), (52, .aload_n 0), (53, .getfield 142), (56, .iload_n 1), (57, .aload_n 0), (58, .getfield 100), (61, .iload_n 1), (62, .iaload), (63, .iastore), (64, .iinc 1 1), (67, .goto (-20)), (70, .iconst 0), (71, .istore_n 1), (72, .iload_n 1), (73, .bipush 48), (75, .if_icmp .ge 21), (78, .aload_n 0), (79, .getfield 145), (82, .iload_n 1), (83, .aload_n 0), (84, .getfield 109), (87, .iload_n 1), (88, .iaload), (89, .iastore), (90, .iinc 1 1), (93, .goto (-21)), (96, .aload_n 0), (97, .aload_n 0), (98, .getfield 103), (101, .iconst 0), (102, .laload), (103, .putfield 576), (106, .aload_n 0), (107, .aload_n 0), (108, .getfield 106), (111, .iconst 0), (112, .iaload), (113, .putfield 579), (116, .aload_n 0), (117, .aload_n 0), (118, .getfield 381), (121, .putfield 582), (124, .aload_n 0), (125, .getfield 106), (128, .iconst 0), (129, .iaload), (130, .ireturn)])
def zt_m160 : xv_N := ((11, zt_K11), (0, 1, 1, 0), (0, 0), [(0, .aload_n 0), (1, .getfield 107), (4, .ifCond .ne 5), (7, .iconst (-1)), (8, .ireturn), (9, .aload_n 0), (10, .getfield 42), (13, .aload_n 0), (14, .getfield 45), (17, .invokevirtual 101), (20, .aload_n 0), (21, .getfield 58), (24, .invokevirtual 114), (27, .aload_n 0), (28, .getfield 42), (31, .getfield 237), (34, .ireturn)])
def zt_m161 : xv_N := ((12, zt_K12), (0, 2, 1, 0), (0, 0), [(0, .aload_n 0), (1, .iconst 0), (2, .putfield 154), (5, .aload_n 0), (6, .getfield 397), (9, .ifCond .ne 5), (12, .iconst (-1)), (13, .ireturn), (14, .aload_n 0), (15, .aload_n 0), (16, .getfield 136), (19, .iconst 0), (20, .invokevirtual 573), (23, .iconst 0), (24, .istore_n 1), (25, .iload_n 1), (26, .bipush 16), (28, .if_icmp .ge 21), (31, .aload_n 0), (32, .getfield 88), (35, .iload_n 1), (36, .aload_n 0), (37, .getfield 139), (40, .iload_n 1), (41, .iaload), (42, .iastore), (43, .iinc 1 1), (46, .goto (-21)), (49, .iconst 0), (50, .istore_n 1), (51, .iload_n 1), (52, .iconst 4), (53, .if_icmp .ge 21), (56, .aload_n 0), (57, .getfield 100), (60, .iload_n 1), (61, .aload_n 0), (62, .getfield 142), (65, .iload_n 1), (66, .iaload), (67, .iastore), (68, .iinc 1 1), (71, .goto (-20)), (74, .iconst 0), (75, .istore_n 1), (76, .iload_n 1), (77, .bipush 48), (79, .if_icmp .ge 21), (82, .aload_n 0), (83, .getfield 109), (86, .iload_n 1), (87, .aload_n 0), (88, .getfield 145), (91, .iload_n 1), (92, .iaload), (93, .iastore), (94, .iinc 1 1), (97, .goto (-21)), (100, .aload_n 0), (101, .getfield 103), (104, .iconst 0), (105, .aload_n 0), (106, .getfield 576), (109, .lastore), (110, .aload_n 0), (111, .getfield 106), (114, .iconst 0), (115, .aload_n 0), (116, .getfield 579), (119, .iastore), (120, .aload_n 0), (121, .aload_n 0), (122, .getfield 582), (125, .putfield 381), (128, .aload_n 0), (129, .iconst 0), (130, .putfield 394), (133, .aload_n 0), (134, .getfield 106), (137, .iconst 0), (138, .iaload), (139, .ireturn)])
def zt_m162 : xv_N := ((11, zt_K11), (1, 2, 1, 0), (0, 0), [(0, .iload_n 1), (1, .tableswitch 215 0 15 #[79, 87, 95, 103, 111, 122, 130, 139, 147, 157, 167, 175, 183, 191, 199, 207]), (80, .aload_n 0), (81, .getfield 29), (84, .getfield 338), (87, .ireturn), (88, .aload_n 0), (89, .getfield 29), (92, .getfield 341), (95, .ireturn), (96, .aload_n 0), (97, .getfield 42), (100, .getfield 213), (103, .ireturn), (104, .aload_n 0), (105, .getfield 42), (108, .getfield 254), (111, .ireturn), (112, .aload_n 0), (113, .getfield 29), (116, .getfield 344), (119, .getfield 348), (122, .ireturn), (123, .aload_n 0), (124, .getfield 42), (127, .getfield 237), (130, .ireturn), (131, .aload_n 0), (132, .getfield 42), (135, .iconst (-1)), (136, .invokevirtual 353), (139, .ireturn), (140, .aload_n 0), (141, .getfield 42), (144, .invokevirtual 356), (147, .ireturn), (148, .aload_n 0), (149, .getfield 42), (152, .bipush (-2)), (154, .invokevirtual 353), (157, .ireturn), (158, .aload_n 0), (159, .getfield 42), (162, .bipush (-3)), (164, .invokevirtual 353), (167, .ireturn), (168, .aload_n 0), (169, .getfield 42), (172, .invokevirtual 359), (175, .ireturn), (176, .aload_n 0), (177, .getfield 42), (180, .getfield 231), (183, .ireturn), (184, .aload_n 0), (185, .getfield 51), (188, .getfield 314), (191, .ireturn), (192, .aload_n 0), (193, .getfield 51), (196, .invokevirtual 362), (199, .ireturn), (200, .aload_n 0), (201, .getfield 58), (204, .getfield 335), (207, .ireturn), (208, .aload_n 0), (209, .getfield 42), (212, .invokevirtual 365), (215, .ireturn), (216, .iconst (-1)), (217, .ireturn)])
def zt_m163 : xv_N := ((12, zt_K12), (1, 4, 1, 0), (0, 0), [(0, .aload_n 0), (1, .iconst 0), (2, .putfield 154), (5, .iconst 0), (6, .istore_n 2), (7, .iload_n 1), (8, .tableswitch 205 0 15 #[80, 85, 90, 97, 102, 107, 114, 120, 126, 133, 140, 179, 184, 189, 194, 199]), (88, .aload_n 0), (89, .getfield 241), (92, .ireturn), (93, .aload_n 0), (94, .getfield 244), (97, .ireturn), (98, .aload_n 0), (99, .getfield 91), (102, .iconst 0), (103, .iaload), (104, .ireturn), (105, .aload_n 0), (106, .getfield 250), (109, .ireturn), (110, .aload_n 0), (111, .getfield 253), (114, .ireturn), (115, .aload_n 0), (116, .getfield 106), (119, .iconst 0), (120, .iaload), (121, .ireturn), (122, .aload_n 0), (123, .iconst (-1)), (124, .invokevirtual 585), (127, .ireturn), (128, .aload_n 0), (129, .iconst 0), (130, .invokevirtual 567), (133, .ireturn), (134, .aload_n 0), (135, .bipush (-2)), (137, .invokevirtual 585), (140, .ireturn), (141, .aload_n 0), (142, .bipush (-3)), (144, .invokevirtual 585), (147, .ireturn), (148, .iconst 0), (149, .istore_n 3), (150, .iload_n 3), (151, .aload_n 0), (152, .invokevirtual 372), (155, .if_icmp .ge 30), (158, .iload_n 2), (159, .aload_n 0), (160, .getfield 103), (163, .iconst 0), (164, .laload), (165, .iload_n 3), (166, .invokestatic 459), (169, .ifCond .eq 7), (172, .iconst 1), (173, .goto 4), (176, .iconst 0), (177, .iadd), (178, .istore_n 2), (179, .iinc 3 1), (182, .goto (-32)), (185, .iload_n 2), (186, .ireturn), (187, .aload_n 0), (188, .getfield 378), (191, .ireturn), (192, .aload_n 0), (193, .getfield 391), (196, .ireturn), (197, .aload_n 0), (198, .invokevirtual 561), (201, .ireturn), (202, .aload_n 0), (203, .getfield 394), (206, .ireturn), (207, .aload_n 0), (208, .iconst 0), (209, .invokevirtual 518), (212, .ireturn), (213, .iconst (-1)), (214, .ireturn)])
def zt_m164 : xv_N := ((4, zt_K4), (1, 4, 1, 0), (0, 0), [(0, .iconst 0), (1, .istore_n 2), (2, .iconst 0), (3, .istore_n 3), (4, .iload_n 3), (5, .aload_n 0), (6, .getfield 40), (9, .if_icmp .ge 25), (12, .aload_n 0), (13, .getfield 11), (16, .iload_n 3), (17, .aaload), (18, .getfield 79), (21, .iload_n 1), (22, .if_icmp .ne 6), (25, .iinc 2 1), (28, .iinc 3 1), (31, .goto (-27)), (34, .iload_n 2), (35, .ireturn)])
def zt_m165 : xv_N := ((12, zt_K12), (1, 4, 1, 0), (0, 0), [(0, .iconst 0), (1, .istore_n 2), (2, .iconst 0), (3, .istore_n 3), (4, .iload_n 3), (5, .aload_n 0), (6, .getfield 91), (9, .iconst 0), (10, .iaload), (11, .if_icmp .ge 27), (14, .iload_n 2), (15, .aload_n 0), (16, .getfield 88), (19, .iload_n 3), (20, .iaload), (21, .iload_n 1), (22, .if_icmp .ne 7), (25, .iconst 1), (26, .goto 4), (29, .iconst 0), (30, .iadd), (31, .istore_n 2), (32, .iinc 3 1), (35, .goto (-31)), (38, .iload_n 2), (39, .ireturn)])
def zt_m166 : xv_N := ((4, zt_K4), (0, 3, 1, 0), (0, 0), [(0, .iconst 0), (1, .istore_n 1), (2, .iconst 0), (3, .istore_n 2), (4, .iload_n 2), (5, .aload_n 0), (6, .getfield 34), (9, .getfield 152), (12, .if_icmp .ge 21), (15, .aload_n 0), (16, .getfield 23), (19, .iload_n 2), (20, .baload), (21, .ifCond .eq 6), (24, .iinc 1 1), (27, .iinc 2 1), (30, .goto (-26)), (33, .iload_n 1), (34, .ireturn)])
def zt_m167 : xv_N := ((7, zt_K7), (0, 1, 1, 0), (0, 0), [(0, .aload_n 0), (1, .getfield 31), (4, .iconst (-1)), (5, .if_icmp .ne 10), (8, .aload_n 0), (9, .getfield 35), (12, .goto 7), (15, .aload_n 0), (16, .getfield 31), (19, .ireturn)])
def zt_m168 : xv_N := ((12, zt_K12), (0, 1, 1, 0), (0, 0), [(0, .aload_n 0), (1, .getfield 124), (4, .ifCond .ge 10), (7, .aload_n 0), (8, .getfield 391), (11, .goto 7), (14, .aload_n 0), (15, .getfield 124), (18, .ireturn)])
def zt_m169 : xv_N := ((4, zt_K4), (0, 4, 1, 0), (0, 0), [(0, .aload_n 0), (1, .invokevirtual 206), (4, .istore_n 1), (5, .iload_n 1), (6, .istore_n 2), (7, .iconst 0), (8, .istore_n 3), (9, .iload_n 3), (10, .aload_n 0), (11, .getfield 44), (14, .if_icmp .ge 23), (17, .iload_n 2), (18, .aload_n 0), (19, .getfield 19), (22, .iload_n 3), (23, .aaload), (24, .getfield 102), (27, .invokestatic 209), (30, .istore_n 2), (31, .iinc 3 1), (34, .goto (-25)), (37, .iload_n 1), (38, .iload_n 2), (39, .isub), (40, .ireturn)])
def zt_m170 : xv_N := ((12, zt_K12), (1, 6, 1, 0), (0, 0), [(0, .iconst 0), (1, .istore_n 2), (2, .bipush 99), (4, .istore_n 3), (5, .iconst 0), (6, .istore 4), (8, .iload 4), (10, .aload_n 0), (11, .getfield 250), (14, .if_icmp .ge 44), (17, .aload_n 0), (18, .iload_n 1), (19, .iload 4), (21, .invokevirtual 433), (24, .istore 5), (26, .iload 5), (28, .iload_n 2), (29, .if_icmp .le 8), (32, .iload 5), (34, .goto 4), (37, .iload_n 2), (38, .istore_n 2), (39, .iload 5), (41, .iload_n 3), (42, .if_icmp .ge 8), (45, .iload 5), (47, .goto 4), (50, .iload_n 3), (51, .istore_n 3), (52, .iinc 4 1), (55, .goto (-47)), (58, .aload_n 0), (59, .getfield 250), (62, .ifCond .ne 7), (65, .iconst 0), (66, .goto 6), (69, .iload_n 2), (70, .iload_n 3), (71, .isub), (72, .ireturn)])
def zt_law : xv_N := ((99, zt_KL), (1, 7, 3, 0), (600002, 7302232), [(0, .new 8), (3, .dup), (4, .invokespecial 17), (7, .astore_n 1), (8, .new 18), (11, .dup), (12, .invokespecial 20), (15, .astore_n 2), (16, .iconst 1), (17, .newarray .long), (19, .astore_n 3), (20, .iconst 0), (21, .istore 4), (23, .iload 4), (25, .aload_n 0), (26, .arraylength), (27, .bipush 6), (29, .isub), (30, .if_icmp .gt 1459), (33, .aload_n 0), (34, .iload 4), (36, .iaload), (37, .bipush 63), (39, .iand), (40, .tableswitch 1443 0 37 #[168, 241, 266, 291, 316, 384, 421, 458, 495, 545, 594, 607, 644, 669, 694, 719, 744, 781, 854, 891, 928, 953, 966, 991, 1017, 1030, 1067, 1092, 1117, 1194, 1219, 1244, 1269, 1330, 1379, 1392, 1405, 1418]), (208, .aload_n 1), (209, .aload_n 0), (210, .iload 4), (212, .iconst 1), (213, .iadd), (214, .iaload), (215, .aload_n 0), (216, .iload 4), (218, .iconst 2), (219, .iadd), (220, .iaload), (221, .aload_n 0), (222, .iload 4), (224, .iconst 3), (225, .iadd), (226, .iaload), (227, .aload_n 0), (228, .iload 4), (230, .iconst 4), (231, .iadd), (232, .iaload), (233, .aload_n 0), (234, .iload 4), (236, .iconst 5), (237, .iadd), (238, .iaload), (239, .invokevirtual 21), (242, .aload_n 2), (243, .aload_n 0), (244, .iload 4), (246, .iconst 1), (247, .iadd), (248, .iaload), (249, .aload_n 0), (250, .iload 4), (252, .iconst 2), (253, .iadd), (254, .iaload), (255, .aload_n 0), (256, .iload 4), (258, .iconst 3), (259, .iadd), (260, .iaload), (261, .aload_n 0), (262, .iload 4), (264, .iconst 4), (265, .iadd), (266, .iaload), (267, .aload_n 0), (268, .iload 4), (270, .iconst 5), (271, .iadd), (272, .iaload), (273, .invokevirtual 25), (276, .if_icmp .eq 1207), (279, .iconst 0), (280, .ireturn), (281, .aload_n 1), (282, .aload_n 0), (283, .iload 4), (285, .iconst 1), (286, .iadd), (287, .iaload), (288, .invokevirtual 26), (291, .aload_n 2), (292, .aload_n 0), (293, .iload 4), (295, .iconst 1), (296, .iadd), (297, .iaload), (298, .invokevirtual 30), (301, .if_icmp .eq 1182), (304, .iconst 0), (305, .ireturn), (306, .aload_n 1), (307, .aload_n 0), (308, .iload 4), (310, .iconst 1), (311, .iadd), (312, .iaload), (313, .invokevirtual 31), (316, .aload_n 2), (317, .aload_n 0), (318, .iload 4), (320, .iconst 1), (321, .iadd), (322, .iaload), (323, .invokevirtual 34), (326, .if_icmp .eq 1157), (329, .iconst 0), (330, .ireturn), (331, .aload_n 1), (332, .aload_n 0), (333, .iload 4), (335, .iconst 1), (336, .iadd), (337, .iaload), (338, .invokevirtual 35), (341, .aload_n 2), (342, .aload_n 0), (343, .iload 4), (345, .iconst 1), (346, .iadd), (347, .iaload), (348, .invokevirtual 38), (351, .if_icmp .eq 1132), (354, .iconst 0), (355, .ireturn), (356, .aload_n 1), (357, .aload_n 0), (358, .iload 4), (360, .iconst 1), (361, .iadd), (362, .iaload), (363, .aload_n 0), (364, .iload 4), (366, .iconst 2), (367, .iadd), (368, .iaload), (369, .aload_n 3), (370, .invokestatic 39), (373, .istore 5), (375, .aload_n 2), (376, .aload_n 0), (377, .iload 4), (379, .iconst 1), (380, .iadd), (381, .iaload), (382, .aload_n 0), (383, .iload 4), (385, .iconst 2), (386, .iadd), (387, .iaload), (388, .invokevirtual 44), (391, .istore 6), (393, .aload_n 2), (394, .invokevirtual 45), (397, .iload 5), (399, .if_icmp .eq 5), (402, .iconst 0), (403, .ireturn), (404, .iload 5), (406, .ifCond .ne 15), (409, .aload_n 3), (410, .iconst 0), (411, .laload), (412, .iload 6), (414, .i2l), (415, .lcmp), (416, .ifCond .eq 5), (419, .iconst 0), (420, .ireturn), (421, .goto 1062), (424, .aload_n 1), (425, .aload_n 0), (426, .iload 4), (428, .iconst 1), (429, .iadd), (430, .iaload), (431, .aload_n 0), (432, .iload 4), (434, .iconst 2), (435, .iadd), (436, .iaload), (437, .invokevirtual 49), (440, .aload_n 2), (441, .aload_n 0), (442, .iload 4), (444, .iconst 1), (445, .iadd), (446, .iaload), (447, .aload_n 0), (448, .iload 4), (450, .iconst 2), (451, .iadd), (452, .iaload), (453, .invokevirtual 52), (456, .if_icmp .eq 1027), (459, .iconst 0), (460, .ireturn), (461, .aload_n 1), (462, .aload_n 0), (463, .iload 4), (465, .iconst 1), (466, .iadd), (467, .iaload), (468, .aload_n 0), (469, .iload 4), (471, .iconst 2), (472, .iadd), (473, .iaload), (474, .invokevirtual 53), (477, .aload_n 2), (478, .aload_n 0), (479, .iload 4), (481, .iconst 1), (482, .iadd), (483, .iaload), (484, .aload_n 0), (485, .iload 4), (487, .iconst 2), (488, .iadd), (489, .iaload), (490, .invokevirtual 56), (493, .if_icmp .eq 990), (496, .iconst 0), (497, .ireturn), (498, .aload_n 1), (499, .aload_n 0), (500, .iload 4), (502, .iconst 1), (503, .iadd), (504, .iaload), (505, .aload_n 0), (506, .iload 4), (508, .iconst 2), (509, .iadd), (510, .iaload), (511, .invokevirtual 57), (514, .aload_n 2), (515, .aload_n 0), (516, .iload 4), (518, .iconst 1), (519, .iadd), (520, .iaload), (521, .aload_n 0), (522, .iload 4), (524, .iconst 2), (525, .iadd), (526, .iaload), (527, .invokevirtual 60), (530, .if_icmp .eq 953), (533, .iconst 0), (534, .ireturn), (535, .aload_n 1), (536, .aload_n 0), (537, .iload 4), (539, .iconst 1), (540, .iadd), (541, .iaload), (542, .aload_n 0), (543, .iload 4), (545, .iconst 2), (546, .iadd), (547, .iaload), (548, .aload_n 0), (549, .iload 4), (551, .iconst 3), (552, .iadd), (553, .iaload), (554, .invokevirtual 61), (557, .aload_n 2), (558, .aload_n 0), (559, .iload 4), (561, .iconst 1), (562, .iadd), (563, .iaload), (564, .aload_n 0), (565, .iload 4), (567, .iconst 2), (568, .iadd), (569, .iaload), (570, .aload_n 0), (571, .iload 4), (573, .iconst 3), (574, .iadd), (575, .iaload), (576, .invokevirtual 65), (579, .lcmp), (580, .ifCond .eq 903), (583, .iconst 0), (584, .ireturn), (585, .aload_n 1), (586, .aload_n 0), (587, .iload 4), (589, .iconst 1), (590, .iadd), (591, .iaload), (592, .aload_n 0), (593, .iload 4), (595, .iconst 2), (596, .iadd), (597, .iaload), (598, .aload_n 0), (599, .iload 4), (601, .iconst 3), (602, .iadd), (603, .iaload), (604, .invokevirtual 66), (607, .aload_n 2), (608, .aload_n 0), (609, .iload 4), (611, .iconst 1), (612, .iadd), (613, .iaload), (614, .aload_n 0), (615, .iload 4), (617, .iconst 2), (618, .iadd), (619, .iaload), (620, .aload_n 0), (621, .iload 4), (623, .iconst 3), (624, .iadd), (625, .iaload), (626, .invokevirtual 70), (629, .if_icmp .eq 854), (632, .iconst 0), (633, .ireturn), (634, .aload_n 1), (635, .invokevirtual 71), (638, .aload_n 2), (639, .invokevirtual 75), (642, .if_icmp .eq 841), (645, .iconst 0), (646, .ireturn), (647, .aload_n 1), (648, .aload_n 0), (649, .iload 4), (651, .iconst 1), (652, .iadd), (653, .iaload), (654, .aload_n 0), (655, .iload 4), (657, .iconst 2), (658, .iadd), (659, .iaload), (660, .invokevirtual 76), (663, .aload_n 2), (664, .aload_n 0), (665, .iload 4), (667, .iconst 1), (668, .iadd), (669, .iaload), (670, .aload_n 0), (671, .iload 4), (673, .iconst 2), (674, .iadd), (675, .iaload), (676, .invokevirtual 80), (679, .if_icmp .eq 804), (682, .iconst 0), (683, .ireturn), (684, .aload_n 1), (685, .aload_n 0), (686, .iload 4), (688, .iconst 1), (689, .iadd), (690, .iaload), (691, .invokevirtual 81), (694, .aload_n 2), (695, .aload_n 0), (696, .iload 4), (698, .iconst 1), (699, .iadd), (700, .iaload), (701, .invokevirtual 85), (704, .if_icmp .eq 779), (707, .iconst 0), (708, .ireturn), (709, .aload_n 1), (710, .aload_n 0), (711, .iload 4), (713, .iconst 1), (714, .iadd), (715, .iaload), (716, .invokevirtual 86), (719, .aload_n 2), (720, .aload_n 0), (721, .iload 4), (723, .iconst 1), (724, .iadd), (725, .iaload), (726, .invokevirtual 89), (729, .if_icmp .eq 754), (732, .iconst 0), (733, .ireturn), (734, .aload_n 1), (735, .aload_n 0), (736, .iload 4), (738, .iconst 1), (739, .iadd), (740, .iaload), (741, .invokevirtual 90), (744, .aload_n 2), (745, .aload_n 0), (746, .iload 4), (748, .iconst 1), (749, .iadd), (750, .iaload), (751, .invokevirtual 93), (754, .if_icmp .eq 729), (757, .iconst 0), (758, .ireturn), (759, .aload_n 1), (760, .aload_n 0), (761, .iload 4), (763, .iconst 1), (764, .iadd), (765, .iaload), (766, .invokevirtual 94), (769, .aload_n 2), (770, .aload_n 0), (771, .iload 4), (773, .iconst 1), (774, .iadd), (775, .iaload), (776, .invokevirtual 97), (779, .if_icmp .eq 704), (782, .iconst 0), (783, .ireturn), (784, .aload_n 1), (785, .aload_n 0), (786, .iload 4), (788, .iconst 1), (789, .iadd), (790, .iaload), (791, .aload_n 0), (792, .iload 4), (794, .iconst 2), (795, .iadd), (796, .iaload), (797, .invokevirtual 98), (800, .aload_n 2), (801, .aload_n 0), (802, .iload 4), (804, .iconst 1), (805, .iadd), (806, .iaload), (807, .aload_n 0), (808, .iload 4), (810, .iconst 2), (811, .iadd), (812, .iaload), (813, .invokevirtual 101), (816, .if_icmp .eq 667), (819, .iconst 0), (820, .ireturn), (821, .aload_n 1), (822, .aload_n 0), (823, .iload 4), (825, .iconst 1), (826, .iadd), (827, .iaload), (828, .aload_n 0), (829, .iload 4), (831, .iconst 2), (832, .iadd), (833, .iaload), (834, .aload_n 0), (835, .iload 4), (837, .iconst 3), (838, .iadd), (839, .iaload), (840, .aload_n 0), (841, .iload 4), (843, .iconst 4), (844, .iadd), (845, .iaload), (846, .aload_n 0), (847, .iload 4), (849, .iconst 5), (850, .iadd), (851, .iaload), (852, .invokevirtual 102), (855, .aload_n 2), (856, .aload_n 0), (857, .iload 4), (859, .iconst 1), (860, .iadd), (861, .iaload), (862, .aload_n 0), (863, .iload 4), (865, .iconst 2), (866, .iadd), (867, .iaload), (868, .aload_n 0), (869, .iload 4), (871, .iconst 3), (872, .iadd), (873, .iaload), (874, .aload_n 0), (875, .iload 4), (877, .iconst 4), (878, .iadd), (879, .iaload), (880, .aload_n 0), (881, .iload 4), (883, .iconst 5), (884, .iadd), (885, .iaload), (886, .invokevirtual 105), (889, .if_icmp .eq 594), (892, .iconst 0), (893, .ireturn), (894, .aload_n 1), (895, .aload_n 0), (896, .iload 4), (898, .iconst 1), (899, .iadd), (900, .iaload), (901, .aload_n 0), (902, .iload 4), (904, .iconst 2), (905, .iadd), (906, .iaload), (907, .invokevirtual 106), (910, .aload_n 2), (911, .aload_n 0), (912, .iload 4), (914, .iconst 1), (915, .iadd), (916, .iaload), (917, .aload_n 0), (918, .iload 4), (920, .iconst 2), (921, .iadd), (922, .iaload), (923, .invokevirtual 109), (926, .if_icmp .eq 557), (929, .iconst 0), (930, .ireturn), (931, .aload_n 1), (932, .aload_n 0), (933, .iload 4), (935, .iconst 1), (936, .iadd), (937, .iaload), (938, .aload_n 0), (939, .iload 4), (941, .iconst 2), (942, .iadd), (943, .iaload), (944, .invokevirtual 110), (947, .aload_n 2), (948, .aload_n 0), (949, .iload 4), (951, .iconst 1), (952, .iadd), (953, .iaload), (954, .aload_n 0), (955, .iload 4), (957, .iconst 2), (958, .iadd), (959, .iaload), (960, .invokevirtual 113), (963, .if_icmp .eq 520), (966, .iconst 0), (967, .ireturn), (968, .aload_n 1), (969, .aload_n 0), (970, .iload 4), (972, .iconst 1), (973, .iadd), (974, .iaload), (975, .invokevirtual 114), (978, .aload_n 2), (979, .aload_n 0), (980, .iload 4), (982, .iconst 1), (983, .iadd), (984, .iaload), (985, .invokevirtual 117), (988, .if_icmp .eq 495), (991, .iconst 0), (992, .ireturn), (993, .aload_n 1), (994, .invokevirtual 118), (997, .aload_n 2), (998, .invokevirtual 121), (1001, .if_icmp .eq 482), (1004, .iconst 0), (1005, .ireturn), (1006, .aload_n 1), (1007, .aload_n 0), (1008, .iload 4), (1010, .iconst 1), (1011, .iadd), (1012, .iaload), (1013, .invokevirtual 122), (1016, .aload_n 2), (1017, .aload_n 0), (1018, .iload 4), (1020, .iconst 1), (1021, .iadd), (1022, .iaload), (1023, .invokevirtual 125), (1026, .if_icmp .eq 457), (1029, .iconst 0), (1030, .ireturn), (1031, .aload_n 1), (1032, .aload_n 0), (1033, .iload 4), (1035, .iconst 1), (1036, .iadd), (1037, .iaload), (1038, .invokevirtual 126), (1041, .aload_n 2), (1042, .aload_n 0), (1043, .iload 4), (1045, .iconst 1), (1046, .iadd), (1047, .iaload), (1048, .invokevirtual 130), (1051, .lcmp), (1052, .ifCond .eq 431), (1055, .iconst 0), (1056, .ireturn), (1057, .aload_n 1), (1058, .invokevirtual 131), (1061, .aload_n 2), (1062, .invokevirtual 134), (1065, .if_icmp .eq 418), (1068, .iconst 0), (1069, .ireturn), (1070, .aload_n 1), (1071, .aload_n 0), (1072, .iload 4), (1074, .iconst 1), (1075, .iadd), (1076, .iaload), (1077, .aload_n 0), (1078, .iload 4), (1080, .iconst 2), (1081, .iadd), (1082, .iaload), (1083, .invokevirtual 135), (1086, .aload_n 2), (1087, .aload_n 0), (1088, .iload 4), (1090, .iconst 1), (1091, .iadd), (1092, .iaload), (1093, .aload_n 0), (1094, .iload 4), (1096, .iconst 2), (1097, .iadd), (1098, .iaload), (1099, .invokevirtual 138), (1102, .if_icmp .eq 381), (1105, .iconst 0), (1106, .ireturn), (1107, .aload_n 1), (1108, .aload_n 0), (1109, .iload 4), (1111, .iconst 1), (1112, .iadd), (1113, .iaload), (1114, .invokevirtual 139), (1117, .aload_n 2), (1118, .aload_n 0), (1119, .iload 4), (1121, .iconst 1), (1122, .iadd), (1123, .iaload), (1124, .invokevirtual 142), (1127, .if_icmp .eq 356), (1130, .iconst 0), (1131, .ireturn), (1132, .aload_n 1), (1133, .aload_n 0), (1134, .iload 4), (1136, .iconst 1), (1137, .iadd), (1138, .iaload), (1139, .invokevirtual 143), (1142, .aload_n 2), (1143, .aload_n 0), (1144, .iload 4), (1146, .iconst 1), (1147, .iadd), (1148, .iaload), (1149, .invokevirtual 146), (1152, .if_icmp .eq 331), (1155, .iconst 0), (1156, .ireturn), (1157, .aload_n 1), (1158, .aload_n 0), (1159, .iload 4), (1161, .iconst 1), (1162, .iadd), (1163, .iaload), (1164, .aload_n 0), (1165, .iload 4), (1167, .iconst 2), (1168, .iadd), (1169, .iaload), (1170, .aload_n 0), (1171, .iload 4), (1173, .iconst 3), (1174, .iadd), (1175, .iaload), (1176, .aload_n 0), (1177, .iload 4), (1179, .iconst 4), (1180, .iadd), (1181, .iaload), (1182, .ifCond .eq 7), (1185, .iconst 1), (1186, .goto 4), (1189, .iconst 0), (1190, .invokevirtual 147), (1193, .aload_n 2), (1194, .aload_n 0), (1195, .iload 4), (1197, .iconst 1), (1198, .iadd), (1199, .iaload), (1200, .aload_n 0), (1201, .iload 4), (1203, .iconst 2), (1204, .iadd), (1205, .iaload), (1206, .aload_n 0), (1207, .iload 4), (1209, .iconst 3), (1210, .iadd), (1211, .iaload), (1212, .aload_n 0), (1213, .iload 4), (1215, .iconst 4), (1216, .iadd), (1217, .iaload), (1218, .ifCond .eq 7), (1221, .iconst 1), (1222, .goto 4), (1225, .iconst 0), (1226, .invokevirtual 151), (1229, .if_icmp .eq 254), (1232, .iconst 0), (1233, .ireturn), (1234, .aload_n 1), (1235, .aload_n 0), (1236, .iload 4), (1238, .iconst 1), (1239, .iadd), (1240, .iaload), (1241, .invokevirtual 152), (1244, .aload_n 2), (1245, .aload_n 0), (1246, .iload 4), (1248, .iconst 1), (1249, .iadd), (1250, .iaload), (1251, .invokevirtual 155), (1254, .if_icmp .eq 229), (1257, .iconst 0), (1258, .ireturn), (1259, .aload_n 1), (1260, .aload_n 0), (1261, .iload 4), (1263, .iconst 1), (1264, .iadd), (1265, .iaload), (1266, .invokevirtual 156), (1269, .aload_n 2), (1270, .aload_n 0), (1271, .iload 4), (1273, .iconst 1), (1274, .iadd), (1275, .iaload), (1276, .invokevirtual 159), (1279, .if_icmp .eq 204), (1282, .iconst 0), (1283, .ireturn), (1284, .aload_n 1), (1285, .aload_n 0), (1286, .iload 4), (1288, .iconst 1), (1289, .iadd), (1290, .iaload), (1291, .invokevirtual 160), (1294, .aload_n 2), (1295, .aload_n 0), (1296, .iload 4), (1298, .iconst 1), (1299, .iadd), (1300, .iaload), (1301, .invokevirtual 163), (1304, .if_icmp .eq 179), (1307, .iconst 0), (1308, .ireturn), (1309, .aload_n 1), (1310, .aload_n 0), (1311, .iload 4), (1313, .iconst 1), (1314, .iadd), (1315, .iaload), (1316, .aload_n 0), (1317, .iload 4), (1319, .iconst 2), (1320, .iadd), (1321, .iaload), (1322, .aload_n 0), (1323, .iload 4), (1325, .iconst 3), (1326, .iadd), (1327, .iaload), (1328, .aload_n 0), (1329, .iload 4), (1331, .iconst 4), (1332, .iadd), (1333, .iaload), (1334, .invokevirtual 164), (1337, .aload_n 2), (1338, .aload_n 0), (1339, .iload 4), (1341, .iconst 1), (1342, .iadd), (1343, .iaload), (1344, .aload_n 0), (1345, .iload 4), (1347, .iconst 2), (1348, .iadd), (1349, .iaload), (1350, .aload_n 0), (1351, .iload 4), (1353, .iconst 3), (1354, .iadd), (1355, .iaload), (1356, .aload_n 0), (1357, .iload 4), (1359, .iconst 4), (1360, .iadd), (1361, .iaload), (1362, .invokevirtual 168), (1365, .if_icmp .eq 118), (1368, .iconst 0), (1369, .ireturn), (1370, .aload_n 1), (1371, .aload_n 0), (1372, .iload 4), (1374, .iconst 1), (1375, .iadd), (1376, .iaload), (1377, .aload_n 0), (1378, .iload 4), (1380, .iconst 2), (1381, .iadd), (1382, .iaload), (1383, .aload_n 0), (1384, .iload 4), (1386, .iconst 3), (1387, .iadd), (1388, .iaload), (1389, .invokevirtual 169), (1392, .aload_n 2), (1393, .aload_n 0), (1394, .iload 4), (1396, .iconst 1), (1397, .iadd), (1398, .iaload), (1399, .aload_n 0), (1400, .iload 4), (1402, .iconst 2), (1403, .iadd), (1404, .iaload), (1405, .aload_n 0), (1406, .iload 4), (1408, .iconst 3), (1409, .iadd), (1410, .iaload), (1411, .invokevirtual 172), (1414, .if_icmp .eq 69), (1417, .iconst 0), (1418, .ireturn), (1419, .aload_n 1), (1420, .invokevirtual 173), (1423, .aload_n 2), (1424, .invokevirtual 176), (1427, .if_icmp .eq 56), (1430, .iconst 0), (1431, .ireturn), (1432, .aload_n 1), (1433, .invokevirtual 177), (1436, .aload_n 2), (1437, .invokevirtual 180), (1440, .if_icmp .eq 43), (1443, .iconst 0), (1444, .ireturn), (1445, .aload_n 1), (1446, .invokevirtual 181), (1449, .aload_n 2), (1450, .invokevirtual 184), (1453, .if_icmp .eq 30), (1456, .iconst 0), (1457, .ireturn), (1458, .aload_n 1), (1459, .aload_n 0), (1460, .iload 4), (1462, .iconst 1), (1463, .iadd), (1464, .iaload), (1465, .invokevirtual 185), (1468, .aload_n 2), (1469, .aload_n 0), (1470, .iload 4), (1472, .iconst 1), (1473, .iadd), (1474, .iaload), (1475, .invokevirtual 188), (1478, .if_icmp .eq 5), (1481, .iconst 0), (1482, .ireturn), (1483, .iinc 4 6), (1486, .goto (-1463)), (1489, .iconst 1), (1490, .ireturn)])
def zt_ms : List xv_N := [zt_m0, zt_m1, zt_m2, zt_m3, zt_m4, zt_m5, zt_m6, zt_m7, zt_m8, zt_m9, zt_m10, zt_m11, zt_m12, zt_m13, zt_m14, zt_m15, zt_m16, zt_m17, zt_m18, zt_m19, zt_m20, zt_m21, zt_m22, zt_m23, zt_m24, zt_m25, zt_m26, zt_m27, zt_m28, zt_m29, zt_m30, zt_m31, zt_m32, zt_m33, zt_m34, zt_m35, zt_m36, zt_m37, zt_m38, zt_m39, zt_m40, zt_m41, zt_m42, zt_m43, zt_m44, zt_m45, zt_m46, zt_m47, zt_m48, zt_m49, zt_m50, zt_m51, zt_m52, zt_m53, zt_m54, zt_m55, zt_m56, zt_m57, zt_m58, zt_m59, zt_m60, zt_m61, zt_m62, zt_m63, zt_m64, zt_m65, zt_m66, zt_m67, zt_m68, zt_m69, zt_m70, zt_m71, zt_m72, zt_m73, zt_m74, zt_m75, zt_m76, zt_m77, zt_m78, zt_m79, zt_m80, zt_m81, zt_m82, zt_m83, zt_m84, zt_m85, zt_m86, zt_m87, zt_m88, zt_m89, zt_m90, zt_m91, zt_m92, zt_m93, zt_m94, zt_m95, zt_m96, zt_m97, zt_m98, zt_m99, zt_m100, zt_m101, zt_m102, zt_m103, zt_m104, zt_m105, zt_m106, zt_m107, zt_m108, zt_m109, zt_m110, zt_m111, zt_m112, zt_m113, zt_m114, zt_m115, zt_m116, zt_m117, zt_m118, zt_m119, zt_m120, zt_m121, zt_m122, zt_m123, zt_m124, zt_m125, zt_m126, zt_m127, zt_m128, zt_m129, zt_m130, zt_m131, zt_m132, zt_m133, zt_m134, zt_m135, zt_m136, zt_m137, zt_m138, zt_m139, zt_m140, zt_m141, zt_m142, zt_m143, zt_m144, zt_m145, zt_m146, zt_m147, zt_m148, zt_m149, zt_m150, zt_m151, zt_m152, zt_m153, zt_m154, zt_m155, zt_m156, zt_m157, zt_m158, zt_m159, zt_m160, zt_m161, zt_m162, zt_m163, zt_m164, zt_m165, zt_m166, zt_m167, zt_m168, zt_m169, zt_m170]
def zt_z0 : xm_Z := (⟨"EggGarden", "<init>", "()V"⟩, prog_1_method_1_code, none)
def zt_z1 : xm_Z := (⟨"EggGarden$Reader", "<init>", "([I)V"⟩, prog_8_method_1_code, none)
def zt_z2 : xm_Z := (⟨"EggGarden$Plan", "<init>", "()V"⟩, prog_7_method_1_code, none)
def zt_z3 : xm_Z := (⟨"EggGarden$Laws", "<init>", "()V"⟩, prog_5_method_1_code, none)
def zt_z4 : xm_Z := (⟨"EggGarden$Morning", "<init>", "(LEggGarden$Plan;)V"⟩, prog_6_method_1_code, none)
def zt_z5 : xm_Z := (⟨"EggGarden$Egg", "<init>", "()V"⟩, prog_3_method_1_code, none)
def zt_z6 : xm_Z := (⟨"EggGarden$Child", "<init>", "()V"⟩, prog_2_method_1_code, none)
def zt_z7 : xm_Z := (⟨"EggGarden$Tokens", "<init>", "([I)V"⟩, prog_10_method_1_code, none)
def zt_z8 : xm_Z := (⟨"EggGarden$Formula", "<init>", "(LEggGarden$Tokens;LEggGarden$Laws;)V"⟩, prog_4_method_1_code, none)
def zt_z9 : xm_Z := (⟨"EggGarden$Seen", "<init>", "()V"⟩, prog_9_method_1_code, none)
def zt_z10 : xm_Z := (⟨"EggGarden$Undoing", "<init>", "()V"⟩, prog_12_method_1_code, none)
def zt_z11 : xm_Z := (⟨"EggGarden$Trials", "<init>", "(LEggGarden$Morning;LEggGarden$Morning;LEggGarden$Seen;)V"⟩, prog_11_method_1_code, none)
def zt_z12 : xm_Z := (⟨"EggGarden$Reader", "read", "(I)I"⟩, prog_8_method_2_code, some .int)
def zt_z13 : xm_Z := (⟨"EggGarden$Plan", "forgetAll", "()V"⟩, prog_7_method_2_code, none)
def zt_z14 : xm_Z := (⟨"EggGarden$Laws", "forgetAll", "()V"⟩, prog_5_method_2_code, none)
def zt_z15 : xm_Z := (⟨"EggGarden$Plan", "shape", "(II)V"⟩, prog_7_method_3_code, none)
def zt_z16 : xm_Z := (⟨"EggGarden$Morning", "forgetAll", "()V"⟩, prog_6_method_2_code, none)
def zt_z17 : xm_Z := (⟨"EggGarden$Tokens", "begin", "(I)V"⟩, prog_10_method_2_code, none)
def zt_z18 : xm_Z := (⟨"EggGarden$Tokens", "advance", "()V"⟩, prog_10_method_5_code, none)
def zt_z19 : xm_Z := (⟨"EggGarden", "adoptText", "()V"⟩, prog_1_method_5_code, none)
def zt_z20 : xm_Z := (⟨"EggGarden$Plan", "copyFrom", "(LEggGarden$Plan;)V"⟩, prog_7_method_4_code, none)
def zt_z21 : xm_Z := (⟨"EggGarden$Laws", "copyFrom", "(LEggGarden$Laws;)V"⟩, prog_5_method_3_code, none)
def zt_z22 : xm_Z := (⟨"EggGarden$Morning", "copyFrom", "(LEggGarden$Morning;)V"⟩, prog_6_method_3_code, none)
def zt_z23 : xm_Z := (⟨"EggGarden$Plan", "layWeights", "(LEggGarden$Morning;)V"⟩, prog_7_method_17_code, none)
def zt_z24 : xm_Z := (⟨"EggGarden$Plan", "hideLaw", "(I)J"⟩, prog_7_method_15_code, some .long)
def zt_z25 : xm_Z := (⟨"EggGarden$Plan", "nameEgg", "(III)V"⟩, prog_7_method_8_code, none)
def zt_z26 : xm_Z := (⟨"EggGarden$Laws", "valueOf", "(I[I)J"⟩, prog_5_method_5_code, some .long)
def zt_z27 : xm_Z := (⟨"EggGarden$Seen", "forgetAll", "()V"⟩, prog_9_method_2_code, none)
def zt_z28 : xm_Z := (⟨"EggGarden$Undoing", "forgetAll", "()V"⟩, prog_12_method_2_code, none)
def zt_z29 : xm_Z := (⟨"EggGardenModel", "<init>", "()V"⟩, prog_14_method_1_code, none)
def zt_z30 : xm_Z := (⟨"EggGardenModel", "plain", "()V"⟩, prog_14_method_18_code, none)
def zt_z31 : xm_Z := (⟨"EggGardenModel", "keepText", "()V"⟩, prog_14_method_20_code, none)
def zt_z32 : xm_Z := (⟨"EggGardenModel", "copies", "([II)V"⟩, prog_14_method_19_code, none)
def zt_z33 : xm_Z := (⟨"EggGardenModel", "begin", "()V"⟩, prog_14_method_54_code, none)
def zt_z34 : xm_Z := (⟨"EggGardenModel", "atFirst", "(I)V"⟩, prog_14_method_53_code, none)
def zt_z35 : xm_Z := (⟨"EggGardenModel", "plainTried", "()V"⟩, prog_14_method_55_code, none)
def zt_z36 : xm_Z := (⟨"EggGardenModel", "cells", "()I"⟩, prog_14_method_49_code, some .int)
def zt_z37 : xm_Z := (⟨"EggGardenModel", "hideOf", "(I)I"⟩, prog_14_method_60_code, some .int)
def zt_z38 : xm_Z := (⟨"EggGardenModel", "layNames", "(IIIIII)V"⟩, prog_14_method_57_code, none)
def zt_z39 : xm_Z := (⟨"EggGardenModel", "boundLaw", "(III)I"⟩, prog_14_method_59_code, some .int)
def zt_z40 : xm_Z := (⟨"EggGarden", "feed", "(IIIII)I"⟩, prog_1_method_2_code, some .int)
def zt_z41 : xm_Z := (⟨"EggGarden", "layBytes", "(I)V"⟩, prog_1_method_3_code, none)
def zt_z42 : xm_Z := (⟨"EggGardenModel", "feed", "(IIIII)I"⟩, prog_14_method_3_code, some .int)
def zt_z43 : xm_Z := (⟨"EggGarden", "text", "(I)I"⟩, prog_1_method_4_code, some .int)
def zt_z44 : xm_Z := (⟨"EggGardenModel", "text", "(I)I"⟩, prog_14_method_32_code, some .int)
def zt_z45 : xm_Z := (⟨"EggGardenModel", "token", "()V"⟩, prog_14_method_11_code, none)
def zt_z46 : xm_Z := (⟨"EggGarden", "fault", "(I)I"⟩, prog_1_method_6_code, some .int)
def zt_z47 : xm_Z := (⟨"EggGardenModel", "fault", "(I)I"⟩, prog_14_method_33_code, some .int)
def zt_z48 : xm_Z := (⟨"EggGarden", "named", "(I)I"⟩, prog_1_method_7_code, some .int)
def zt_z49 : xm_Z := (⟨"EggGarden$Morning", "childNamed", "(I)I"⟩, prog_6_method_6_code, some .int)
def zt_z50 : xm_Z := (⟨"EggGardenModel", "named", "(I)I"⟩, prog_14_method_34_code, some .int)
def zt_z51 : xm_Z := (⟨"EggGardenModel", "find", "([IIII)I"⟩, prog_14_method_21_code, some .int)
def zt_z52 : xm_Z := (⟨"EggGarden", "egg", "(II)I"⟩, prog_1_method_9_code, some .int)
def zt_z53 : xm_Z := (⟨"EggGarden$Morning", "isEgg", "(I)Z"⟩, prog_6_method_4_code, some .boolean)
def zt_z54 : xm_Z := (⟨"EggGardenModel", "egg", "(II)I"⟩, prog_14_method_77_code, some .int)
def zt_z55 : xm_Z := (⟨"EggGardenModel", "isEgg", "(I)Z"⟩, prog_14_method_51_code, some .boolean)
def zt_z56 : xm_Z := (⟨"EggGarden", "child", "(II)I"⟩, prog_1_method_10_code, some .int)
def zt_z57 : xm_Z := (⟨"EggGarden$Morning", "isChild", "(I)Z"⟩, prog_6_method_5_code, some .boolean)
def zt_z58 : xm_Z := (⟨"EggGardenModel", "child", "(II)I"⟩, prog_14_method_78_code, some .int)
def zt_z59 : xm_Z := (⟨"EggGardenModel", "isChild", "(I)Z"⟩, prog_14_method_52_code, some .boolean)
def zt_z60 : xm_Z := (⟨"EggGarden", "odds", "(II)I"⟩, prog_1_method_11_code, some .int)
def zt_z61 : xm_Z := (⟨"EggGardenModel", "odds", "(II)I"⟩, prog_14_method_79_code, some .int)
def zt_z62 : xm_Z := (⟨"EggGarden", "law", "(III)J"⟩, prog_1_method_12_code, some .long)
def zt_z63 : xm_Z := (⟨"EggGardenModel", "law", "(III)J"⟩, prog_14_method_80_code, some .long)
def zt_z64 : xm_Z := (⟨"EggGardenModel", "isIn", "(III)Z"⟩, prog_14_method_4_code, some .boolean)
def zt_z65 : xm_Z := (⟨"EggGarden$Morning", "lawOfChild", "(III)J"⟩, prog_6_method_21_code, some .long)
def zt_z66 : xm_Z := (⟨"EggGarden$Plan", "isCell", "(I)Z"⟩, prog_7_method_5_code, some .boolean)
def zt_z67 : xm_Z := (⟨"EggGardenModel", "isCell", "(I)Z"⟩, prog_14_method_50_code, some .boolean)
def zt_z68 : xm_Z := (⟨"EggGarden", "hide", "(III)I"⟩, prog_1_method_13_code, some .int)
def zt_z69 : xm_Z := (⟨"EggGardenModel", "hide", "(III)I"⟩, prog_14_method_81_code, some .int)
def zt_z70 : xm_Z := (⟨"EggGarden", "isColor", "(I)Z"⟩, prog_1_method_14_code, some .boolean)
def zt_z71 : xm_Z := (⟨"EggGarden", "isHard", "(I)Z"⟩, prog_1_method_15_code, some .boolean)
def zt_z72 : xm_Z := (⟨"EggGarden$Morning", "addEgg", "(III)V"⟩, prog_6_method_7_code, none)
def zt_z73 : xm_Z := (⟨"EggGarden$Undoing", "noteHidden", "()V"⟩, prog_12_method_5_code, none)
def zt_z74 : xm_Z := (⟨"EggGarden$Undoing", "note", "(IIII)V"⟩, prog_12_method_3_code, none)
def zt_z75 : xm_Z := (⟨"EggGardenModel", "remember", "()V"⟩, prog_14_method_123_code, none)
def zt_z76 : xm_Z := (⟨"EggGardenModel", "put", "([II)V"⟩, prog_14_method_121_code, none)
def zt_z77 : xm_Z := (⟨"EggGardenModel", "layEgg", "(IIII)V"⟩, prog_14_method_82_code, none)
def zt_z78 : xm_Z := (⟨"EggGarden", "take", "()Z"⟩, prog_1_method_17_code, some .boolean)
def zt_z79 : xm_Z := (⟨"EggGardenModel", "take", "()Z"⟩, prog_14_method_83_code, some .boolean)
def zt_z80 : xm_Z := (⟨"EggGarden", "set", "(II)Z"⟩, prog_1_method_18_code, some .boolean)
def zt_z81 : xm_Z := (⟨"EggGardenModel", "set", "(II)Z"⟩, prog_14_method_84_code, some .boolean)
def zt_z82 : xm_Z := (⟨"EggGarden", "rule", "(I)Z"⟩, prog_1_method_19_code, some .boolean)
def zt_z83 : xm_Z := (⟨"EggGardenModel", "rule", "(I)Z"⟩, prog_14_method_85_code, some .boolean)
def zt_z84 : xm_Z := (⟨"EggGarden$Undoing", "noteRule", "(I)V"⟩, prog_12_method_8_code, none)
def zt_z85 : xm_Z := (⟨"EggGarden", "go", "(I)I"⟩, prog_1_method_20_code, some .int)
def zt_z86 : xm_Z := (⟨"EggGardenModel", "go", "(I)I"⟩, prog_14_method_86_code, some .int)
def zt_z87 : xm_Z := (⟨"EggGarden$Morning", "passSeconds", "(IZ)V"⟩, prog_6_method_8_code, none)
def zt_z88 : xm_Z := (⟨"EggGarden$Morning", "letDogTake", "()V"⟩, prog_6_method_15_code, none)
def zt_z89 : xm_Z := (⟨"EggGardenModel", "goOn", "(I)V"⟩, prog_14_method_73_code, none)
def zt_z90 : xm_Z := (⟨"EggGarden", "weight", "(I)I"⟩, prog_1_method_21_code, some .int)
def zt_z91 : xm_Z := (⟨"EggGardenModel", "weight", "(I)I"⟩, prog_14_method_87_code, some .int)
def zt_z92 : xm_Z := (⟨"EggGarden", "next", "(I)I"⟩, prog_1_method_22_code, some .int)
def zt_z93 : xm_Z := (⟨"EggGardenModel", "next", "(I)I"⟩, prog_14_method_90_code, some .int)
def zt_z94 : xm_Z := (⟨"EggGarden", "stop", "(II)I"⟩, prog_1_method_23_code, some .int)
def zt_z95 : xm_Z := (⟨"EggGardenModel", "stop", "(II)I"⟩, prog_14_method_91_code, some .int)
def zt_z96 : xm_Z := (⟨"EggGarden", "place", "(IIIII)I"⟩, prog_1_method_24_code, some .int)
def zt_z97 : xm_Z := (⟨"EggGardenModel", "place", "(IIIII)I"⟩, prog_14_method_94_code, some .int)
def zt_z98 : xm_Z := (⟨"EggGarden", "later", "(II)I"⟩, prog_1_method_25_code, some .int)
def zt_z99 : xm_Z := (⟨"EggGarden", "isLong", "(I)Z"⟩, prog_1_method_16_code, some .boolean)
def zt_z100 : xm_Z := (⟨"EggGardenModel", "later", "(II)I"⟩, prog_14_method_95_code, some .int)
def zt_z101 : xm_Z := (⟨"EggGarden", "tears", "(II)I"⟩, prog_1_method_26_code, some .int)
def zt_z102 : xm_Z := (⟨"EggGardenModel", "tears", "(II)I"⟩, prog_14_method_97_code, some .int)
def zt_z103 : xm_Z := (⟨"EggGarden$Trials", "tearsBy", "(II)I"⟩, prog_11_method_17_code, some .int)
def zt_z104 : xm_Z := (⟨"EggGarden$Morning", "tearsNow", "()I"⟩, prog_6_method_34_code, some .int)
def zt_z105 : xm_Z := (⟨"EggGarden$Morning", "most", "()I"⟩, prog_6_method_32_code, some .int)
def zt_z106 : xm_Z := (⟨"EggGardenModel", "tearsBy", "(II)I"⟩, prog_14_method_96_code, some .int)
def zt_z107 : xm_Z := (⟨"EggGardenModel", "layTried", "()V"⟩, prog_14_method_56_code, none)
def zt_z108 : xm_Z := (⟨"EggGardenModel", "goSure", "(I)V"⟩, prog_14_method_92_code, none)
def zt_z109 : xm_Z := (⟨"EggGarden", "kindest", "(I)I"⟩, prog_1_method_27_code, some .int)
def zt_z110 : xm_Z := (⟨"EggGardenModel", "kindest", "(I)I"⟩, prog_14_method_98_code, some .int)
def zt_z111 : xm_Z := (⟨"EggGarden$Trials", "findKindest", "(I)I"⟩, prog_11_method_18_code, some .int)
def zt_z112 : xm_Z := (⟨"EggGarden", "rests", "()I"⟩, prog_1_method_28_code, some .int)
def zt_z113 : xm_Z := (⟨"EggGarden$Trials", "findRests", "()I"⟩, prog_11_method_12_code, some .int)
def zt_z114 : xm_Z := (⟨"EggGarden$Trials", "addBush", "(I)V"⟩, prog_11_method_13_code, none)
def zt_z115 : xm_Z := (⟨"EggGarden$Trials", "isBest", "(II)Z"⟩, prog_11_method_15_code, some .boolean)
def zt_z116 : xm_Z := (⟨"EggGarden$Trials", "gain", "(II)I"⟩, prog_11_method_14_code, some .int)
def zt_z117 : xm_Z := (⟨"EggGardenModel", "rests", "()I"⟩, prog_14_method_103_code, some .int)
def zt_z118 : xm_Z := (⟨"EggGardenModel", "restAt", "(I)I"⟩, prog_14_method_102_code, some .int)
def zt_z119 : xm_Z := (⟨"EggGardenModel", "layTops", "()V"⟩, prog_14_method_99_code, none)
def zt_z120 : xm_Z := (⟨"EggGardenModel", "isAt", "(JI)Z"⟩, prog_14_method_6_code, some .boolean)
def zt_z121 : xm_Z := (⟨"EggGardenModel", "isRest", "(II)Z"⟩, prog_14_method_101_code, some .boolean)
def zt_z122 : xm_Z := (⟨"EggGardenModel", "hasBy", "(II)I"⟩, prog_14_method_100_code, some .int)
def zt_z123 : xm_Z := (⟨"EggGarden", "rest", "(I)I"⟩, prog_1_method_29_code, some .int)
def zt_z124 : xm_Z := (⟨"EggGardenModel", "rest", "(I)I"⟩, prog_14_method_104_code, some .int)
def zt_z125 : xm_Z := (⟨"EggGarden", "alike", "(I)J"⟩, prog_1_method_30_code, some .long)
def zt_z126 : xm_Z := (⟨"EggGardenModel", "alike", "(I)J"⟩, prog_14_method_105_code, some .long)
def zt_z127 : xm_Z := (⟨"EggGarden$Plan", "alikeTerm", "(Z)J"⟩, prog_7_method_19_code, some .long)
def zt_z128 : xm_Z := (⟨"EggGarden$Plan", "commonDivisor", "(JJ)J"⟩, prog_7_method_20_code, some .long)
def zt_z129 : xm_Z := (⟨"EggGarden", "forgot", "()I"⟩, prog_1_method_31_code, some .int)
def zt_z130 : xm_Z := (⟨"EggGarden$Morning", "forgotten", "()I"⟩, prog_6_method_24_code, some .int)
def zt_z131 : xm_Z := (⟨"EggGardenModel", "forgot", "()I"⟩, prog_14_method_106_code, some .int)
def zt_z132 : xm_Z := (⟨"EggGarden", "worth", "(II)I"⟩, prog_1_method_32_code, some .int)
def zt_z133 : xm_Z := (⟨"EggGardenModel", "worth", "(II)I"⟩, prog_14_method_107_code, some .int)
def zt_z134 : xm_Z := (⟨"EggGarden", "trade", "(I)I"⟩, prog_1_method_33_code, some .int)
def zt_z135 : xm_Z := (⟨"EggGardenModel", "trade", "(I)I"⟩, prog_14_method_109_code, some .int)
def zt_z136 : xm_Z := (⟨"EggGarden$Morning", "findTrade", "(I)I"⟩, prog_6_method_35_code, some .int)
def zt_z137 : xm_Z := (⟨"EggGarden", "shared", "(I)I"⟩, prog_1_method_34_code, some .int)
def zt_z138 : xm_Z := (⟨"EggGardenModel", "shared", "(I)I"⟩, prog_14_method_110_code, some .int)
def zt_z139 : xm_Z := (⟨"EggGarden", "see", "(IIIZ)I"⟩, prog_1_method_35_code, some .int)
def zt_z140 : xm_Z := (⟨"EggGardenModel", "see", "(IIIZ)I"⟩, prog_14_method_112_code, some .int)
def zt_z141 : xm_Z := (⟨"EggGarden", "strike", "(I)I"⟩, prog_1_method_36_code, some .int)
def zt_z142 : xm_Z := (⟨"EggGarden$Seen", "addStrike", "(I)I"⟩, prog_9_method_5_code, some .int)
def zt_z143 : xm_Z := (⟨"EggGardenModel", "strike", "(I)I"⟩, prog_14_method_113_code, some .int)
def zt_z144 : xm_Z := (⟨"EggGarden", "known", "(I)Z"⟩, prog_1_method_37_code, some .boolean)
def zt_z145 : xm_Z := (⟨"EggGardenModel", "known", "(I)Z"⟩, prog_14_method_114_code, some .boolean)
def zt_z146 : xm_Z := (⟨"EggGarden", "starts", "(I)I"⟩, prog_1_method_38_code, some .int)
def zt_z147 : xm_Z := (⟨"EggGardenModel", "starts", "(I)I"⟩, prog_14_method_117_code, some .int)
def zt_z148 : xm_Z := (⟨"EggGarden", "chance", "(IIII)I"⟩, prog_1_method_39_code, some .int)
def zt_z149 : xm_Z := (⟨"EggGardenModel", "chance", "(IIII)I"⟩, prog_14_method_118_code, some .int)
def zt_z150 : xm_Z := (⟨"EggGarden", "tried", "(III)I"⟩, prog_1_method_40_code, some .int)
def zt_z151 : xm_Z := (⟨"EggGardenModel", "tried", "(III)I"⟩, prog_14_method_120_code, some .int)
def zt_z152 : xm_Z := (⟨"EggGarden$Trials", "foundOtherwise", "(III)I"⟩, prog_11_method_22_code, some .int)
def zt_z153 : xm_Z := (⟨"EggGarden$Morning", "eggsFound", "()I"⟩, prog_6_method_28_code, some .int)
def zt_z154 : xm_Z := (⟨"EggGardenModel", "foundIn", "(I)I"⟩, prog_14_method_119_code, some .int)
def zt_z155 : xm_Z := (⟨"EggGarden", "undo", "()I"⟩, prog_1_method_41_code, some .int)
def zt_z156 : xm_Z := (⟨"EggGarden$Undoing", "undoLatest", "(LEggGarden$Morning;)Z"⟩, prog_12_method_9_code, some .boolean)
def zt_z157 : xm_Z := (⟨"EggGardenModel", "undo", "()I"⟩, prog_14_method_124_code, some .int)
def zt_z158 : xm_Z := (⟨"EggGarden", "keep", "()I"⟩, prog_1_method_42_code, some .int)
def zt_z159 : xm_Z := (⟨"EggGardenModel", "keep", "()I"⟩, prog_14_method_125_code, some .int)
def zt_z160 : xm_Z := (⟨"EggGarden", "back", "()I"⟩, prog_1_method_43_code, some .int)
def zt_z161 : xm_Z := (⟨"EggGardenModel", "back", "()I"⟩, prog_14_method_126_code, some .int)
def zt_z162 : xm_Z := (⟨"EggGarden", "count", "(I)I"⟩, prog_1_method_44_code, some .int)
def zt_z163 : xm_Z := (⟨"EggGardenModel", "count", "(I)I"⟩, prog_14_method_128_code, some .int)
def zt_z164 : xm_Z := (⟨"EggGarden$Morning", "eggsOf", "(I)I"⟩, prog_6_method_27_code, some .int)
def zt_z165 : xm_Z := (⟨"EggGardenModel", "manyEggs", "(I)I"⟩, prog_14_method_127_code, some .int)
def zt_z166 : xm_Z := (⟨"EggGarden$Morning", "cellsLookedAt", "()I"⟩, prog_6_method_29_code, some .int)
def zt_z167 : xm_Z := (⟨"EggGarden$Seen", "knownCount", "()I"⟩, prog_9_method_3_code, some .int)
def zt_z168 : xm_Z := (⟨"EggGardenModel", "knownBy", "()I"⟩, prog_14_method_115_code, some .int)
def zt_z169 : xm_Z := (⟨"EggGarden$Morning", "unlike", "()I"⟩, prog_6_method_33_code, some .int)
def zt_z170 : xm_Z := (⟨"EggGardenModel", "unlike", "(I)I"⟩, prog_14_method_74_code, some .int)
def zt_zlaw : xm_Z := (⟨"EggGardenLaw", "law", "([I)Z"⟩, code, some .boolean)
def zt_ys : List xm_Z := [zt_z0, zt_z1, zt_z2, zt_z3, zt_z4, zt_z5, zt_z6, zt_z7, zt_z8, zt_z9, zt_z10, zt_z11, zt_z12, zt_z13, zt_z14, zt_z15, zt_z16, zt_z17, zt_z18, zt_z19, zt_z20, zt_z21, zt_z22, zt_z23, zt_z24, zt_z25, zt_z26, zt_z27, zt_z28, zt_z29, zt_z30, zt_z31, zt_z32, zt_z33, zt_z34, zt_z35, zt_z36, zt_z37, zt_z38, zt_z39, zt_z40, zt_z41, zt_z42, zt_z43, zt_z44, zt_z45, zt_z46, zt_z47, zt_z48, zt_z49, zt_z50, zt_z51, zt_z52, zt_z53, zt_z54, zt_z55, zt_z56, zt_z57, zt_z58, zt_z59, zt_z60, zt_z61, zt_z62, zt_z63, zt_z64, zt_z65, zt_z66, zt_z67, zt_z68, zt_z69, zt_z70, zt_z71, zt_z72, zt_z73, zt_z74, zt_z75, zt_z76, zt_z77, zt_z78, zt_z79, zt_z80, zt_z81, zt_z82, zt_z83, zt_z84, zt_z85, zt_z86, zt_z87, zt_z88, zt_z89, zt_z90, zt_z91, zt_z92, zt_z93, zt_z94, zt_z95, zt_z96, zt_z97, zt_z98, zt_z99, zt_z100, zt_z101, zt_z102, zt_z103, zt_z104, zt_z105, zt_z106, zt_z107, zt_z108, zt_z109, zt_z110, zt_z111, zt_z112, zt_z113, zt_z114, zt_z115, zt_z116, zt_z117, zt_z118, zt_z119, zt_z120, zt_z121, zt_z122, zt_z123, zt_z124, zt_z125, zt_z126, zt_z127, zt_z128, zt_z129, zt_z130, zt_z131, zt_z132, zt_z133, zt_z134, zt_z135, zt_z136, zt_z137, zt_z138, zt_z139, zt_z140, zt_z141, zt_z142, zt_z143, zt_z144, zt_z145, zt_z146, zt_z147, zt_z148, zt_z149, zt_z150, zt_z151, zt_z152, zt_z153, zt_z154, zt_z155, zt_z156, zt_z157, zt_z158, zt_z159, zt_z160, zt_z161, zt_z162, zt_z163, zt_z164, zt_z165, zt_z166, zt_z167, zt_z168, zt_z169, zt_z170]
def zt_kds : List Nat := [1, 1, 1, 1, 1, 1, 1, 1, 1, 1, 1, 1, 0, 0, 0, 0, 0, 0, 0, 0, 0, 0, 0, 0, 0, 0, 0, 0, 0, 1, 0, 0, 3, 0, 0, 0, 0, 0, 0, 0, 0, 0, 0, 0, 0, 0, 0, 0, 0, 0, 0, 3, 0, 0, 0, 0, 0, 0, 0, 0, 0, 0, 0, 0, 3, 0, 0, 0, 0, 0, 3, 3, 0, 0, 0, 0, 0, 0, 0, 0, 0, 0, 0, 0, 0, 0, 0, 0, 0, 0, 0, 0, 0, 0, 0, 0, 0, 0, 0, 3, 0, 0, 0, 0, 0, 0, 0, 0, 0, 0, 0, 0, 0, 0, 0, 0, 0, 0, 0, 0, 3, 0, 0, 0, 0, 0, 0, 0, 3, 0, 0, 0, 0, 0, 0, 0, 0, 0, 0, 0, 0, 0, 0, 0, 0, 0, 0, 0, 0, 0, 0, 0, 0, 0, 0, 0, 0, 0, 0, 0, 0, 0, 0, 0, 0, 0, 0, 0, 0, 0, 0]
def zt_nest : List (String × Nat × MethodName × String) := [("EggGarden", 28, ⟨"EggGarden$Plan", "<init>", "()V"⟩, "EggGarden"), ("EggGarden", 50, ⟨"EggGarden$Seen", "<init>", "()V"⟩, "EggGarden"), ("EggGarden", 57, ⟨"EggGarden$Undoing", "<init>", "()V"⟩, "EggGarden"), ("EggGarden$Morning", 38, ⟨"EggGarden$Egg", "<init>", "()V"⟩, "EggGarden"), ("EggGarden$Morning", 39, ⟨"EggGarden$Child", "<init>", "()V"⟩, "EggGarden"), ("EggGarden$Plan", 23, ⟨"EggGarden$Laws", "<init>", "()V"⟩, "EggGarden"), ("EggGarden$Reader", 11, ⟨"EggGarden$Plan", "<init>", "()V"⟩, "EggGarden")]
def zt_strs : List (String × Nat × String × Nat) := [("EggGarden$Tokens", 18, "gardenbush  pot   tree  egg   child rule  line  dog   sun   seed  law   red   blue  green gold  free  own   behindsee   hide  joy   keep  or    and   not   age   hard  kind  color mine  row   many  ", 0)]
end
section
noncomputable def xw_tab (k : Nat) : List Jvm.Cond := match k with
  | 0 => k2_sels lw_privs
  | 1 => tables_1_1
  | 2 => tables_1_2
  | 3 => tables_1_3
  | 4 => tables_1_4
  | 5 => tables_1_5
  | 6 => tables_1_6
  | 7 => tables_1_7
  | 8 => tables_1_8
  | 9 => tables_1_9
  | _ => tables_1_10
noncomputable def xw_in : List Jvm.Cond → List (Nat × Nat) → Bool
  | [], _ => true
  | _ :: _, [] => false
  | w :: ws, i :: ix => decide (xf_get (xw_tab i.1) i.2 = some w) && goodWord w && xw_in ws ix
theorem xw_tab_in (k : Nat) : ∀ w ∈ xw_tab k, w ∈ lw_tbl := by
  intro w hw
  unfold lw_tbl
  unfold xw_tab at hw
  split at hw
  · exact List.mem_append_left _ hw
  · exact List.mem_append_right _ (show w ∈ tables_1 from List.mem_append_left _ hw)
  · exact List.mem_append_right _ (show w ∈ tables_1 from List.mem_append_right _ (List.mem_append_left _ hw))
  · exact List.mem_append_right _ (show w ∈ tables_1 from List.mem_append_right _ (List.mem_append_right _ (List.mem_append_left _ hw)))
  · exact List.mem_append_right _ (show w ∈ tables_1 from List.mem_append_right _ (List.mem_append_right _ (List.mem_append_right _ (List.mem_append_left _ hw))))
  · exact List.mem_append_right _ (show w ∈ tables_1 from List.mem_append_right _ (List.mem_append_right _ (List.mem_append_right _ (List.mem_append_right _ (List.mem_append_left _ hw)))))
  · exact List.mem_append_right _ (show w ∈ tables_1 from List.mem_append_right _ (List.mem_append_right _ (List.mem_append_right _ (List.mem_append_right _ (List.mem_append_right _ (List.mem_append_left _ hw))))))
  · exact List.mem_append_right _ (show w ∈ tables_1 from List.mem_append_right _ (List.mem_append_right _ (List.mem_append_right _ (List.mem_append_right _ (List.mem_append_right _ (List.mem_append_right _ (List.mem_append_left _ hw)))))))
  · exact List.mem_append_right _ (show w ∈ tables_1 from List.mem_append_right _ (List.mem_append_right _ (List.mem_append_right _ (List.mem_append_right _ (List.mem_append_right _ (List.mem_append_right _ (List.mem_append_right _ (List.mem_append_left _ hw))))))))
  · exact List.mem_append_right _ (show w ∈ tables_1 from List.mem_append_right _ (List.mem_append_right _ (List.mem_append_right _ (List.mem_append_right _ (List.mem_append_right _ (List.mem_append_right _ (List.mem_append_right _ (List.mem_append_right _ (List.mem_append_left _ hw)))))))))
  · exact List.mem_append_right _ (show w ∈ tables_1 from List.mem_append_right _ (List.mem_append_right _ (List.mem_append_right _ (List.mem_append_right _ (List.mem_append_right _ (List.mem_append_right _ (List.mem_append_right _ (List.mem_append_right _ (List.mem_append_right _ (hw))))))))))
theorem xw_in_ok : ∀ {ws : List Jvm.Cond} {ix : List (Nat × Nat)}, xw_in ws ix = true → ∀ w ∈ ws, w ∈ lw_tbl ∧ goodWord w = true
  | [], _, _, _, hw => absurd hw List.not_mem_nil
  | _ :: _, [], h, _, _ => by cases h
  | x :: ws, i :: ix, h, w, hw => by
    simp only [xw_in, Bool.and_eq_true_iff] at h
    obtain ⟨⟨h1, h2⟩, h3⟩ := h
    rcases List.mem_cons.mp hw with e | e
    · subst e
      have h4 := of_decide_eq_true h1
      rw [xf_get_eq] at h4
      exact ⟨xw_tab_in _ _ (List.mem_of_getElem? h4), h2⟩
    · exact xw_in_ok h3 w e
noncomputable def zt_wc0 : List Jvm.Cond := u_ws RX0 TX0 8 ++ [Jvm.Cond.instantiable RX0 8, Jvm.Cond.initialized RX0]
noncomputable def zt_wc1 : List Jvm.Cond := u_ws RX1 TX1 4 ++ [Jvm.Cond.instantiable RX1 4, Jvm.Cond.initialized RX1]
noncomputable def zt_wc2 : List Jvm.Cond := u_ws RX2 TX2 8 ++ [Jvm.Cond.instantiable RX2 8, Jvm.Cond.initialized RX2]
noncomputable def zt_wc3 : List Jvm.Cond := u_ws RX3 TX3 7 ++ [Jvm.Cond.instantiable RX3 7, Jvm.Cond.initialized RX3]
noncomputable def zt_wc4 : List Jvm.Cond := u_ws RX4 TX4 12 ++ [Jvm.Cond.instantiable RX4 12, Jvm.Cond.initialized RX4]
noncomputable def zt_wc5 : List Jvm.Cond := u_ws RX5 TX5 13 ++ [Jvm.Cond.instantiable RX5 13, Jvm.Cond.initialized RX5]
noncomputable def zt_wc6 : List Jvm.Cond := u_ws RX6 TX6 11 ++ [Jvm.Cond.instantiable RX6 11, Jvm.Cond.initialized RX6]
noncomputable def zt_wc7 : List Jvm.Cond := u_ws RX7 TX7 8 ++ [Jvm.Cond.instantiable RX7 8, Jvm.Cond.initialized RX7]
noncomputable def zt_wc8 : List Jvm.Cond := u_ws RX8 TX8 7 ++ [Jvm.Cond.instantiable RX8 7, Jvm.Cond.initialized RX8]
noncomputable def zt_wc9 : List Jvm.Cond := u_ws RX9 TX9 20 ++ [Jvm.Cond.instantiable RX9 20, Jvm.Cond.initialized RX9]
noncomputable def zt_wc10 : List Jvm.Cond := u_ws RX10 TX10 5 ++ [Jvm.Cond.instantiable RX10 5, Jvm.Cond.initialized RX10]
noncomputable def zt_wc11 : List Jvm.Cond := u_ws RX11 TX11 13 ++ [Jvm.Cond.instantiable RX11 13, Jvm.Cond.initialized RX11]
noncomputable def zt_wc12 : List Jvm.Cond := u_ws RX12 TX12 91 ++ [Jvm.Cond.instantiable RX12 91, Jvm.Cond.initialized RX12]
noncomputable def zt_wk0 : List Jvm.Cond := xw_K zt_cl zt_at zt_ys "EggGarden$Child" zt_K0
noncomputable def zt_wk1 : List Jvm.Cond := xw_K zt_cl zt_at zt_ys "EggGarden$Egg" zt_K1
noncomputable def zt_wk2 : List Jvm.Cond := xw_K zt_cl zt_at zt_ys "EggGarden$Formula" zt_K2
noncomputable def zt_wk3 : List Jvm.Cond := xw_K zt_cl zt_at zt_ys "EggGarden$Laws" zt_K3
noncomputable def zt_wk4 : List Jvm.Cond := xw_K zt_cl zt_at zt_ys "EggGarden$Morning" zt_K4
noncomputable def zt_wk5 : List Jvm.Cond := xw_K zt_cl zt_at zt_ys "EggGarden$Plan" zt_K5
noncomputable def zt_wk6 : List Jvm.Cond := xw_K zt_cl zt_at zt_ys "EggGarden$Reader" zt_K6
noncomputable def zt_wk7 : List Jvm.Cond := xw_K zt_cl zt_at zt_ys "EggGarden$Seen" zt_K7
noncomputable def zt_wk8 : List Jvm.Cond := xw_K zt_cl zt_at zt_ys "EggGarden$Tokens" zt_K8
noncomputable def zt_wk9 : List Jvm.Cond := xw_K zt_cl zt_at zt_ys "EggGarden$Trials" zt_K9
noncomputable def zt_wk10 : List Jvm.Cond := xw_K zt_cl zt_at zt_ys "EggGarden$Undoing" zt_K10
noncomputable def zt_wk11 : List Jvm.Cond := xw_K zt_cl zt_at zt_ys "EggGarden" zt_K11
noncomputable def zt_wk12 : List Jvm.Cond := xw_K zt_cl zt_at zt_ys "EggGardenModel" zt_K12
noncomputable def zt_wkL : List Jvm.Cond := xw_K zt_cl zt_at zt_ys "EggGardenLaw" zt_KL
noncomputable def zt_wy0 : List Jvm.Cond := xw_Y zt_z0 1
noncomputable def zt_wy1 : List Jvm.Cond := xw_Y zt_z1 1
noncomputable def zt_wy2 : List Jvm.Cond := xw_Y zt_z2 1
noncomputable def zt_wy3 : List Jvm.Cond := xw_Y zt_z3 1
noncomputable def zt_wy4 : List Jvm.Cond := xw_Y zt_z4 1
noncomputable def zt_wy5 : List Jvm.Cond := xw_Y zt_z5 1
noncomputable def zt_wy6 : List Jvm.Cond := xw_Y zt_z6 1
noncomputable def zt_wy7 : List Jvm.Cond := xw_Y zt_z7 1
noncomputable def zt_wy8 : List Jvm.Cond := xw_Y zt_z8 1
noncomputable def zt_wy9 : List Jvm.Cond := xw_Y zt_z9 1
noncomputable def zt_wy10 : List Jvm.Cond := xw_Y zt_z10 1
noncomputable def zt_wy11 : List Jvm.Cond := xw_Y zt_z11 1
noncomputable def zt_wy12 : List Jvm.Cond := xw_Y zt_z12 0
noncomputable def zt_wy13 : List Jvm.Cond := xw_Y zt_z13 0
noncomputable def zt_wy14 : List Jvm.Cond := xw_Y zt_z14 0
noncomputable def zt_wy15 : List Jvm.Cond := xw_Y zt_z15 0
noncomputable def zt_wy16 : List Jvm.Cond := xw_Y zt_z16 0
noncomputable def zt_wy17 : List Jvm.Cond := xw_Y zt_z17 0
noncomputable def zt_wy18 : List Jvm.Cond := xw_Y zt_z18 0
noncomputable def zt_wy19 : List Jvm.Cond := xw_Y zt_z19 0
noncomputable def zt_wy20 : List Jvm.Cond := xw_Y zt_z20 0
noncomputable def zt_wy21 : List Jvm.Cond := xw_Y zt_z21 0
noncomputable def zt_wy22 : List Jvm.Cond := xw_Y zt_z22 0
noncomputable def zt_wy23 : List Jvm.Cond := xw_Y zt_z23 0
noncomputable def zt_wy24 : List Jvm.Cond := xw_Y zt_z24 0
noncomputable def zt_wy25 : List Jvm.Cond := xw_Y zt_z25 0
noncomputable def zt_wy26 : List Jvm.Cond := xw_Y zt_z26 0
noncomputable def zt_wy27 : List Jvm.Cond := xw_Y zt_z27 0
noncomputable def zt_wy28 : List Jvm.Cond := xw_Y zt_z28 0
noncomputable def zt_wy29 : List Jvm.Cond := xw_Y zt_z29 1
noncomputable def zt_wy30 : List Jvm.Cond := xw_Y zt_z30 0
noncomputable def zt_wy31 : List Jvm.Cond := xw_Y zt_z31 0
noncomputable def zt_wy32 : List Jvm.Cond := xw_Y zt_z32 3
noncomputable def zt_wy33 : List Jvm.Cond := xw_Y zt_z33 0
noncomputable def zt_wy34 : List Jvm.Cond := xw_Y zt_z34 0
noncomputable def zt_wy35 : List Jvm.Cond := xw_Y zt_z35 0
noncomputable def zt_wy36 : List Jvm.Cond := xw_Y zt_z36 0
noncomputable def zt_wy37 : List Jvm.Cond := xw_Y zt_z37 0
noncomputable def zt_wy38 : List Jvm.Cond := xw_Y zt_z38 0
noncomputable def zt_wy39 : List Jvm.Cond := xw_Y zt_z39 0
noncomputable def zt_wy40 : List Jvm.Cond := xw_Y zt_z40 0
noncomputable def zt_wy41 : List Jvm.Cond := xw_Y zt_z41 0
noncomputable def zt_wy42 : List Jvm.Cond := xw_Y zt_z42 0
noncomputable def zt_wy43 : List Jvm.Cond := xw_Y zt_z43 0
noncomputable def zt_wy44 : List Jvm.Cond := xw_Y zt_z44 0
noncomputable def zt_wy45 : List Jvm.Cond := xw_Y zt_z45 0
noncomputable def zt_wy46 : List Jvm.Cond := xw_Y zt_z46 0
noncomputable def zt_wy47 : List Jvm.Cond := xw_Y zt_z47 0
noncomputable def zt_wy48 : List Jvm.Cond := xw_Y zt_z48 0
noncomputable def zt_wy49 : List Jvm.Cond := xw_Y zt_z49 0
noncomputable def zt_wy50 : List Jvm.Cond := xw_Y zt_z50 0
noncomputable def zt_wy51 : List Jvm.Cond := xw_Y zt_z51 3
noncomputable def zt_wy52 : List Jvm.Cond := xw_Y zt_z52 0
noncomputable def zt_wy53 : List Jvm.Cond := xw_Y zt_z53 0
noncomputable def zt_wy54 : List Jvm.Cond := xw_Y zt_z54 0
noncomputable def zt_wy55 : List Jvm.Cond := xw_Y zt_z55 0
noncomputable def zt_wy56 : List Jvm.Cond := xw_Y zt_z56 0
noncomputable def zt_wy57 : List Jvm.Cond := xw_Y zt_z57 0
noncomputable def zt_wy58 : List Jvm.Cond := xw_Y zt_z58 0
noncomputable def zt_wy59 : List Jvm.Cond := xw_Y zt_z59 0
noncomputable def zt_wy60 : List Jvm.Cond := xw_Y zt_z60 0
noncomputable def zt_wy61 : List Jvm.Cond := xw_Y zt_z61 0
noncomputable def zt_wy62 : List Jvm.Cond := xw_Y zt_z62 0
noncomputable def zt_wy63 : List Jvm.Cond := xw_Y zt_z63 0
noncomputable def zt_wy64 : List Jvm.Cond := xw_Y zt_z64 3
noncomputable def zt_wy65 : List Jvm.Cond := xw_Y zt_z65 0
noncomputable def zt_wy66 : List Jvm.Cond := xw_Y zt_z66 0
noncomputable def zt_wy67 : List Jvm.Cond := xw_Y zt_z67 0
noncomputable def zt_wy68 : List Jvm.Cond := xw_Y zt_z68 0
noncomputable def zt_wy69 : List Jvm.Cond := xw_Y zt_z69 0
noncomputable def zt_wy70 : List Jvm.Cond := xw_Y zt_z70 3
noncomputable def zt_wy71 : List Jvm.Cond := xw_Y zt_z71 3
noncomputable def zt_wy72 : List Jvm.Cond := xw_Y zt_z72 0
noncomputable def zt_wy73 : List Jvm.Cond := xw_Y zt_z73 0
noncomputable def zt_wy74 : List Jvm.Cond := xw_Y zt_z74 0
noncomputable def zt_wy75 : List Jvm.Cond := xw_Y zt_z75 0
noncomputable def zt_wy76 : List Jvm.Cond := xw_Y zt_z76 0
noncomputable def zt_wy77 : List Jvm.Cond := xw_Y zt_z77 0
noncomputable def zt_wy78 : List Jvm.Cond := xw_Y zt_z78 0
noncomputable def zt_wy79 : List Jvm.Cond := xw_Y zt_z79 0
noncomputable def zt_wy80 : List Jvm.Cond := xw_Y zt_z80 0
noncomputable def zt_wy81 : List Jvm.Cond := xw_Y zt_z81 0
noncomputable def zt_wy82 : List Jvm.Cond := xw_Y zt_z82 0
noncomputable def zt_wy83 : List Jvm.Cond := xw_Y zt_z83 0
noncomputable def zt_wy84 : List Jvm.Cond := xw_Y zt_z84 0
noncomputable def zt_wy85 : List Jvm.Cond := xw_Y zt_z85 0
noncomputable def zt_wy86 : List Jvm.Cond := xw_Y zt_z86 0
noncomputable def zt_wy87 : List Jvm.Cond := xw_Y zt_z87 0
noncomputable def zt_wy88 : List Jvm.Cond := xw_Y zt_z88 0
noncomputable def zt_wy89 : List Jvm.Cond := xw_Y zt_z89 0
noncomputable def zt_wy90 : List Jvm.Cond := xw_Y zt_z90 0
noncomputable def zt_wy91 : List Jvm.Cond := xw_Y zt_z91 0
noncomputable def zt_wy92 : List Jvm.Cond := xw_Y zt_z92 0
noncomputable def zt_wy93 : List Jvm.Cond := xw_Y zt_z93 0
noncomputable def zt_wy94 : List Jvm.Cond := xw_Y zt_z94 0
noncomputable def zt_wy95 : List Jvm.Cond := xw_Y zt_z95 0
noncomputable def zt_wy96 : List Jvm.Cond := xw_Y zt_z96 0
noncomputable def zt_wy97 : List Jvm.Cond := xw_Y zt_z97 0
noncomputable def zt_wy98 : List Jvm.Cond := xw_Y zt_z98 0
noncomputable def zt_wy99 : List Jvm.Cond := xw_Y zt_z99 3
noncomputable def zt_wy100 : List Jvm.Cond := xw_Y zt_z100 0
noncomputable def zt_wy101 : List Jvm.Cond := xw_Y zt_z101 0
noncomputable def zt_wy102 : List Jvm.Cond := xw_Y zt_z102 0
noncomputable def zt_wy103 : List Jvm.Cond := xw_Y zt_z103 0
noncomputable def zt_wy104 : List Jvm.Cond := xw_Y zt_z104 0
noncomputable def zt_wy105 : List Jvm.Cond := xw_Y zt_z105 0
noncomputable def zt_wy106 : List Jvm.Cond := xw_Y zt_z106 0
noncomputable def zt_wy107 : List Jvm.Cond := xw_Y zt_z107 0
noncomputable def zt_wy108 : List Jvm.Cond := xw_Y zt_z108 0
noncomputable def zt_wy109 : List Jvm.Cond := xw_Y zt_z109 0
noncomputable def zt_wy110 : List Jvm.Cond := xw_Y zt_z110 0
noncomputable def zt_wy111 : List Jvm.Cond := xw_Y zt_z111 0
noncomputable def zt_wy112 : List Jvm.Cond := xw_Y zt_z112 0
noncomputable def zt_wy113 : List Jvm.Cond := xw_Y zt_z113 0
noncomputable def zt_wy114 : List Jvm.Cond := xw_Y zt_z114 0
noncomputable def zt_wy115 : List Jvm.Cond := xw_Y zt_z115 0
noncomputable def zt_wy116 : List Jvm.Cond := xw_Y zt_z116 0
noncomputable def zt_wy117 : List Jvm.Cond := xw_Y zt_z117 0
noncomputable def zt_wy118 : List Jvm.Cond := xw_Y zt_z118 0
noncomputable def zt_wy119 : List Jvm.Cond := xw_Y zt_z119 0
noncomputable def zt_wy120 : List Jvm.Cond := xw_Y zt_z120 3
noncomputable def zt_wy121 : List Jvm.Cond := xw_Y zt_z121 0
noncomputable def zt_wy122 : List Jvm.Cond := xw_Y zt_z122 0
noncomputable def zt_wy123 : List Jvm.Cond := xw_Y zt_z123 0
noncomputable def zt_wy124 : List Jvm.Cond := xw_Y zt_z124 0
noncomputable def zt_wy125 : List Jvm.Cond := xw_Y zt_z125 0
noncomputable def zt_wy126 : List Jvm.Cond := xw_Y zt_z126 0
noncomputable def zt_wy127 : List Jvm.Cond := xw_Y zt_z127 0
noncomputable def zt_wy128 : List Jvm.Cond := xw_Y zt_z128 3
noncomputable def zt_wy129 : List Jvm.Cond := xw_Y zt_z129 0
noncomputable def zt_wy130 : List Jvm.Cond := xw_Y zt_z130 0
noncomputable def zt_wy131 : List Jvm.Cond := xw_Y zt_z131 0
noncomputable def zt_wy132 : List Jvm.Cond := xw_Y zt_z132 0
noncomputable def zt_wy133 : List Jvm.Cond := xw_Y zt_z133 0
noncomputable def zt_wy134 : List Jvm.Cond := xw_Y zt_z134 0
noncomputable def zt_wy135 : List Jvm.Cond := xw_Y zt_z135 0
noncomputable def zt_wy136 : List Jvm.Cond := xw_Y zt_z136 0
noncomputable def zt_wy137 : List Jvm.Cond := xw_Y zt_z137 0
noncomputable def zt_wy138 : List Jvm.Cond := xw_Y zt_z138 0
noncomputable def zt_wy139 : List Jvm.Cond := xw_Y zt_z139 0
noncomputable def zt_wy140 : List Jvm.Cond := xw_Y zt_z140 0
noncomputable def zt_wy141 : List Jvm.Cond := xw_Y zt_z141 0
noncomputable def zt_wy142 : List Jvm.Cond := xw_Y zt_z142 0
noncomputable def zt_wy143 : List Jvm.Cond := xw_Y zt_z143 0
noncomputable def zt_wy144 : List Jvm.Cond := xw_Y zt_z144 0
noncomputable def zt_wy145 : List Jvm.Cond := xw_Y zt_z145 0
noncomputable def zt_wy146 : List Jvm.Cond := xw_Y zt_z146 0
noncomputable def zt_wy147 : List Jvm.Cond := xw_Y zt_z147 0
noncomputable def zt_wy148 : List Jvm.Cond := xw_Y zt_z148 0
noncomputable def zt_wy149 : List Jvm.Cond := xw_Y zt_z149 0
noncomputable def zt_wy150 : List Jvm.Cond := xw_Y zt_z150 0
noncomputable def zt_wy151 : List Jvm.Cond := xw_Y zt_z151 0
noncomputable def zt_wy152 : List Jvm.Cond := xw_Y zt_z152 0
noncomputable def zt_wy153 : List Jvm.Cond := xw_Y zt_z153 0
noncomputable def zt_wy154 : List Jvm.Cond := xw_Y zt_z154 0
noncomputable def zt_wy155 : List Jvm.Cond := xw_Y zt_z155 0
noncomputable def zt_wy156 : List Jvm.Cond := xw_Y zt_z156 0
noncomputable def zt_wy157 : List Jvm.Cond := xw_Y zt_z157 0
noncomputable def zt_wy158 : List Jvm.Cond := xw_Y zt_z158 0
noncomputable def zt_wy159 : List Jvm.Cond := xw_Y zt_z159 0
noncomputable def zt_wy160 : List Jvm.Cond := xw_Y zt_z160 0
noncomputable def zt_wy161 : List Jvm.Cond := xw_Y zt_z161 0
noncomputable def zt_wy162 : List Jvm.Cond := xw_Y zt_z162 0
noncomputable def zt_wy163 : List Jvm.Cond := xw_Y zt_z163 0
noncomputable def zt_wy164 : List Jvm.Cond := xw_Y zt_z164 0
noncomputable def zt_wy165 : List Jvm.Cond := xw_Y zt_z165 0
noncomputable def zt_wy166 : List Jvm.Cond := xw_Y zt_z166 0
noncomputable def zt_wy167 : List Jvm.Cond := xw_Y zt_z167 0
noncomputable def zt_wy168 : List Jvm.Cond := xw_Y zt_z168 0
noncomputable def zt_wy169 : List Jvm.Cond := xw_Y zt_z169 0
noncomputable def zt_wy170 : List Jvm.Cond := xw_Y zt_z170 0
noncomputable def zt_wx : List Jvm.Cond := [Jvm.Cond.arrayClass .int, Jvm.Cond.arrayClass .long, Jvm.Cond.arrayClass .boolean, Jvm.Cond.instanceMethod xk_y, Jvm.Cond.selects "java/lang/String" xk_y xk_y, Jvm.Cond.initialized "java/lang/String", Jvm.Cond.code xk_y prog_22_method_56_code 2 (some .char), Jvm.Cond.instanceMethod Lib.objectInit, Jvm.Cond.code Lib.objectInit ⟨#[0xb1]⟩ 1 none, Jvm.Cond.native arraycopyName, Jvm.Cond.static arraycopyName, Jvm.Cond.initialized "java/lang/System"]
noncomputable def zt_wcd : List Jvm.Cond := [Jvm.Cond.code zt_z0.1 zt_z0.2.1 zt_m0.2.1.2.1 zt_z0.2.2, Jvm.Cond.code zt_z1.1 zt_z1.2.1 zt_m1.2.1.2.1 zt_z1.2.2, Jvm.Cond.code zt_z2.1 zt_z2.2.1 zt_m2.2.1.2.1 zt_z2.2.2, Jvm.Cond.code zt_z3.1 zt_z3.2.1 zt_m3.2.1.2.1 zt_z3.2.2, Jvm.Cond.code zt_z4.1 zt_z4.2.1 zt_m4.2.1.2.1 zt_z4.2.2, Jvm.Cond.code zt_z5.1 zt_z5.2.1 zt_m5.2.1.2.1 zt_z5.2.2, Jvm.Cond.code zt_z6.1 zt_z6.2.1 zt_m6.2.1.2.1 zt_z6.2.2, Jvm.Cond.code zt_z7.1 zt_z7.2.1 zt_m7.2.1.2.1 zt_z7.2.2, Jvm.Cond.code zt_z8.1 zt_z8.2.1 zt_m8.2.1.2.1 zt_z8.2.2, Jvm.Cond.code zt_z9.1 zt_z9.2.1 zt_m9.2.1.2.1 zt_z9.2.2, Jvm.Cond.code zt_z10.1 zt_z10.2.1 zt_m10.2.1.2.1 zt_z10.2.2, Jvm.Cond.code zt_z11.1 zt_z11.2.1 zt_m11.2.1.2.1 zt_z11.2.2, Jvm.Cond.code zt_z12.1 zt_z12.2.1 zt_m12.2.1.2.1 zt_z12.2.2, Jvm.Cond.code zt_z13.1 zt_z13.2.1 zt_m13.2.1.2.1 zt_z13.2.2, Jvm.Cond.code zt_z14.1 zt_z14.2.1 zt_m14.2.1.2.1 zt_z14.2.2, Jvm.Cond.code zt_z15.1 zt_z15.2.1 zt_m15.2.1.2.1 zt_z15.2.2, Jvm.Cond.code zt_z16.1 zt_z16.2.1 zt_m16.2.1.2.1 zt_z16.2.2, Jvm.Cond.code zt_z17.1 zt_z17.2.1 zt_m17.2.1.2.1 zt_z17.2.2, Jvm.Cond.code zt_z18.1 zt_z18.2.1 zt_m18.2.1.2.1 zt_z18.2.2, Jvm.Cond.code zt_z19.1 zt_z19.2.1 zt_m19.2.1.2.1 zt_z19.2.2, Jvm.Cond.code zt_z20.1 zt_z20.2.1 zt_m20.2.1.2.1 zt_z20.2.2, Jvm.Cond.code zt_z21.1 zt_z21.2.1 zt_m21.2.1.2.1 zt_z21.2.2, Jvm.Cond.code zt_z22.1 zt_z22.2.1 zt_m22.2.1.2.1 zt_z22.2.2, Jvm.Cond.code zt_z23.1 zt_z23.2.1 zt_m23.2.1.2.1 zt_z23.2.2, Jvm.Cond.code zt_z24.1 zt_z24.2.1 zt_m24.2.1.2.1 zt_z24.2.2, Jvm.Cond.code zt_z25.1 zt_z25.2.1 zt_m25.2.1.2.1 zt_z25.2.2, Jvm.Cond.code zt_z26.1 zt_z26.2.1 zt_m26.2.1.2.1 zt_z26.2.2, Jvm.Cond.code zt_z27.1 zt_z27.2.1 zt_m27.2.1.2.1 zt_z27.2.2, Jvm.Cond.code zt_z28.1 zt_z28.2.1 zt_m28.2.1.2.1 zt_z28.2.2, Jvm.Cond.code zt_z29.1 zt_z29.2.1 zt_m29.2.1.2.1 zt_z29.2.2, Jvm.Cond.code zt_z30.1 zt_z30.2.1 zt_m30.2.1.2.1 zt_z30.2.2, Jvm.Cond.code zt_z31.1 zt_z31.2.1 zt_m31.2.1.2.1 zt_z31.2.2, Jvm.Cond.code zt_z32.1 zt_z32.2.1 zt_m32.2.1.2.1 zt_z32.2.2, Jvm.Cond.code zt_z33.1 zt_z33.2.1 zt_m33.2.1.2.1 zt_z33.2.2, Jvm.Cond.code zt_z34.1 zt_z34.2.1 zt_m34.2.1.2.1 zt_z34.2.2, Jvm.Cond.code zt_z35.1 zt_z35.2.1 zt_m35.2.1.2.1 zt_z35.2.2, Jvm.Cond.code zt_z36.1 zt_z36.2.1 zt_m36.2.1.2.1 zt_z36.2.2, Jvm.Cond.code zt_z37.1 zt_z37.2.1 zt_m37.2.1.2.1 zt_z37.2.2, Jvm.Cond.code zt_z38.1 zt_z38.2.1 zt_m38.2.1.2.1 zt_z38.2.2, Jvm.Cond.code zt_z39.1 zt_z39.2.1 zt_m39.2.1.2.1 zt_z39.2.2, Jvm.Cond.code zt_z40.1 zt_z40.2.1 zt_m40.2.1.2.1 zt_z40.2.2, Jvm.Cond.code zt_z41.1 zt_z41.2.1 zt_m41.2.1.2.1 zt_z41.2.2, Jvm.Cond.code zt_z42.1 zt_z42.2.1 zt_m42.2.1.2.1 zt_z42.2.2, Jvm.Cond.code zt_z43.1 zt_z43.2.1 zt_m43.2.1.2.1 zt_z43.2.2, Jvm.Cond.code zt_z44.1 zt_z44.2.1 zt_m44.2.1.2.1 zt_z44.2.2, Jvm.Cond.code zt_z45.1 zt_z45.2.1 zt_m45.2.1.2.1 zt_z45.2.2, Jvm.Cond.code zt_z46.1 zt_z46.2.1 zt_m46.2.1.2.1 zt_z46.2.2, Jvm.Cond.code zt_z47.1 zt_z47.2.1 zt_m47.2.1.2.1 zt_z47.2.2, Jvm.Cond.code zt_z48.1 zt_z48.2.1 zt_m48.2.1.2.1 zt_z48.2.2, Jvm.Cond.code zt_z49.1 zt_z49.2.1 zt_m49.2.1.2.1 zt_z49.2.2, Jvm.Cond.code zt_z50.1 zt_z50.2.1 zt_m50.2.1.2.1 zt_z50.2.2, Jvm.Cond.code zt_z51.1 zt_z51.2.1 zt_m51.2.1.2.1 zt_z51.2.2, Jvm.Cond.code zt_z52.1 zt_z52.2.1 zt_m52.2.1.2.1 zt_z52.2.2, Jvm.Cond.code zt_z53.1 zt_z53.2.1 zt_m53.2.1.2.1 zt_z53.2.2, Jvm.Cond.code zt_z54.1 zt_z54.2.1 zt_m54.2.1.2.1 zt_z54.2.2, Jvm.Cond.code zt_z55.1 zt_z55.2.1 zt_m55.2.1.2.1 zt_z55.2.2, Jvm.Cond.code zt_z56.1 zt_z56.2.1 zt_m56.2.1.2.1 zt_z56.2.2, Jvm.Cond.code zt_z57.1 zt_z57.2.1 zt_m57.2.1.2.1 zt_z57.2.2, Jvm.Cond.code zt_z58.1 zt_z58.2.1 zt_m58.2.1.2.1 zt_z58.2.2, Jvm.Cond.code zt_z59.1 zt_z59.2.1 zt_m59.2.1.2.1 zt_z59.2.2, Jvm.Cond.code zt_z60.1 zt_z60.2.1 zt_m60.2.1.2.1 zt_z60.2.2, Jvm.Cond.code zt_z61.1 zt_z61.2.1 zt_m61.2.1.2.1 zt_z61.2.2, Jvm.Cond.code zt_z62.1 zt_z62.2.1 zt_m62.2.1.2.1 zt_z62.2.2, Jvm.Cond.code zt_z63.1 zt_z63.2.1 zt_m63.2.1.2.1 zt_z63.2.2, Jvm.Cond.code zt_z64.1 zt_z64.2.1 zt_m64.2.1.2.1 zt_z64.2.2, Jvm.Cond.code zt_z65.1 zt_z65.2.1 zt_m65.2.1.2.1 zt_z65.2.2, Jvm.Cond.code zt_z66.1 zt_z66.2.1 zt_m66.2.1.2.1 zt_z66.2.2, Jvm.Cond.code zt_z67.1 zt_z67.2.1 zt_m67.2.1.2.1 zt_z67.2.2, Jvm.Cond.code zt_z68.1 zt_z68.2.1 zt_m68.2.1.2.1 zt_z68.2.2, Jvm.Cond.code zt_z69.1 zt_z69.2.1 zt_m69.2.1.2.1 zt_z69.2.2, Jvm.Cond.code zt_z70.1 zt_z70.2.1 zt_m70.2.1.2.1 zt_z70.2.2, Jvm.Cond.code zt_z71.1 zt_z71.2.1 zt_m71.2.1.2.1 zt_z71.2.2, Jvm.Cond.code zt_z72.1 zt_z72.2.1 zt_m72.2.1.2.1 zt_z72.2.2, Jvm.Cond.code zt_z73.1 zt_z73.2.1 zt_m73.2.1.2.1 zt_z73.2.2, Jvm.Cond.code zt_z74.1 zt_z74.2.1 zt_m74.2.1.2.1 zt_z74.2.2, Jvm.Cond.code zt_z75.1 zt_z75.2.1 zt_m75.2.1.2.1 zt_z75.2.2, Jvm.Cond.code zt_z76.1 zt_z76.2.1 zt_m76.2.1.2.1 zt_z76.2.2, Jvm.Cond.code zt_z77.1 zt_z77.2.1 zt_m77.2.1.2.1 zt_z77.2.2, Jvm.Cond.code zt_z78.1 zt_z78.2.1 zt_m78.2.1.2.1 zt_z78.2.2, Jvm.Cond.code zt_z79.1 zt_z79.2.1 zt_m79.2.1.2.1 zt_z79.2.2, Jvm.Cond.code zt_z80.1 zt_z80.2.1 zt_m80.2.1.2.1 zt_z80.2.2, Jvm.Cond.code zt_z81.1 zt_z81.2.1 zt_m81.2.1.2.1 zt_z81.2.2, Jvm.Cond.code zt_z82.1 zt_z82.2.1 zt_m82.2.1.2.1 zt_z82.2.2, Jvm.Cond.code zt_z83.1 zt_z83.2.1 zt_m83.2.1.2.1 zt_z83.2.2, Jvm.Cond.code zt_z84.1 zt_z84.2.1 zt_m84.2.1.2.1 zt_z84.2.2, Jvm.Cond.code zt_z85.1 zt_z85.2.1 zt_m85.2.1.2.1 zt_z85.2.2, Jvm.Cond.code zt_z86.1 zt_z86.2.1 zt_m86.2.1.2.1 zt_z86.2.2, Jvm.Cond.code zt_z87.1 zt_z87.2.1 zt_m87.2.1.2.1 zt_z87.2.2, Jvm.Cond.code zt_z88.1 zt_z88.2.1 zt_m88.2.1.2.1 zt_z88.2.2, Jvm.Cond.code zt_z89.1 zt_z89.2.1 zt_m89.2.1.2.1 zt_z89.2.2, Jvm.Cond.code zt_z90.1 zt_z90.2.1 zt_m90.2.1.2.1 zt_z90.2.2, Jvm.Cond.code zt_z91.1 zt_z91.2.1 zt_m91.2.1.2.1 zt_z91.2.2, Jvm.Cond.code zt_z92.1 zt_z92.2.1 zt_m92.2.1.2.1 zt_z92.2.2, Jvm.Cond.code zt_z93.1 zt_z93.2.1 zt_m93.2.1.2.1 zt_z93.2.2, Jvm.Cond.code zt_z94.1 zt_z94.2.1 zt_m94.2.1.2.1 zt_z94.2.2, Jvm.Cond.code zt_z95.1 zt_z95.2.1 zt_m95.2.1.2.1 zt_z95.2.2, Jvm.Cond.code zt_z96.1 zt_z96.2.1 zt_m96.2.1.2.1 zt_z96.2.2, Jvm.Cond.code zt_z97.1 zt_z97.2.1 zt_m97.2.1.2.1 zt_z97.2.2, Jvm.Cond.code zt_z98.1 zt_z98.2.1 zt_m98.2.1.2.1 zt_z98.2.2, Jvm.Cond.code zt_z99.1 zt_z99.2.1 zt_m99.2.1.2.1 zt_z99.2.2, Jvm.Cond.code zt_z100.1 zt_z100.2.1 zt_m100.2.1.2.1 zt_z100.2.2, Jvm.Cond.code zt_z101.1 zt_z101.2.1 zt_m101.2.1.2.1 zt_z101.2.2, Jvm.Cond.code zt_z102.1 zt_z102.2.1 zt_m102.2.1.2.1 zt_z102.2.2, Jvm.Cond.code zt_z103.1 zt_z103.2.1 zt_m103.2.1.2.1 zt_z103.2.2, Jvm.Cond.code zt_z104.1 zt_z104.2.1 zt_m104.2.1.2.1 zt_z104.2.2, Jvm.Cond.code zt_z105.1 zt_z105.2.1 zt_m105.2.1.2.1 zt_z105.2.2, Jvm.Cond.code zt_z106.1 zt_z106.2.1 zt_m106.2.1.2.1 zt_z106.2.2, Jvm.Cond.code zt_z107.1 zt_z107.2.1 zt_m107.2.1.2.1 zt_z107.2.2, Jvm.Cond.code zt_z108.1 zt_z108.2.1 zt_m108.2.1.2.1 zt_z108.2.2, Jvm.Cond.code zt_z109.1 zt_z109.2.1 zt_m109.2.1.2.1 zt_z109.2.2, Jvm.Cond.code zt_z110.1 zt_z110.2.1 zt_m110.2.1.2.1 zt_z110.2.2, Jvm.Cond.code zt_z111.1 zt_z111.2.1 zt_m111.2.1.2.1 zt_z111.2.2, Jvm.Cond.code zt_z112.1 zt_z112.2.1 zt_m112.2.1.2.1 zt_z112.2.2, Jvm.Cond.code zt_z113.1 zt_z113.2.1 zt_m113.2.1.2.1 zt_z113.2.2, Jvm.Cond.code zt_z114.1 zt_z114.2.1 zt_m114.2.1.2.1 zt_z114.2.2, Jvm.Cond.code zt_z115.1 zt_z115.2.1 zt_m115.2.1.2.1 zt_z115.2.2, Jvm.Cond.code zt_z116.1 zt_z116.2.1 zt_m116.2.1.2.1 zt_z116.2.2, Jvm.Cond.code zt_z117.1 zt_z117.2.1 zt_m117.2.1.2.1 zt_z117.2.2, Jvm.Cond.code zt_z118.1 zt_z118.2.1 zt_m118.2.1.2.1 zt_z118.2.2, Jvm.Cond.code zt_z119.1 zt_z119.2.1 zt_m119.2.1.2.1 zt_z119.2.2, Jvm.Cond.code zt_z120.1 zt_z120.2.1 zt_m120.2.1.2.1 zt_z120.2.2, Jvm.Cond.code zt_z121.1 zt_z121.2.1 zt_m121.2.1.2.1 zt_z121.2.2, Jvm.Cond.code zt_z122.1 zt_z122.2.1 zt_m122.2.1.2.1 zt_z122.2.2, Jvm.Cond.code zt_z123.1 zt_z123.2.1 zt_m123.2.1.2.1 zt_z123.2.2, Jvm.Cond.code zt_z124.1 zt_z124.2.1 zt_m124.2.1.2.1 zt_z124.2.2, Jvm.Cond.code zt_z125.1 zt_z125.2.1 zt_m125.2.1.2.1 zt_z125.2.2, Jvm.Cond.code zt_z126.1 zt_z126.2.1 zt_m126.2.1.2.1 zt_z126.2.2, Jvm.Cond.code zt_z127.1 zt_z127.2.1 zt_m127.2.1.2.1 zt_z127.2.2, Jvm.Cond.code zt_z128.1 zt_z128.2.1 zt_m128.2.1.2.1 zt_z128.2.2, Jvm.Cond.code zt_z129.1 zt_z129.2.1 zt_m129.2.1.2.1 zt_z129.2.2, Jvm.Cond.code zt_z130.1 zt_z130.2.1 zt_m130.2.1.2.1 zt_z130.2.2, Jvm.Cond.code zt_z131.1 zt_z131.2.1 zt_m131.2.1.2.1 zt_z131.2.2, Jvm.Cond.code zt_z132.1 zt_z132.2.1 zt_m132.2.1.2.1 zt_z132.2.2, Jvm.Cond.code zt_z133.1 zt_z133.2.1 zt_m133.2.1.2.1 zt_z133.2.2, Jvm.Cond.code zt_z134.1 zt_z134.2.1 zt_m134.2.1.2.1 zt_z134.2.2, Jvm.Cond.code zt_z135.1 zt_z135.2.1 zt_m135.2.1.2.1 zt_z135.2.2, Jvm.Cond.code zt_z136.1 zt_z136.2.1 zt_m136.2.1.2.1 zt_z136.2.2, Jvm.Cond.code zt_z137.1 zt_z137.2.1 zt_m137.2.1.2.1 zt_z137.2.2, Jvm.Cond.code zt_z138.1 zt_z138.2.1 zt_m138.2.1.2.1 zt_z138.2.2, Jvm.Cond.code zt_z139.1 zt_z139.2.1 zt_m139.2.1.2.1 zt_z139.2.2, Jvm.Cond.code zt_z140.1 zt_z140.2.1 zt_m140.2.1.2.1 zt_z140.2.2, Jvm.Cond.code zt_z141.1 zt_z141.2.1 zt_m141.2.1.2.1 zt_z141.2.2, Jvm.Cond.code zt_z142.1 zt_z142.2.1 zt_m142.2.1.2.1 zt_z142.2.2, Jvm.Cond.code zt_z143.1 zt_z143.2.1 zt_m143.2.1.2.1 zt_z143.2.2, Jvm.Cond.code zt_z144.1 zt_z144.2.1 zt_m144.2.1.2.1 zt_z144.2.2, Jvm.Cond.code zt_z145.1 zt_z145.2.1 zt_m145.2.1.2.1 zt_z145.2.2, Jvm.Cond.code zt_z146.1 zt_z146.2.1 zt_m146.2.1.2.1 zt_z146.2.2, Jvm.Cond.code zt_z147.1 zt_z147.2.1 zt_m147.2.1.2.1 zt_z147.2.2, Jvm.Cond.code zt_z148.1 zt_z148.2.1 zt_m148.2.1.2.1 zt_z148.2.2, Jvm.Cond.code zt_z149.1 zt_z149.2.1 zt_m149.2.1.2.1 zt_z149.2.2, Jvm.Cond.code zt_z150.1 zt_z150.2.1 zt_m150.2.1.2.1 zt_z150.2.2, Jvm.Cond.code zt_z151.1 zt_z151.2.1 zt_m151.2.1.2.1 zt_z151.2.2, Jvm.Cond.code zt_z152.1 zt_z152.2.1 zt_m152.2.1.2.1 zt_z152.2.2, Jvm.Cond.code zt_z153.1 zt_z153.2.1 zt_m153.2.1.2.1 zt_z153.2.2, Jvm.Cond.code zt_z154.1 zt_z154.2.1 zt_m154.2.1.2.1 zt_z154.2.2, Jvm.Cond.code zt_z155.1 zt_z155.2.1 zt_m155.2.1.2.1 zt_z155.2.2, Jvm.Cond.code zt_z156.1 zt_z156.2.1 zt_m156.2.1.2.1 zt_z156.2.2, Jvm.Cond.code zt_z157.1 zt_z157.2.1 zt_m157.2.1.2.1 zt_z157.2.2, Jvm.Cond.code zt_z158.1 zt_z158.2.1 zt_m158.2.1.2.1 zt_z158.2.2, Jvm.Cond.code zt_z159.1 zt_z159.2.1 zt_m159.2.1.2.1 zt_z159.2.2, Jvm.Cond.code zt_z160.1 zt_z160.2.1 zt_m160.2.1.2.1 zt_z160.2.2, Jvm.Cond.code zt_z161.1 zt_z161.2.1 zt_m161.2.1.2.1 zt_z161.2.2, Jvm.Cond.code zt_z162.1 zt_z162.2.1 zt_m162.2.1.2.1 zt_z162.2.2, Jvm.Cond.code zt_z163.1 zt_z163.2.1 zt_m163.2.1.2.1 zt_z163.2.2, Jvm.Cond.code zt_z164.1 zt_z164.2.1 zt_m164.2.1.2.1 zt_z164.2.2, Jvm.Cond.code zt_z165.1 zt_z165.2.1 zt_m165.2.1.2.1 zt_z165.2.2, Jvm.Cond.code zt_z166.1 zt_z166.2.1 zt_m166.2.1.2.1 zt_z166.2.2, Jvm.Cond.code zt_z167.1 zt_z167.2.1 zt_m167.2.1.2.1 zt_z167.2.2, Jvm.Cond.code zt_z168.1 zt_z168.2.1 zt_m168.2.1.2.1 zt_z168.2.2, Jvm.Cond.code zt_z169.1 zt_z169.2.1 zt_m169.2.1.2.1 zt_z169.2.2, Jvm.Cond.code zt_z170.1 zt_z170.2.1 zt_m170.2.1.2.1 zt_z170.2.2]
noncomputable def zt_tbs : List (List Jvm.Cond) := [zt_wc0, zt_wc1, zt_wc2, zt_wc3, zt_wc4, zt_wc5, zt_wc6, zt_wc7, zt_wc8, zt_wc9, zt_wc10, zt_wc11, zt_wc12, zt_wk0, zt_wk1, zt_wk2, zt_wk3, zt_wk4, zt_wk5, zt_wk6, zt_wk7, zt_wk8, zt_wk9, zt_wk10, zt_wk11, zt_wk12, zt_wkL, zt_wy0, zt_wy1, zt_wy2, zt_wy3, zt_wy4, zt_wy5, zt_wy6, zt_wy7, zt_wy8, zt_wy9, zt_wy10, zt_wy11, zt_wy12, zt_wy13, zt_wy14, zt_wy15, zt_wy16, zt_wy17, zt_wy18, zt_wy19, zt_wy20, zt_wy21, zt_wy22, zt_wy23, zt_wy24, zt_wy25, zt_wy26, zt_wy27, zt_wy28, zt_wy29, zt_wy30, zt_wy31, zt_wy32, zt_wy33, zt_wy34, zt_wy35, zt_wy36, zt_wy37, zt_wy38, zt_wy39, zt_wy40, zt_wy41, zt_wy42, zt_wy43, zt_wy44, zt_wy45, zt_wy46, zt_wy47, zt_wy48, zt_wy49, zt_wy50, zt_wy51, zt_wy52, zt_wy53, zt_wy54, zt_wy55, zt_wy56, zt_wy57, zt_wy58, zt_wy59, zt_wy60, zt_wy61, zt_wy62, zt_wy63, zt_wy64, zt_wy65, zt_wy66, zt_wy67, zt_wy68, zt_wy69, zt_wy70, zt_wy71, zt_wy72, zt_wy73, zt_wy74, zt_wy75, zt_wy76, zt_wy77, zt_wy78, zt_wy79, zt_wy80, zt_wy81, zt_wy82, zt_wy83, zt_wy84, zt_wy85, zt_wy86, zt_wy87, zt_wy88, zt_wy89, zt_wy90, zt_wy91, zt_wy92, zt_wy93, zt_wy94, zt_wy95, zt_wy96, zt_wy97, zt_wy98, zt_wy99, zt_wy100, zt_wy101, zt_wy102, zt_wy103, zt_wy104, zt_wy105, zt_wy106, zt_wy107, zt_wy108, zt_wy109, zt_wy110, zt_wy111, zt_wy112, zt_wy113, zt_wy114, zt_wy115, zt_wy116, zt_wy117, zt_wy118, zt_wy119, zt_wy120, zt_wy121, zt_wy122, zt_wy123, zt_wy124, zt_wy125, zt_wy126, zt_wy127, zt_wy128, zt_wy129, zt_wy130, zt_wy131, zt_wy132, zt_wy133, zt_wy134, zt_wy135, zt_wy136, zt_wy137, zt_wy138, zt_wy139, zt_wy140, zt_wy141, zt_wy142, zt_wy143, zt_wy144, zt_wy145, zt_wy146, zt_wy147, zt_wy148, zt_wy149, zt_wy150, zt_wy151, zt_wy152, zt_wy153, zt_wy154, zt_wy155, zt_wy156, zt_wy157, zt_wy158, zt_wy159, zt_wy160, zt_wy161, zt_wy162, zt_wy163, zt_wy164, zt_wy165, zt_wy166, zt_wy167, zt_wy168, zt_wy169, zt_wy170, zt_wx, zt_wcd]
noncomputable def zt_tb : List Jvm.Cond := zt_tbs.flatten
end
section
set_option maxRecDepth 100000 in
theorem zt_wc0_ok : xw_in zt_wc0 [(1, 223), (1, 225), (1, 227), (1, 229), (1, 231), (1, 233), (1, 235), (1, 237), (1, 184), (1, 7)] = true := by decide +kernel
set_option maxRecDepth 100000 in
theorem zt_wc1_ok : xw_in zt_wc1 [(1, 174), (1, 176), (1, 178), (1, 180), (1, 150), (1, 6)] = true := by decide +kernel
set_option maxRecDepth 100000 in
theorem zt_wc2_ok : xw_in zt_wc2 [(2, 158), (2, 160), (2, 162), (2, 164), (2, 166), (2, 168), (2, 170), (2, 172), (2, 145), (1, 13)] = true := by decide +kernel
set_option maxRecDepth 100000 in
theorem zt_wc3_ok : xw_in zt_wc3 [(1, 64), (1, 66), (1, 68), (1, 70), (1, 72), (1, 74), (1, 76), (1, 46), (1, 4)] = true := by decide +kernel
set_option maxRecDepth 100000 in
theorem zt_wc4_ok : xw_in zt_wc4 [(2, 44), (2, 46), (2, 48), (2, 50), (2, 52), (2, 54), (2, 56), (2, 58), (2, 60), (2, 62), (2, 64), (2, 66), (1, 141), (1, 5)] = true := by decide +kernel
set_option maxRecDepth 100000 in
theorem zt_wc5_ok : xw_in zt_wc5 [(1, 113), (1, 115), (1, 117), (1, 119), (1, 121), (1, 123), (1, 125), (1, 127), (1, 129), (1, 131), (1, 133), (1, 135), (1, 137), (1, 40), (1, 3)] = true := by decide +kernel
set_option maxRecDepth 100000 in
theorem zt_wc6_ok : xw_in zt_wc6 [(2, 190), (2, 192), (2, 194), (2, 196), (2, 198), (2, 200), (2, 202), (2, 204), (2, 206), (2, 208), (2, 210), (1, 34), (1, 2)] = true := by decide +kernel
set_option maxRecDepth 100000 in
theorem zt_wc7_ok : xw_in zt_wc7 [(2, 233), (2, 235), (2, 237), (2, 239), (3, 1), (3, 3), (3, 5), (3, 7), (2, 218), (1, 14)] = true := by decide +kernel
set_option maxRecDepth 100000 in
theorem zt_wc8_ok : xw_in zt_wc8 [(2, 128), (2, 130), (2, 132), (2, 134), (2, 136), (2, 138), (2, 140), (2, 70), (1, 8)] = true := by decide +kernel
set_option maxRecDepth 100000 in
theorem zt_wc9_ok : xw_in zt_wc9 [(3, 64), (3, 66), (3, 68), (3, 70), (3, 72), (3, 74), (3, 76), (3, 78), (3, 80), (3, 82), (3, 84), (3, 86), (3, 88), (3, 90), (3, 92), (3, 94), (3, 96), (3, 98), (3, 100), (3, 102), (3, 34), (1, 16)] = true := by decide +kernel
set_option maxRecDepth 100000 in
theorem zt_wc10_ok : xw_in zt_wc10 [(3, 22), (3, 24), (3, 26), (3, 28), (3, 30), (3, 11), (1, 15)] = true := by decide +kernel
set_option maxRecDepth 100000 in
theorem zt_wc11_ok : xw_in zt_wc11 [(4, 124), (4, 126), (4, 128), (4, 130), (4, 132), (4, 134), (4, 136), (4, 138), (4, 140), (4, 142), (4, 144), (4, 146), (4, 148), (1, 26), (1, 1)] = true := by decide +kernel
set_option maxRecDepth 100000 in
theorem zt_wc12_ok : xw_in zt_wc12 [(7, 188), (7, 190), (7, 192), (7, 194), (7, 196), (7, 198), (7, 200), (7, 202), (7, 204), (7, 206), (7, 208), (7, 210), (7, 212), (7, 214), (7, 216), (7, 218), (7, 220), (7, 222), (7, 224), (7, 226), (7, 228), (7, 230), (7, 232), (7, 234), (7, 236), (7, 238), (8, 0), (8, 2), (8, 4), (8, 6), (8, 8), (8, 10), (8, 12), (8, 14), (8, 16), (8, 18), (8, 20), (8, 22), (8, 24), (8, 26), (8, 28), (8, 30), (8, 32), (8, 34), (8, 36), (8, 38), (8, 40), (8, 42), (8, 44), (8, 46), (8, 48), (8, 50), (8, 52), (8, 54), (8, 56), (8, 58), (8, 60), (8, 62), (8, 64), (8, 66), (8, 68), (8, 70), (8, 72), (8, 74), (8, 76), (8, 78), (8, 80), (8, 82), (8, 84), (8, 86), (8, 88), (8, 90), (8, 92), (8, 94), (8, 96), (8, 98), (8, 100), (8, 102), (8, 104), (8, 106), (8, 108), (8, 110), (8, 112), (8, 114), (8, 116), (8, 118), (8, 120), (8, 122), (8, 124), (8, 126), (8, 128), (7, 32), (1, 19)] = true := by decide +kernel
set_option maxRecDepth 100000 in
theorem zt_wk0_ok : xw_in zt_wk0 [(1, 221), (1, 188)] = true := by decide +kernel
set_option maxRecDepth 100000 in
theorem zt_wk1_ok : xw_in zt_wk1 [(1, 154)] = true := by decide +kernel
set_option maxRecDepth 100000 in
theorem zt_wk2_ok : xw_in zt_wk2 [(2, 152), (2, 155), (2, 150), (2, 151), (2, 149)] = true := by decide +kernel
set_option maxRecDepth 100000 in
theorem zt_wk3_ok : xw_in zt_wk3 [(1, 51), (1, 52), (1, 53), (1, 56), (1, 58), (1, 59), (1, 62), (4, 73), (4, 77), (4, 81), (1, 50), (4, 41)] = true := by decide +kernel
set_option maxRecDepth 100000 in
theorem zt_wk4_ok : xw_in zt_wk4 [(2, 2), (2, 10), (2, 22), (2, 24), (2, 28), (2, 0), (2, 5), (2, 17), (2, 29), (2, 33), (2, 36), (2, 41), (1, 190), (1, 158), (1, 162), (1, 167), (1, 172), (1, 209), (1, 218), (1, 89), (1, 95), (1, 146), (1, 148), (1, 146), (1, 148), (3, 125), (4, 229), (1, 145), (5, 108), (4, 227), (4, 228), (5, 206)] = true := by decide +kernel
set_option maxRecDepth 100000 in
theorem zt_wk5_ok : xw_in zt_wk5 [(1, 99), (1, 100), (1, 102), (1, 107), (1, 110), (1, 111), (1, 112), (1, 91), (1, 94), (1, 97), (1, 81), (1, 84), (1, 87), (2, 26), (2, 20), (2, 16), (1, 202), (1, 45), (4, 82), (6, 29), (1, 44), (3, 113), (3, 117), (4, 37), (4, 44), (4, 69), (4, 65), (4, 61), (6, 26)] = true := by decide +kernel
set_option maxRecDepth 100000 in
theorem zt_wk6_ok : xw_in zt_wk6 [(2, 177), (2, 179), (2, 175), (1, 108), (2, 176), (2, 181), (2, 182), (2, 183), (2, 186), (2, 188), (2, 120), (1, 98), (2, 34), (1, 39), (1, 140), (2, 69), (2, 144), (1, 38), (1, 142), (2, 71), (2, 146), (3, 109), (3, 121), (3, 126), (3, 130)] = true := by decide +kernel
set_option maxRecDepth 100000 in
theorem zt_wk7_ok : xw_in zt_wk7 [(2, 223), (2, 224), (2, 225), (2, 226), (2, 227), (2, 228), (2, 231), (2, 229), (2, 222)] = true := by decide +kernel
set_option maxRecDepth 100000 in
theorem zt_wk8_ok : xw_in zt_wk8 [(2, 117), (2, 116), (2, 118), (2, 119), (2, 121), (2, 123), (2, 127), (2, 74), (2, 76)] = true := by decide +kernel
end
section
set_option maxRecDepth 100000 in
theorem zt_wk9_ok : xw_in zt_wk9 [(3, 46), (3, 48), (3, 49), (3, 50), (3, 51), (3, 52), (3, 53), (3, 58), (3, 60), (3, 62), (2, 1), (3, 41), (3, 42), (3, 43), (3, 44), (3, 45), (2, 11), (2, 25), (1, 88), (2, 18), (1, 208), (2, 42), (1, 199), (3, 61), (2, 39), (1, 206), (3, 39), (5, 154), (3, 38), (3, 40), (5, 137), (5, 153), (6, 1), (6, 5), (6, 9), (5, 220), (5, 232), (6, 136)] = true := by decide +kernel
set_option maxRecDepth 100000 in
theorem zt_wk10_ok : xw_in zt_wk10 [(3, 16), (3, 17), (3, 18), (3, 19), (3, 20), (2, 7), (2, 13), (1, 194), (2, 37), (3, 15), (5, 27), (6, 148)] = true := by decide +kernel
set_option maxRecDepth 100000 in
theorem zt_wk11_ok : xw_in zt_wk11 [(4, 111), (4, 114), (4, 115), (4, 116), (4, 117), (4, 118), (4, 119), (4, 121), (4, 122), (4, 123), (4, 112), (2, 187), (4, 113), (2, 189), (2, 178), (2, 180), (4, 120), (2, 4), (1, 159), (1, 163), (1, 168), (1, 173), (2, 14), (1, 196), (1, 219), (1, 212), (2, 9), (2, 40), (2, 32), (2, 27), (2, 21), (1, 90), (3, 57), (3, 59), (3, 63), (2, 230), (2, 232), (3, 21), (1, 83), (1, 86), (1, 109), (1, 61), (1, 33), (2, 213), (2, 215), (2, 217), (3, 10), (3, 33), (5, 132), (4, 239), (6, 21), (1, 30), (1, 35), (2, 216), (3, 35), (3, 105), (4, 29), (4, 155), (4, 33), (4, 45), (4, 57), (4, 103), (4, 107), (4, 171), (4, 234), (4, 176), (4, 184), (4, 223), (4, 238), (5, 16), (5, 19), (5, 22), (5, 23), (5, 55), (5, 63), (5, 195), (5, 216), (5, 228), (5, 237), (6, 22), (6, 34), (6, 51), (6, 79), (6, 132), (6, 144), (6, 161), (6, 165), (6, 166), (6, 170), (6, 171)] = true := by decide +kernel
set_option maxRecDepth 100000 in
theorem zt_wk12_ok : xw_in zt_wk12 [(7, 97), (7, 100), (7, 102), (7, 121), (7, 122), (7, 123), (7, 124), (7, 125), (7, 126), (7, 127), (7, 128), (7, 129), (7, 130), (7, 131), (7, 132), (7, 133), (7, 134), (7, 135), (7, 136), (7, 137), (7, 138), (7, 140), (7, 141), (7, 148), (7, 149), (7, 151), (7, 152), (7, 153), (7, 154), (7, 155), (7, 156), (7, 157), (7, 158), (7, 166), (7, 167), (7, 171), (7, 173), (7, 175), (7, 176), (7, 177), (7, 179), (7, 181), (7, 182), (7, 183), (7, 184), (7, 99), (7, 98), (7, 101), (7, 107), (7, 103), (7, 104), (7, 105), (7, 106), (7, 114), (7, 115), (7, 116), (7, 117), (7, 118), (7, 119), (7, 145), (7, 120), (7, 109), (7, 110), (7, 111), (7, 112), (7, 113), (7, 150), (7, 159), (7, 160), (7, 174), (7, 178), (7, 180), (7, 161), (7, 162), (7, 163), (7, 164), (7, 165), (7, 168), (7, 169), (7, 170), (7, 172), (7, 185), (7, 186), (7, 187), (8, 163), (9, 96), (10, 6), (7, 36), (7, 37), (7, 41), (8, 184), (8, 143), (7, 45), (7, 48), (8, 207), (7, 60), (7, 52), (7, 56), (7, 64), (7, 68), (7, 72), (9, 49), (9, 41), (9, 56), (9, 64), (9, 101), (9, 109), (9, 129), (9, 190), (9, 194), (9, 198), (9, 210), (9, 234), (9, 226), (9, 230), (9, 222), (10, 51), (10, 67), (9, 105), (10, 91)] = true := by decide +kernel
set_option maxRecDepth 100000 in
theorem zt_wkL_ok : xw_in zt_wkL [(1, 25), (7, 31), (1, 27), (7, 33), (4, 151), (8, 135), (4, 159), (8, 139), (4, 163), (9, 29), (4, 167), (9, 33), (4, 172), (9, 52), (4, 180), (9, 60), (4, 210), (9, 76), (4, 219), (9, 92), (5, 12), (9, 97), (5, 35), (9, 113), (5, 43), (9, 117), (5, 51), (9, 121), (5, 59), (9, 125), (5, 116), (9, 162), (5, 120), (9, 166), (5, 128), (9, 178), (5, 141), (9, 182), (5, 191), (9, 202), (5, 212), (9, 206), (5, 224), (9, 214), (5, 233), (9, 218), (6, 13), (9, 238), (6, 17), (10, 2), (6, 30), (10, 7), (6, 42), (10, 15), (6, 47), (10, 19), (6, 59), (10, 27), (6, 67), (10, 31), (6, 75), (10, 39), (6, 83), (10, 43), (6, 87), (10, 47), (6, 120), (10, 59), (6, 128), (10, 63), (6, 140), (10, 71), (6, 149), (10, 79), (6, 153), (10, 83), (6, 157), (10, 87)] = true := by decide +kernel
set_option maxRecDepth 100000 in
theorem zt_wy0_ok : xw_in zt_wy0 [(1, 1), (1, 28)] = true := by decide +kernel
set_option maxRecDepth 100000 in
theorem zt_wy1_ok : xw_in zt_wy1 [(1, 2), (1, 36)] = true := by decide +kernel
set_option maxRecDepth 100000 in
theorem zt_wy2_ok : xw_in zt_wy2 [(1, 3), (1, 42)] = true := by decide +kernel
set_option maxRecDepth 100000 in
theorem zt_wy3_ok : xw_in zt_wy3 [(1, 4), (1, 48)] = true := by decide +kernel
set_option maxRecDepth 100000 in
theorem zt_wy4_ok : xw_in zt_wy4 [(1, 5), (1, 143)] = true := by decide +kernel
set_option maxRecDepth 100000 in
theorem zt_wy5_ok : xw_in zt_wy5 [(1, 6), (1, 152)] = true := by decide +kernel
set_option maxRecDepth 100000 in
theorem zt_wy6_ok : xw_in zt_wy6 [(1, 7), (1, 186)] = true := by decide +kernel
end
section
set_option maxRecDepth 100000 in
theorem zt_wy7_ok : xw_in zt_wy7 [(1, 8), (2, 72)] = true := by decide +kernel
set_option maxRecDepth 100000 in
theorem zt_wy8_ok : xw_in zt_wy8 [(1, 13), (2, 147)] = true := by decide +kernel
set_option maxRecDepth 100000 in
theorem zt_wy9_ok : xw_in zt_wy9 [(1, 14), (2, 220)] = true := by decide +kernel
set_option maxRecDepth 100000 in
theorem zt_wy10_ok : xw_in zt_wy10 [(1, 15), (3, 13)] = true := by decide +kernel
set_option maxRecDepth 100000 in
theorem zt_wy11_ok : xw_in zt_wy11 [(1, 16), (3, 36)] = true := by decide +kernel
set_option maxRecDepth 100000 in
theorem zt_wy12_ok : xw_in zt_wy12 [(1, 2), (3, 106), (3, 107)] = true := by decide +kernel
set_option maxRecDepth 100000 in
theorem zt_wy13_ok : xw_in zt_wy13 [(1, 3), (3, 110), (3, 111)] = true := by decide +kernel
set_option maxRecDepth 100000 in
theorem zt_wy14_ok : xw_in zt_wy14 [(1, 4), (3, 114), (3, 115)] = true := by decide +kernel
set_option maxRecDepth 100000 in
theorem zt_wy15_ok : xw_in zt_wy15 [(1, 3), (3, 118), (3, 119)] = true := by decide +kernel
set_option maxRecDepth 100000 in
theorem zt_wy16_ok : xw_in zt_wy16 [(1, 5), (3, 122), (3, 123)] = true := by decide +kernel
set_option maxRecDepth 100000 in
theorem zt_wy17_ok : xw_in zt_wy17 [(1, 8), (3, 127), (3, 128)] = true := by decide +kernel
set_option maxRecDepth 100000 in
theorem zt_wy18_ok : xw_in zt_wy18 [(1, 8), (3, 131), (3, 132)] = true := by decide +kernel
set_option maxRecDepth 100000 in
theorem zt_wy19_ok : xw_in zt_wy19 [(1, 1), (4, 31), (0, 25)] = true := by decide +kernel
set_option maxRecDepth 100000 in
theorem zt_wy20_ok : xw_in zt_wy20 [(1, 3), (4, 34), (4, 35)] = true := by decide +kernel
set_option maxRecDepth 100000 in
theorem zt_wy21_ok : xw_in zt_wy21 [(1, 4), (4, 38), (4, 39)] = true := by decide +kernel
set_option maxRecDepth 100000 in
theorem zt_wy22_ok : xw_in zt_wy22 [(1, 5), (4, 46), (4, 47)] = true := by decide +kernel
set_option maxRecDepth 100000 in
theorem zt_wy23_ok : xw_in zt_wy23 [(1, 3), (4, 58), (4, 59)] = true := by decide +kernel
set_option maxRecDepth 100000 in
theorem zt_wy24_ok : xw_in zt_wy24 [(1, 3), (4, 62), (4, 63)] = true := by decide +kernel
set_option maxRecDepth 100000 in
theorem zt_wy25_ok : xw_in zt_wy25 [(1, 3), (4, 66), (4, 67)] = true := by decide +kernel
set_option maxRecDepth 100000 in
theorem zt_wy26_ok : xw_in zt_wy26 [(1, 4), (4, 70), (4, 71)] = true := by decide +kernel
set_option maxRecDepth 100000 in
theorem zt_wy27_ok : xw_in zt_wy27 [(1, 14), (4, 104), (4, 105)] = true := by decide +kernel
set_option maxRecDepth 100000 in
theorem zt_wy28_ok : xw_in zt_wy28 [(1, 15), (4, 108), (4, 109)] = true := by decide +kernel
set_option maxRecDepth 100000 in
theorem zt_wy29_ok : xw_in zt_wy29 [(1, 19), (7, 34)] = true := by decide +kernel
set_option maxRecDepth 100000 in
theorem zt_wy30_ok : xw_in zt_wy30 [(1, 19), (7, 39), (0, 53)] = true := by decide +kernel
set_option maxRecDepth 100000 in
theorem zt_wy31_ok : xw_in zt_wy31 [(1, 19), (7, 43), (0, 54)] = true := by decide +kernel
set_option maxRecDepth 100000 in
theorem zt_wy32_ok : xw_in zt_wy32 [(1, 19), (7, 46)] = true := by decide +kernel
set_option maxRecDepth 100000 in
theorem zt_wy33_ok : xw_in zt_wy33 [(1, 19), (7, 50), (0, 55)] = true := by decide +kernel
set_option maxRecDepth 100000 in
theorem zt_wy34_ok : xw_in zt_wy34 [(1, 19), (7, 54), (0, 56)] = true := by decide +kernel
set_option maxRecDepth 100000 in
theorem zt_wy35_ok : xw_in zt_wy35 [(1, 19), (7, 58), (0, 57)] = true := by decide +kernel
set_option maxRecDepth 100000 in
theorem zt_wy36_ok : xw_in zt_wy36 [(1, 19), (7, 62), (0, 58)] = true := by decide +kernel
set_option maxRecDepth 100000 in
theorem zt_wy37_ok : xw_in zt_wy37 [(1, 19), (7, 66), (0, 59)] = true := by decide +kernel
set_option maxRecDepth 100000 in
theorem zt_wy38_ok : xw_in zt_wy38 [(1, 19), (7, 70), (0, 60)] = true := by decide +kernel
set_option maxRecDepth 100000 in
theorem zt_wy39_ok : xw_in zt_wy39 [(1, 19), (7, 74), (0, 61)] = true := by decide +kernel
set_option maxRecDepth 100000 in
theorem zt_wy40_ok : xw_in zt_wy40 [(1, 1), (4, 152), (4, 153)] = true := by decide +kernel
set_option maxRecDepth 100000 in
theorem zt_wy41_ok : xw_in zt_wy41 [(1, 1), (4, 157), (0, 26)] = true := by decide +kernel
set_option maxRecDepth 100000 in
theorem zt_wy42_ok : xw_in zt_wy42 [(1, 19), (8, 136), (8, 137)] = true := by decide +kernel
set_option maxRecDepth 100000 in
theorem zt_wy43_ok : xw_in zt_wy43 [(1, 1), (4, 160), (4, 161)] = true := by decide +kernel
set_option maxRecDepth 100000 in
theorem zt_wy44_ok : xw_in zt_wy44 [(1, 19), (8, 140), (8, 141)] = true := by decide +kernel
set_option maxRecDepth 100000 in
theorem zt_wy45_ok : xw_in zt_wy45 [(1, 19), (8, 145), (0, 66)] = true := by decide +kernel
set_option maxRecDepth 100000 in
theorem zt_wy46_ok : xw_in zt_wy46 [(1, 1), (4, 164), (4, 165)] = true := by decide +kernel
set_option maxRecDepth 100000 in
theorem zt_wy47_ok : xw_in zt_wy47 [(1, 19), (9, 30), (9, 31)] = true := by decide +kernel
set_option maxRecDepth 100000 in
theorem zt_wy48_ok : xw_in zt_wy48 [(1, 1), (4, 168), (4, 169)] = true := by decide +kernel
set_option maxRecDepth 100000 in
theorem zt_wy49_ok : xw_in zt_wy49 [(1, 5), (3, 204), (3, 205)] = true := by decide +kernel
set_option maxRecDepth 100000 in
theorem zt_wy50_ok : xw_in zt_wy50 [(1, 19), (9, 34), (9, 35)] = true := by decide +kernel
set_option maxRecDepth 100000 in
theorem zt_wy51_ok : xw_in zt_wy51 [(1, 19), (8, 208)] = true := by decide +kernel
set_option maxRecDepth 100000 in
theorem zt_wy52_ok : xw_in zt_wy52 [(1, 1), (4, 173), (4, 174)] = true := by decide +kernel
set_option maxRecDepth 100000 in
theorem zt_wy53_ok : xw_in zt_wy53 [(1, 5), (4, 177), (4, 178)] = true := by decide +kernel
set_option maxRecDepth 100000 in
theorem zt_wy54_ok : xw_in zt_wy54 [(1, 19), (9, 53), (9, 54)] = true := by decide +kernel
set_option maxRecDepth 100000 in
theorem zt_wy55_ok : xw_in zt_wy55 [(1, 19), (9, 58), (0, 97)] = true := by decide +kernel
set_option maxRecDepth 100000 in
theorem zt_wy56_ok : xw_in zt_wy56 [(1, 1), (4, 181), (4, 182)] = true := by decide +kernel
set_option maxRecDepth 100000 in
theorem zt_wy57_ok : xw_in zt_wy57 [(1, 5), (4, 185), (4, 186)] = true := by decide +kernel
set_option maxRecDepth 100000 in
theorem zt_wy58_ok : xw_in zt_wy58 [(1, 19), (9, 61), (9, 62)] = true := by decide +kernel
set_option maxRecDepth 100000 in
theorem zt_wy59_ok : xw_in zt_wy59 [(1, 19), (9, 66), (0, 98)] = true := by decide +kernel
set_option maxRecDepth 100000 in
theorem zt_wy60_ok : xw_in zt_wy60 [(1, 1), (4, 211), (4, 212)] = true := by decide +kernel
set_option maxRecDepth 100000 in
theorem zt_wy61_ok : xw_in zt_wy61 [(1, 19), (9, 77), (9, 78)] = true := by decide +kernel
set_option maxRecDepth 100000 in
theorem zt_wy62_ok : xw_in zt_wy62 [(1, 1), (4, 220), (4, 221)] = true := by decide +kernel
set_option maxRecDepth 100000 in
theorem zt_wy63_ok : xw_in zt_wy63 [(1, 19), (9, 93), (9, 94)] = true := by decide +kernel
set_option maxRecDepth 100000 in
theorem zt_wy64_ok : xw_in zt_wy64 [(1, 19), (8, 185)] = true := by decide +kernel
set_option maxRecDepth 100000 in
theorem zt_wy65_ok : xw_in zt_wy65 [(1, 5), (4, 224), (4, 225)] = true := by decide +kernel
set_option maxRecDepth 100000 in
theorem zt_wy66_ok : xw_in zt_wy66 [(1, 3), (4, 235), (4, 236)] = true := by decide +kernel
set_option maxRecDepth 100000 in
theorem zt_wy67_ok : xw_in zt_wy67 [(1, 19), (9, 43), (0, 95)] = true := by decide +kernel
set_option maxRecDepth 100000 in
theorem zt_wy68_ok : xw_in zt_wy68 [(1, 1), (5, 13), (5, 14)] = true := by decide +kernel
set_option maxRecDepth 100000 in
theorem zt_wy69_ok : xw_in zt_wy69 [(1, 19), (9, 98), (9, 99)] = true := by decide +kernel
set_option maxRecDepth 100000 in
theorem zt_wy70_ok : xw_in zt_wy70 [(1, 1), (5, 17)] = true := by decide +kernel
set_option maxRecDepth 100000 in
theorem zt_wy71_ok : xw_in zt_wy71 [(1, 1), (5, 20)] = true := by decide +kernel
set_option maxRecDepth 100000 in
theorem zt_wy72_ok : xw_in zt_wy72 [(1, 5), (3, 196), (3, 197)] = true := by decide +kernel
set_option maxRecDepth 100000 in
theorem zt_wy73_ok : xw_in zt_wy73 [(1, 15), (5, 24), (5, 25)] = true := by decide +kernel
set_option maxRecDepth 100000 in
theorem zt_wy74_ok : xw_in zt_wy74 [(1, 15), (5, 29), (0, 29)] = true := by decide +kernel
set_option maxRecDepth 100000 in
theorem zt_wy75_ok : xw_in zt_wy75 [(1, 19), (9, 103), (0, 104)] = true := by decide +kernel
set_option maxRecDepth 100000 in
theorem zt_wy76_ok : xw_in zt_wy76 [(1, 19), (9, 107), (0, 105)] = true := by decide +kernel
set_option maxRecDepth 100000 in
theorem zt_wy77_ok : xw_in zt_wy77 [(1, 19), (9, 111), (0, 106)] = true := by decide +kernel
set_option maxRecDepth 100000 in
theorem zt_wy78_ok : xw_in zt_wy78 [(1, 1), (5, 36), (5, 37)] = true := by decide +kernel
set_option maxRecDepth 100000 in
theorem zt_wy79_ok : xw_in zt_wy79 [(1, 19), (9, 114), (9, 115)] = true := by decide +kernel
set_option maxRecDepth 100000 in
theorem zt_wy80_ok : xw_in zt_wy80 [(1, 1), (5, 44), (5, 45)] = true := by decide +kernel
set_option maxRecDepth 100000 in
theorem zt_wy81_ok : xw_in zt_wy81 [(1, 19), (9, 118), (9, 119)] = true := by decide +kernel
set_option maxRecDepth 100000 in
theorem zt_wy82_ok : xw_in zt_wy82 [(1, 1), (5, 52), (5, 53)] = true := by decide +kernel
set_option maxRecDepth 100000 in
theorem zt_wy83_ok : xw_in zt_wy83 [(1, 19), (9, 122), (9, 123)] = true := by decide +kernel
set_option maxRecDepth 100000 in
theorem zt_wy84_ok : xw_in zt_wy84 [(1, 15), (5, 56), (5, 57)] = true := by decide +kernel
set_option maxRecDepth 100000 in
theorem zt_wy85_ok : xw_in zt_wy85 [(1, 1), (5, 60), (5, 61)] = true := by decide +kernel
set_option maxRecDepth 100000 in
theorem zt_wy86_ok : xw_in zt_wy86 [(1, 19), (9, 126), (9, 127)] = true := by decide +kernel
set_option maxRecDepth 100000 in
theorem zt_wy87_ok : xw_in zt_wy87 [(1, 5), (5, 64), (5, 65)] = true := by decide +kernel
set_option maxRecDepth 100000 in
theorem zt_wy88_ok : xw_in zt_wy88 [(1, 5), (5, 110), (0, 35)] = true := by decide +kernel
set_option maxRecDepth 100000 in
theorem zt_wy89_ok : xw_in zt_wy89 [(1, 19), (9, 131), (0, 107)] = true := by decide +kernel
set_option maxRecDepth 100000 in
theorem zt_wy90_ok : xw_in zt_wy90 [(1, 1), (5, 117), (5, 118)] = true := by decide +kernel
set_option maxRecDepth 100000 in
theorem zt_wy91_ok : xw_in zt_wy91 [(1, 19), (9, 163), (9, 164)] = true := by decide +kernel
set_option maxRecDepth 100000 in
theorem zt_wy92_ok : xw_in zt_wy92 [(1, 1), (5, 121), (5, 122)] = true := by decide +kernel
set_option maxRecDepth 100000 in
theorem zt_wy93_ok : xw_in zt_wy93 [(1, 19), (9, 167), (9, 168)] = true := by decide +kernel
set_option maxRecDepth 100000 in
theorem zt_wy94_ok : xw_in zt_wy94 [(1, 1), (5, 129), (5, 130)] = true := by decide +kernel
set_option maxRecDepth 100000 in
theorem zt_wy95_ok : xw_in zt_wy95 [(1, 19), (9, 179), (9, 180)] = true := by decide +kernel
set_option maxRecDepth 100000 in
theorem zt_wy96_ok : xw_in zt_wy96 [(1, 1), (5, 142), (5, 143)] = true := by decide +kernel
set_option maxRecDepth 100000 in
theorem zt_wy97_ok : xw_in zt_wy97 [(1, 19), (9, 183), (9, 184)] = true := by decide +kernel
set_option maxRecDepth 100000 in
theorem zt_wy98_ok : xw_in zt_wy98 [(1, 1), (5, 192), (5, 193)] = true := by decide +kernel
set_option maxRecDepth 100000 in
theorem zt_wy99_ok : xw_in zt_wy99 [(1, 1), (5, 196)] = true := by decide +kernel
set_option maxRecDepth 100000 in
theorem zt_wy100_ok : xw_in zt_wy100 [(1, 19), (9, 203), (9, 204)] = true := by decide +kernel
set_option maxRecDepth 100000 in
theorem zt_wy101_ok : xw_in zt_wy101 [(1, 1), (5, 213), (5, 214)] = true := by decide +kernel
set_option maxRecDepth 100000 in
theorem zt_wy102_ok : xw_in zt_wy102 [(1, 19), (9, 207), (9, 208)] = true := by decide +kernel
set_option maxRecDepth 100000 in
theorem zt_wy103_ok : xw_in zt_wy103 [(1, 16), (5, 217), (5, 218)] = true := by decide +kernel
set_option maxRecDepth 100000 in
theorem zt_wy104_ok : xw_in zt_wy104 [(1, 5), (5, 221), (5, 222)] = true := by decide +kernel
set_option maxRecDepth 100000 in
theorem zt_wy105_ok : xw_in zt_wy105 [(1, 5), (5, 208), (0, 45)] = true := by decide +kernel
set_option maxRecDepth 100000 in
theorem zt_wy106_ok : xw_in zt_wy106 [(1, 19), (9, 212), (0, 120)] = true := by decide +kernel
set_option maxRecDepth 100000 in
theorem zt_wy107_ok : xw_in zt_wy107 [(1, 19), (9, 192), (0, 117)] = true := by decide +kernel
set_option maxRecDepth 100000 in
theorem zt_wy108_ok : xw_in zt_wy108 [(1, 19), (9, 196), (0, 118)] = true := by decide +kernel
set_option maxRecDepth 100000 in
theorem zt_wy109_ok : xw_in zt_wy109 [(1, 1), (5, 225), (5, 226)] = true := by decide +kernel
set_option maxRecDepth 100000 in
theorem zt_wy110_ok : xw_in zt_wy110 [(1, 19), (9, 215), (9, 216)] = true := by decide +kernel
set_option maxRecDepth 100000 in
theorem zt_wy111_ok : xw_in zt_wy111 [(1, 16), (5, 229), (5, 230)] = true := by decide +kernel
set_option maxRecDepth 100000 in
theorem zt_wy112_ok : xw_in zt_wy112 [(1, 1), (5, 234), (5, 235)] = true := by decide +kernel
set_option maxRecDepth 100000 in
theorem zt_wy113_ok : xw_in zt_wy113 [(1, 16), (5, 238), (5, 239)] = true := by decide +kernel
set_option maxRecDepth 100000 in
theorem zt_wy114_ok : xw_in zt_wy114 [(1, 16), (6, 3), (0, 46)] = true := by decide +kernel
set_option maxRecDepth 100000 in
theorem zt_wy115_ok : xw_in zt_wy115 [(1, 16), (6, 7), (0, 47)] = true := by decide +kernel
set_option maxRecDepth 100000 in
theorem zt_wy116_ok : xw_in zt_wy116 [(1, 16), (6, 11), (0, 48)] = true := by decide +kernel
set_option maxRecDepth 100000 in
theorem zt_wy117_ok : xw_in zt_wy117 [(1, 19), (9, 219), (9, 220)] = true := by decide +kernel
set_option maxRecDepth 100000 in
theorem zt_wy118_ok : xw_in zt_wy118 [(1, 19), (9, 224), (0, 121)] = true := by decide +kernel
set_option maxRecDepth 100000 in
theorem zt_wy119_ok : xw_in zt_wy119 [(1, 19), (9, 228), (0, 122)] = true := by decide +kernel
set_option maxRecDepth 100000 in
theorem zt_wy120_ok : xw_in zt_wy120 [(1, 19), (9, 50)] = true := by decide +kernel
set_option maxRecDepth 100000 in
theorem zt_wy121_ok : xw_in zt_wy121 [(1, 19), (9, 232), (0, 123)] = true := by decide +kernel
set_option maxRecDepth 100000 in
theorem zt_wy122_ok : xw_in zt_wy122 [(1, 19), (9, 236), (0, 124)] = true := by decide +kernel
set_option maxRecDepth 100000 in
theorem zt_wy123_ok : xw_in zt_wy123 [(1, 1), (6, 14), (6, 15)] = true := by decide +kernel
set_option maxRecDepth 100000 in
theorem zt_wy124_ok : xw_in zt_wy124 [(1, 19), (9, 239), (10, 0)] = true := by decide +kernel
set_option maxRecDepth 100000 in
theorem zt_wy125_ok : xw_in zt_wy125 [(1, 1), (6, 18), (6, 19)] = true := by decide +kernel
set_option maxRecDepth 100000 in
theorem zt_wy126_ok : xw_in zt_wy126 [(1, 19), (10, 3), (10, 4)] = true := by decide +kernel
set_option maxRecDepth 100000 in
theorem zt_wy127_ok : xw_in zt_wy127 [(1, 3), (6, 23), (6, 24)] = true := by decide +kernel
set_option maxRecDepth 100000 in
theorem zt_wy128_ok : xw_in zt_wy128 [(1, 3), (6, 27)] = true := by decide +kernel
end
section
set_option maxRecDepth 100000 in
theorem zt_wy129_ok : xw_in zt_wy129 [(1, 1), (6, 31), (6, 32)] = true := by decide +kernel
set_option maxRecDepth 100000 in
theorem zt_wy130_ok : xw_in zt_wy130 [(1, 5), (6, 35), (6, 36)] = true := by decide +kernel
set_option maxRecDepth 100000 in
theorem zt_wy131_ok : xw_in zt_wy131 [(1, 19), (10, 8), (10, 9)] = true := by decide +kernel
set_option maxRecDepth 100000 in
theorem zt_wy132_ok : xw_in zt_wy132 [(1, 1), (6, 43), (6, 44)] = true := by decide +kernel
set_option maxRecDepth 100000 in
theorem zt_wy133_ok : xw_in zt_wy133 [(1, 19), (10, 16), (10, 17)] = true := by decide +kernel
set_option maxRecDepth 100000 in
theorem zt_wy134_ok : xw_in zt_wy134 [(1, 1), (6, 48), (6, 49)] = true := by decide +kernel
set_option maxRecDepth 100000 in
theorem zt_wy135_ok : xw_in zt_wy135 [(1, 19), (10, 20), (10, 21)] = true := by decide +kernel
set_option maxRecDepth 100000 in
theorem zt_wy136_ok : xw_in zt_wy136 [(1, 5), (6, 52), (6, 53)] = true := by decide +kernel
set_option maxRecDepth 100000 in
theorem zt_wy137_ok : xw_in zt_wy137 [(1, 1), (6, 60), (6, 61)] = true := by decide +kernel
set_option maxRecDepth 100000 in
theorem zt_wy138_ok : xw_in zt_wy138 [(1, 19), (10, 28), (10, 29)] = true := by decide +kernel
set_option maxRecDepth 100000 in
theorem zt_wy139_ok : xw_in zt_wy139 [(1, 1), (6, 68), (6, 69)] = true := by decide +kernel
set_option maxRecDepth 100000 in
theorem zt_wy140_ok : xw_in zt_wy140 [(1, 19), (10, 32), (10, 33)] = true := by decide +kernel
set_option maxRecDepth 100000 in
theorem zt_wy141_ok : xw_in zt_wy141 [(1, 1), (6, 76), (6, 77)] = true := by decide +kernel
set_option maxRecDepth 100000 in
theorem zt_wy142_ok : xw_in zt_wy142 [(1, 14), (6, 80), (6, 81)] = true := by decide +kernel
set_option maxRecDepth 100000 in
theorem zt_wy143_ok : xw_in zt_wy143 [(1, 19), (10, 40), (10, 41)] = true := by decide +kernel
set_option maxRecDepth 100000 in
theorem zt_wy144_ok : xw_in zt_wy144 [(1, 1), (6, 84), (6, 85)] = true := by decide +kernel
set_option maxRecDepth 100000 in
theorem zt_wy145_ok : xw_in zt_wy145 [(1, 19), (10, 44), (10, 45)] = true := by decide +kernel
set_option maxRecDepth 100000 in
theorem zt_wy146_ok : xw_in zt_wy146 [(1, 1), (6, 88), (6, 89)] = true := by decide +kernel
set_option maxRecDepth 100000 in
theorem zt_wy147_ok : xw_in zt_wy147 [(1, 19), (10, 48), (10, 49)] = true := by decide +kernel
set_option maxRecDepth 100000 in
theorem zt_wy148_ok : xw_in zt_wy148 [(1, 1), (6, 121), (6, 122)] = true := by decide +kernel
set_option maxRecDepth 100000 in
theorem zt_wy149_ok : xw_in zt_wy149 [(1, 19), (10, 60), (10, 61)] = true := by decide +kernel
set_option maxRecDepth 100000 in
theorem zt_wy150_ok : xw_in zt_wy150 [(1, 1), (6, 129), (6, 130)] = true := by decide +kernel
set_option maxRecDepth 100000 in
theorem zt_wy151_ok : xw_in zt_wy151 [(1, 19), (10, 64), (10, 65)] = true := by decide +kernel
set_option maxRecDepth 100000 in
theorem zt_wy152_ok : xw_in zt_wy152 [(1, 16), (6, 133), (6, 134)] = true := by decide +kernel
set_option maxRecDepth 100000 in
theorem zt_wy153_ok : xw_in zt_wy153 [(1, 5), (6, 137), (6, 138)] = true := by decide +kernel
set_option maxRecDepth 100000 in
theorem zt_wy154_ok : xw_in zt_wy154 [(1, 19), (10, 69), (0, 130)] = true := by decide +kernel
set_option maxRecDepth 100000 in
theorem zt_wy155_ok : xw_in zt_wy155 [(1, 1), (6, 141), (6, 142)] = true := by decide +kernel
set_option maxRecDepth 100000 in
theorem zt_wy156_ok : xw_in zt_wy156 [(1, 15), (6, 145), (6, 146)] = true := by decide +kernel
set_option maxRecDepth 100000 in
theorem zt_wy157_ok : xw_in zt_wy157 [(1, 19), (10, 72), (10, 73)] = true := by decide +kernel
set_option maxRecDepth 100000 in
theorem zt_wy158_ok : xw_in zt_wy158 [(1, 1), (6, 150), (6, 151)] = true := by decide +kernel
set_option maxRecDepth 100000 in
theorem zt_wy159_ok : xw_in zt_wy159 [(1, 19), (10, 80), (10, 81)] = true := by decide +kernel
set_option maxRecDepth 100000 in
theorem zt_wy160_ok : xw_in zt_wy160 [(1, 1), (6, 154), (6, 155)] = true := by decide +kernel
set_option maxRecDepth 100000 in
theorem zt_wy161_ok : xw_in zt_wy161 [(1, 19), (10, 84), (10, 85)] = true := by decide +kernel
set_option maxRecDepth 100000 in
theorem zt_wy162_ok : xw_in zt_wy162 [(1, 1), (6, 158), (6, 159)] = true := by decide +kernel
set_option maxRecDepth 100000 in
theorem zt_wy163_ok : xw_in zt_wy163 [(1, 19), (10, 88), (10, 89)] = true := by decide +kernel
set_option maxRecDepth 100000 in
theorem zt_wy164_ok : xw_in zt_wy164 [(1, 5), (6, 162), (6, 163)] = true := by decide +kernel
set_option maxRecDepth 100000 in
theorem zt_wy165_ok : xw_in zt_wy165 [(1, 19), (10, 93), (0, 132)] = true := by decide +kernel
set_option maxRecDepth 100000 in
theorem zt_wy166_ok : xw_in zt_wy166 [(1, 5), (6, 167), (6, 168)] = true := by decide +kernel
set_option maxRecDepth 100000 in
theorem zt_wy167_ok : xw_in zt_wy167 [(1, 14), (6, 100), (6, 101)] = true := by decide +kernel
set_option maxRecDepth 100000 in
theorem zt_wy168_ok : xw_in zt_wy168 [(1, 19), (10, 53), (0, 128)] = true := by decide +kernel
set_option maxRecDepth 100000 in
theorem zt_wy169_ok : xw_in zt_wy169 [(1, 5), (5, 203), (5, 204)] = true := by decide +kernel
set_option maxRecDepth 100000 in
theorem zt_wy170_ok : xw_in zt_wy170 [(1, 19), (9, 200), (0, 119)] = true := by decide +kernel
set_option maxRecDepth 100000 in
theorem zt_wx_ok : xw_in zt_wx [(1, 79), (1, 80), (1, 183), (2, 77), (2, 78), (1, 9), (2, 79), (1, 31), (1, 32), (4, 43), (4, 42), (1, 17)] = true := by decide +kernel
end
section
theorem zt_cd0 : Jvm.Cond.code zt_z0.1 zt_z0.2.1 zt_m0.2.1.2.1 zt_z0.2.2 ∈ lw_tbl := xw_tab_in 1 _ (List.mem_of_getElem? (i := 29) rfl)
theorem zt_cd1 : Jvm.Cond.code zt_z1.1 zt_z1.2.1 zt_m1.2.1.2.1 zt_z1.2.2 ∈ lw_tbl := xw_tab_in 1 _ (List.mem_of_getElem? (i := 37) rfl)
theorem zt_cd2 : Jvm.Cond.code zt_z2.1 zt_z2.2.1 zt_m2.2.1.2.1 zt_z2.2.2 ∈ lw_tbl := xw_tab_in 1 _ (List.mem_of_getElem? (i := 43) rfl)
theorem zt_cd3 : Jvm.Cond.code zt_z3.1 zt_z3.2.1 zt_m3.2.1.2.1 zt_z3.2.2 ∈ lw_tbl := xw_tab_in 1 _ (List.mem_of_getElem? (i := 49) rfl)
theorem zt_cd4 : Jvm.Cond.code zt_z4.1 zt_z4.2.1 zt_m4.2.1.2.1 zt_z4.2.2 ∈ lw_tbl := xw_tab_in 1 _ (List.mem_of_getElem? (i := 144) rfl)
theorem zt_cd5 : Jvm.Cond.code zt_z5.1 zt_z5.2.1 zt_m5.2.1.2.1 zt_z5.2.2 ∈ lw_tbl := xw_tab_in 1 _ (List.mem_of_getElem? (i := 153) rfl)
theorem zt_cd6 : Jvm.Cond.code zt_z6.1 zt_z6.2.1 zt_m6.2.1.2.1 zt_z6.2.2 ∈ lw_tbl := xw_tab_in 1 _ (List.mem_of_getElem? (i := 187) rfl)
theorem zt_cd7 : Jvm.Cond.code zt_z7.1 zt_z7.2.1 zt_m7.2.1.2.1 zt_z7.2.2 ∈ lw_tbl := xw_tab_in 2 _ (List.mem_of_getElem? (i := 73) rfl)
theorem zt_cd8 : Jvm.Cond.code zt_z8.1 zt_z8.2.1 zt_m8.2.1.2.1 zt_z8.2.2 ∈ lw_tbl := xw_tab_in 2 _ (List.mem_of_getElem? (i := 148) rfl)
theorem zt_cd9 : Jvm.Cond.code zt_z9.1 zt_z9.2.1 zt_m9.2.1.2.1 zt_z9.2.2 ∈ lw_tbl := xw_tab_in 2 _ (List.mem_of_getElem? (i := 221) rfl)
theorem zt_cd10 : Jvm.Cond.code zt_z10.1 zt_z10.2.1 zt_m10.2.1.2.1 zt_z10.2.2 ∈ lw_tbl := xw_tab_in 3 _ (List.mem_of_getElem? (i := 14) rfl)
theorem zt_cd11 : Jvm.Cond.code zt_z11.1 zt_z11.2.1 zt_m11.2.1.2.1 zt_z11.2.2 ∈ lw_tbl := xw_tab_in 3 _ (List.mem_of_getElem? (i := 37) rfl)
theorem zt_cd12 : Jvm.Cond.code zt_z12.1 zt_z12.2.1 zt_m12.2.1.2.1 zt_z12.2.2 ∈ lw_tbl := xw_tab_in 3 _ (List.mem_of_getElem? (i := 108) rfl)
theorem zt_cd13 : Jvm.Cond.code zt_z13.1 zt_z13.2.1 zt_m13.2.1.2.1 zt_z13.2.2 ∈ lw_tbl := xw_tab_in 3 _ (List.mem_of_getElem? (i := 112) rfl)
theorem zt_cd14 : Jvm.Cond.code zt_z14.1 zt_z14.2.1 zt_m14.2.1.2.1 zt_z14.2.2 ∈ lw_tbl := xw_tab_in 3 _ (List.mem_of_getElem? (i := 116) rfl)
theorem zt_cd15 : Jvm.Cond.code zt_z15.1 zt_z15.2.1 zt_m15.2.1.2.1 zt_z15.2.2 ∈ lw_tbl := xw_tab_in 3 _ (List.mem_of_getElem? (i := 120) rfl)
theorem zt_cd16 : Jvm.Cond.code zt_z16.1 zt_z16.2.1 zt_m16.2.1.2.1 zt_z16.2.2 ∈ lw_tbl := xw_tab_in 3 _ (List.mem_of_getElem? (i := 124) rfl)
theorem zt_cd17 : Jvm.Cond.code zt_z17.1 zt_z17.2.1 zt_m17.2.1.2.1 zt_z17.2.2 ∈ lw_tbl := xw_tab_in 3 _ (List.mem_of_getElem? (i := 129) rfl)
theorem zt_cd18 : Jvm.Cond.code zt_z18.1 zt_z18.2.1 zt_m18.2.1.2.1 zt_z18.2.2 ∈ lw_tbl := xw_tab_in 3 _ (List.mem_of_getElem? (i := 133) rfl)
theorem zt_cd19 : Jvm.Cond.code zt_z19.1 zt_z19.2.1 zt_m19.2.1.2.1 zt_z19.2.2 ∈ lw_tbl := xw_tab_in 4 _ (List.mem_of_getElem? (i := 32) rfl)
theorem zt_cd20 : Jvm.Cond.code zt_z20.1 zt_z20.2.1 zt_m20.2.1.2.1 zt_z20.2.2 ∈ lw_tbl := xw_tab_in 4 _ (List.mem_of_getElem? (i := 36) rfl)
theorem zt_cd21 : Jvm.Cond.code zt_z21.1 zt_z21.2.1 zt_m21.2.1.2.1 zt_z21.2.2 ∈ lw_tbl := xw_tab_in 4 _ (List.mem_of_getElem? (i := 40) rfl)
theorem zt_cd22 : Jvm.Cond.code zt_z22.1 zt_z22.2.1 zt_m22.2.1.2.1 zt_z22.2.2 ∈ lw_tbl := xw_tab_in 4 _ (List.mem_of_getElem? (i := 48) rfl)
theorem zt_cd23 : Jvm.Cond.code zt_z23.1 zt_z23.2.1 zt_m23.2.1.2.1 zt_z23.2.2 ∈ lw_tbl := xw_tab_in 4 _ (List.mem_of_getElem? (i := 60) rfl)
theorem zt_cd24 : Jvm.Cond.code zt_z24.1 zt_z24.2.1 zt_m24.2.1.2.1 zt_z24.2.2 ∈ lw_tbl := xw_tab_in 4 _ (List.mem_of_getElem? (i := 64) rfl)
theorem zt_cd25 : Jvm.Cond.code zt_z25.1 zt_z25.2.1 zt_m25.2.1.2.1 zt_z25.2.2 ∈ lw_tbl := xw_tab_in 4 _ (List.mem_of_getElem? (i := 68) rfl)
theorem zt_cd26 : Jvm.Cond.code zt_z26.1 zt_z26.2.1 zt_m26.2.1.2.1 zt_z26.2.2 ∈ lw_tbl := xw_tab_in 4 _ (List.mem_of_getElem? (i := 72) rfl)
theorem zt_cd27 : Jvm.Cond.code zt_z27.1 zt_z27.2.1 zt_m27.2.1.2.1 zt_z27.2.2 ∈ lw_tbl := xw_tab_in 4 _ (List.mem_of_getElem? (i := 106) rfl)
theorem zt_cd28 : Jvm.Cond.code zt_z28.1 zt_z28.2.1 zt_m28.2.1.2.1 zt_z28.2.2 ∈ lw_tbl := xw_tab_in 4 _ (List.mem_of_getElem? (i := 110) rfl)
theorem zt_cd29 : Jvm.Cond.code zt_z29.1 zt_z29.2.1 zt_m29.2.1.2.1 zt_z29.2.2 ∈ lw_tbl := xw_tab_in 7 _ (List.mem_of_getElem? (i := 35) rfl)
theorem zt_cd30 : Jvm.Cond.code zt_z30.1 zt_z30.2.1 zt_m30.2.1.2.1 zt_z30.2.2 ∈ lw_tbl := xw_tab_in 7 _ (List.mem_of_getElem? (i := 40) rfl)
theorem zt_cd31 : Jvm.Cond.code zt_z31.1 zt_z31.2.1 zt_m31.2.1.2.1 zt_z31.2.2 ∈ lw_tbl := xw_tab_in 7 _ (List.mem_of_getElem? (i := 44) rfl)
theorem zt_cd32 : Jvm.Cond.code zt_z32.1 zt_z32.2.1 zt_m32.2.1.2.1 zt_z32.2.2 ∈ lw_tbl := xw_tab_in 7 _ (List.mem_of_getElem? (i := 47) rfl)
theorem zt_cd33 : Jvm.Cond.code zt_z33.1 zt_z33.2.1 zt_m33.2.1.2.1 zt_z33.2.2 ∈ lw_tbl := xw_tab_in 7 _ (List.mem_of_getElem? (i := 51) rfl)
theorem zt_cd34 : Jvm.Cond.code zt_z34.1 zt_z34.2.1 zt_m34.2.1.2.1 zt_z34.2.2 ∈ lw_tbl := xw_tab_in 7 _ (List.mem_of_getElem? (i := 55) rfl)
theorem zt_cd35 : Jvm.Cond.code zt_z35.1 zt_z35.2.1 zt_m35.2.1.2.1 zt_z35.2.2 ∈ lw_tbl := xw_tab_in 7 _ (List.mem_of_getElem? (i := 59) rfl)
theorem zt_cd36 : Jvm.Cond.code zt_z36.1 zt_z36.2.1 zt_m36.2.1.2.1 zt_z36.2.2 ∈ lw_tbl := xw_tab_in 7 _ (List.mem_of_getElem? (i := 63) rfl)
theorem zt_cd37 : Jvm.Cond.code zt_z37.1 zt_z37.2.1 zt_m37.2.1.2.1 zt_z37.2.2 ∈ lw_tbl := xw_tab_in 7 _ (List.mem_of_getElem? (i := 67) rfl)
theorem zt_cd38 : Jvm.Cond.code zt_z38.1 zt_z38.2.1 zt_m38.2.1.2.1 zt_z38.2.2 ∈ lw_tbl := xw_tab_in 7 _ (List.mem_of_getElem? (i := 71) rfl)
theorem zt_cd39 : Jvm.Cond.code zt_z39.1 zt_z39.2.1 zt_m39.2.1.2.1 zt_z39.2.2 ∈ lw_tbl := xw_tab_in 7 _ (List.mem_of_getElem? (i := 75) rfl)
theorem zt_cd40 : Jvm.Cond.code zt_z40.1 zt_z40.2.1 zt_m40.2.1.2.1 zt_z40.2.2 ∈ lw_tbl := xw_tab_in 4 _ (List.mem_of_getElem? (i := 154) rfl)
theorem zt_cd41 : Jvm.Cond.code zt_z41.1 zt_z41.2.1 zt_m41.2.1.2.1 zt_z41.2.2 ∈ lw_tbl := xw_tab_in 4 _ (List.mem_of_getElem? (i := 158) rfl)
theorem zt_cd42 : Jvm.Cond.code zt_z42.1 zt_z42.2.1 zt_m42.2.1.2.1 zt_z42.2.2 ∈ lw_tbl := xw_tab_in 8 _ (List.mem_of_getElem? (i := 138) rfl)
theorem zt_cd43 : Jvm.Cond.code zt_z43.1 zt_z43.2.1 zt_m43.2.1.2.1 zt_z43.2.2 ∈ lw_tbl := xw_tab_in 4 _ (List.mem_of_getElem? (i := 162) rfl)
theorem zt_cd44 : Jvm.Cond.code zt_z44.1 zt_z44.2.1 zt_m44.2.1.2.1 zt_z44.2.2 ∈ lw_tbl := xw_tab_in 8 _ (List.mem_of_getElem? (i := 142) rfl)
theorem zt_cd45 : Jvm.Cond.code zt_z45.1 zt_z45.2.1 zt_m45.2.1.2.1 zt_z45.2.2 ∈ lw_tbl := xw_tab_in 8 _ (List.mem_of_getElem? (i := 146) rfl)
theorem zt_cd46 : Jvm.Cond.code zt_z46.1 zt_z46.2.1 zt_m46.2.1.2.1 zt_z46.2.2 ∈ lw_tbl := xw_tab_in 4 _ (List.mem_of_getElem? (i := 166) rfl)
theorem zt_cd47 : Jvm.Cond.code zt_z47.1 zt_z47.2.1 zt_m47.2.1.2.1 zt_z47.2.2 ∈ lw_tbl := xw_tab_in 9 _ (List.mem_of_getElem? (i := 32) rfl)
theorem zt_cd48 : Jvm.Cond.code zt_z48.1 zt_z48.2.1 zt_m48.2.1.2.1 zt_z48.2.2 ∈ lw_tbl := xw_tab_in 4 _ (List.mem_of_getElem? (i := 170) rfl)
theorem zt_cd49 : Jvm.Cond.code zt_z49.1 zt_z49.2.1 zt_m49.2.1.2.1 zt_z49.2.2 ∈ lw_tbl := xw_tab_in 3 _ (List.mem_of_getElem? (i := 206) rfl)
theorem zt_cd50 : Jvm.Cond.code zt_z50.1 zt_z50.2.1 zt_m50.2.1.2.1 zt_z50.2.2 ∈ lw_tbl := xw_tab_in 9 _ (List.mem_of_getElem? (i := 36) rfl)
theorem zt_cd51 : Jvm.Cond.code zt_z51.1 zt_z51.2.1 zt_m51.2.1.2.1 zt_z51.2.2 ∈ lw_tbl := xw_tab_in 8 _ (List.mem_of_getElem? (i := 209) rfl)
theorem zt_cd52 : Jvm.Cond.code zt_z52.1 zt_z52.2.1 zt_m52.2.1.2.1 zt_z52.2.2 ∈ lw_tbl := xw_tab_in 4 _ (List.mem_of_getElem? (i := 175) rfl)
theorem zt_cd53 : Jvm.Cond.code zt_z53.1 zt_z53.2.1 zt_m53.2.1.2.1 zt_z53.2.2 ∈ lw_tbl := xw_tab_in 4 _ (List.mem_of_getElem? (i := 179) rfl)
theorem zt_cd54 : Jvm.Cond.code zt_z54.1 zt_z54.2.1 zt_m54.2.1.2.1 zt_z54.2.2 ∈ lw_tbl := xw_tab_in 9 _ (List.mem_of_getElem? (i := 55) rfl)
theorem zt_cd55 : Jvm.Cond.code zt_z55.1 zt_z55.2.1 zt_m55.2.1.2.1 zt_z55.2.2 ∈ lw_tbl := xw_tab_in 9 _ (List.mem_of_getElem? (i := 59) rfl)
theorem zt_cd56 : Jvm.Cond.code zt_z56.1 zt_z56.2.1 zt_m56.2.1.2.1 zt_z56.2.2 ∈ lw_tbl := xw_tab_in 4 _ (List.mem_of_getElem? (i := 183) rfl)
theorem zt_cd57 : Jvm.Cond.code zt_z57.1 zt_z57.2.1 zt_m57.2.1.2.1 zt_z57.2.2 ∈ lw_tbl := xw_tab_in 4 _ (List.mem_of_getElem? (i := 187) rfl)
theorem zt_cd58 : Jvm.Cond.code zt_z58.1 zt_z58.2.1 zt_m58.2.1.2.1 zt_z58.2.2 ∈ lw_tbl := xw_tab_in 9 _ (List.mem_of_getElem? (i := 63) rfl)
theorem zt_cd59 : Jvm.Cond.code zt_z59.1 zt_z59.2.1 zt_m59.2.1.2.1 zt_z59.2.2 ∈ lw_tbl := xw_tab_in 9 _ (List.mem_of_getElem? (i := 67) rfl)
theorem zt_cd60 : Jvm.Cond.code zt_z60.1 zt_z60.2.1 zt_m60.2.1.2.1 zt_z60.2.2 ∈ lw_tbl := xw_tab_in 4 _ (List.mem_of_getElem? (i := 213) rfl)
theorem zt_cd61 : Jvm.Cond.code zt_z61.1 zt_z61.2.1 zt_m61.2.1.2.1 zt_z61.2.2 ∈ lw_tbl := xw_tab_in 9 _ (List.mem_of_getElem? (i := 79) rfl)
theorem zt_cd62 : Jvm.Cond.code zt_z62.1 zt_z62.2.1 zt_m62.2.1.2.1 zt_z62.2.2 ∈ lw_tbl := xw_tab_in 4 _ (List.mem_of_getElem? (i := 222) rfl)
theorem zt_cd63 : Jvm.Cond.code zt_z63.1 zt_z63.2.1 zt_m63.2.1.2.1 zt_z63.2.2 ∈ lw_tbl := xw_tab_in 9 _ (List.mem_of_getElem? (i := 95) rfl)
theorem zt_cd64 : Jvm.Cond.code zt_z64.1 zt_z64.2.1 zt_m64.2.1.2.1 zt_z64.2.2 ∈ lw_tbl := xw_tab_in 8 _ (List.mem_of_getElem? (i := 186) rfl)
theorem zt_cd65 : Jvm.Cond.code zt_z65.1 zt_z65.2.1 zt_m65.2.1.2.1 zt_z65.2.2 ∈ lw_tbl := xw_tab_in 4 _ (List.mem_of_getElem? (i := 226) rfl)
theorem zt_cd66 : Jvm.Cond.code zt_z66.1 zt_z66.2.1 zt_m66.2.1.2.1 zt_z66.2.2 ∈ lw_tbl := xw_tab_in 4 _ (List.mem_of_getElem? (i := 237) rfl)
theorem zt_cd67 : Jvm.Cond.code zt_z67.1 zt_z67.2.1 zt_m67.2.1.2.1 zt_z67.2.2 ∈ lw_tbl := xw_tab_in 9 _ (List.mem_of_getElem? (i := 44) rfl)
theorem zt_cd68 : Jvm.Cond.code zt_z68.1 zt_z68.2.1 zt_m68.2.1.2.1 zt_z68.2.2 ∈ lw_tbl := xw_tab_in 5 _ (List.mem_of_getElem? (i := 15) rfl)
theorem zt_cd69 : Jvm.Cond.code zt_z69.1 zt_z69.2.1 zt_m69.2.1.2.1 zt_z69.2.2 ∈ lw_tbl := xw_tab_in 9 _ (List.mem_of_getElem? (i := 100) rfl)
theorem zt_cd70 : Jvm.Cond.code zt_z70.1 zt_z70.2.1 zt_m70.2.1.2.1 zt_z70.2.2 ∈ lw_tbl := xw_tab_in 5 _ (List.mem_of_getElem? (i := 18) rfl)
theorem zt_cd71 : Jvm.Cond.code zt_z71.1 zt_z71.2.1 zt_m71.2.1.2.1 zt_z71.2.2 ∈ lw_tbl := xw_tab_in 5 _ (List.mem_of_getElem? (i := 21) rfl)
theorem zt_cd72 : Jvm.Cond.code zt_z72.1 zt_z72.2.1 zt_m72.2.1.2.1 zt_z72.2.2 ∈ lw_tbl := xw_tab_in 3 _ (List.mem_of_getElem? (i := 198) rfl)
theorem zt_cd73 : Jvm.Cond.code zt_z73.1 zt_z73.2.1 zt_m73.2.1.2.1 zt_z73.2.2 ∈ lw_tbl := xw_tab_in 5 _ (List.mem_of_getElem? (i := 26) rfl)
theorem zt_cd74 : Jvm.Cond.code zt_z74.1 zt_z74.2.1 zt_m74.2.1.2.1 zt_z74.2.2 ∈ lw_tbl := xw_tab_in 5 _ (List.mem_of_getElem? (i := 30) rfl)
theorem zt_cd75 : Jvm.Cond.code zt_z75.1 zt_z75.2.1 zt_m75.2.1.2.1 zt_z75.2.2 ∈ lw_tbl := xw_tab_in 9 _ (List.mem_of_getElem? (i := 104) rfl)
theorem zt_cd76 : Jvm.Cond.code zt_z76.1 zt_z76.2.1 zt_m76.2.1.2.1 zt_z76.2.2 ∈ lw_tbl := xw_tab_in 9 _ (List.mem_of_getElem? (i := 108) rfl)
theorem zt_cd77 : Jvm.Cond.code zt_z77.1 zt_z77.2.1 zt_m77.2.1.2.1 zt_z77.2.2 ∈ lw_tbl := xw_tab_in 9 _ (List.mem_of_getElem? (i := 112) rfl)
theorem zt_cd78 : Jvm.Cond.code zt_z78.1 zt_z78.2.1 zt_m78.2.1.2.1 zt_z78.2.2 ∈ lw_tbl := xw_tab_in 5 _ (List.mem_of_getElem? (i := 38) rfl)
theorem zt_cd79 : Jvm.Cond.code zt_z79.1 zt_z79.2.1 zt_m79.2.1.2.1 zt_z79.2.2 ∈ lw_tbl := xw_tab_in 9 _ (List.mem_of_getElem? (i := 116) rfl)
theorem zt_cd80 : Jvm.Cond.code zt_z80.1 zt_z80.2.1 zt_m80.2.1.2.1 zt_z80.2.2 ∈ lw_tbl := xw_tab_in 5 _ (List.mem_of_getElem? (i := 46) rfl)
theorem zt_cd81 : Jvm.Cond.code zt_z81.1 zt_z81.2.1 zt_m81.2.1.2.1 zt_z81.2.2 ∈ lw_tbl := xw_tab_in 9 _ (List.mem_of_getElem? (i := 120) rfl)
theorem zt_cd82 : Jvm.Cond.code zt_z82.1 zt_z82.2.1 zt_m82.2.1.2.1 zt_z82.2.2 ∈ lw_tbl := xw_tab_in 5 _ (List.mem_of_getElem? (i := 54) rfl)
theorem zt_cd83 : Jvm.Cond.code zt_z83.1 zt_z83.2.1 zt_m83.2.1.2.1 zt_z83.2.2 ∈ lw_tbl := xw_tab_in 9 _ (List.mem_of_getElem? (i := 124) rfl)
theorem zt_cd84 : Jvm.Cond.code zt_z84.1 zt_z84.2.1 zt_m84.2.1.2.1 zt_z84.2.2 ∈ lw_tbl := xw_tab_in 5 _ (List.mem_of_getElem? (i := 58) rfl)
theorem zt_cd85 : Jvm.Cond.code zt_z85.1 zt_z85.2.1 zt_m85.2.1.2.1 zt_z85.2.2 ∈ lw_tbl := xw_tab_in 5 _ (List.mem_of_getElem? (i := 62) rfl)
theorem zt_cd86 : Jvm.Cond.code zt_z86.1 zt_z86.2.1 zt_m86.2.1.2.1 zt_z86.2.2 ∈ lw_tbl := xw_tab_in 9 _ (List.mem_of_getElem? (i := 128) rfl)
theorem zt_cd87 : Jvm.Cond.code zt_z87.1 zt_z87.2.1 zt_m87.2.1.2.1 zt_z87.2.2 ∈ lw_tbl := xw_tab_in 5 _ (List.mem_of_getElem? (i := 66) rfl)
theorem zt_cd88 : Jvm.Cond.code zt_z88.1 zt_z88.2.1 zt_m88.2.1.2.1 zt_z88.2.2 ∈ lw_tbl := xw_tab_in 5 _ (List.mem_of_getElem? (i := 111) rfl)
theorem zt_cd89 : Jvm.Cond.code zt_z89.1 zt_z89.2.1 zt_m89.2.1.2.1 zt_z89.2.2 ∈ lw_tbl := xw_tab_in 9 _ (List.mem_of_getElem? (i := 132) rfl)
theorem zt_cd90 : Jvm.Cond.code zt_z90.1 zt_z90.2.1 zt_m90.2.1.2.1 zt_z90.2.2 ∈ lw_tbl := xw_tab_in 5 _ (List.mem_of_getElem? (i := 119) rfl)
theorem zt_cd91 : Jvm.Cond.code zt_z91.1 zt_z91.2.1 zt_m91.2.1.2.1 zt_z91.2.2 ∈ lw_tbl := xw_tab_in 9 _ (List.mem_of_getElem? (i := 165) rfl)
theorem zt_cd92 : Jvm.Cond.code zt_z92.1 zt_z92.2.1 zt_m92.2.1.2.1 zt_z92.2.2 ∈ lw_tbl := xw_tab_in 5 _ (List.mem_of_getElem? (i := 123) rfl)
theorem zt_cd93 : Jvm.Cond.code zt_z93.1 zt_z93.2.1 zt_m93.2.1.2.1 zt_z93.2.2 ∈ lw_tbl := xw_tab_in 9 _ (List.mem_of_getElem? (i := 169) rfl)
theorem zt_cd94 : Jvm.Cond.code zt_z94.1 zt_z94.2.1 zt_m94.2.1.2.1 zt_z94.2.2 ∈ lw_tbl := xw_tab_in 5 _ (List.mem_of_getElem? (i := 131) rfl)
theorem zt_cd95 : Jvm.Cond.code zt_z95.1 zt_z95.2.1 zt_m95.2.1.2.1 zt_z95.2.2 ∈ lw_tbl := xw_tab_in 9 _ (List.mem_of_getElem? (i := 181) rfl)
theorem zt_cd96 : Jvm.Cond.code zt_z96.1 zt_z96.2.1 zt_m96.2.1.2.1 zt_z96.2.2 ∈ lw_tbl := xw_tab_in 5 _ (List.mem_of_getElem? (i := 144) rfl)
theorem zt_cd97 : Jvm.Cond.code zt_z97.1 zt_z97.2.1 zt_m97.2.1.2.1 zt_z97.2.2 ∈ lw_tbl := xw_tab_in 9 _ (List.mem_of_getElem? (i := 185) rfl)
theorem zt_cd98 : Jvm.Cond.code zt_z98.1 zt_z98.2.1 zt_m98.2.1.2.1 zt_z98.2.2 ∈ lw_tbl := xw_tab_in 5 _ (List.mem_of_getElem? (i := 194) rfl)
theorem zt_cd99 : Jvm.Cond.code zt_z99.1 zt_z99.2.1 zt_m99.2.1.2.1 zt_z99.2.2 ∈ lw_tbl := xw_tab_in 5 _ (List.mem_of_getElem? (i := 197) rfl)
theorem zt_cd100 : Jvm.Cond.code zt_z100.1 zt_z100.2.1 zt_m100.2.1.2.1 zt_z100.2.2 ∈ lw_tbl := xw_tab_in 9 _ (List.mem_of_getElem? (i := 205) rfl)
theorem zt_cd101 : Jvm.Cond.code zt_z101.1 zt_z101.2.1 zt_m101.2.1.2.1 zt_z101.2.2 ∈ lw_tbl := xw_tab_in 5 _ (List.mem_of_getElem? (i := 215) rfl)
theorem zt_cd102 : Jvm.Cond.code zt_z102.1 zt_z102.2.1 zt_m102.2.1.2.1 zt_z102.2.2 ∈ lw_tbl := xw_tab_in 9 _ (List.mem_of_getElem? (i := 209) rfl)
theorem zt_cd103 : Jvm.Cond.code zt_z103.1 zt_z103.2.1 zt_m103.2.1.2.1 zt_z103.2.2 ∈ lw_tbl := xw_tab_in 5 _ (List.mem_of_getElem? (i := 219) rfl)
theorem zt_cd104 : Jvm.Cond.code zt_z104.1 zt_z104.2.1 zt_m104.2.1.2.1 zt_z104.2.2 ∈ lw_tbl := xw_tab_in 5 _ (List.mem_of_getElem? (i := 223) rfl)
theorem zt_cd105 : Jvm.Cond.code zt_z105.1 zt_z105.2.1 zt_m105.2.1.2.1 zt_z105.2.2 ∈ lw_tbl := xw_tab_in 5 _ (List.mem_of_getElem? (i := 209) rfl)
theorem zt_cd106 : Jvm.Cond.code zt_z106.1 zt_z106.2.1 zt_m106.2.1.2.1 zt_z106.2.2 ∈ lw_tbl := xw_tab_in 9 _ (List.mem_of_getElem? (i := 213) rfl)
theorem zt_cd107 : Jvm.Cond.code zt_z107.1 zt_z107.2.1 zt_m107.2.1.2.1 zt_z107.2.2 ∈ lw_tbl := xw_tab_in 9 _ (List.mem_of_getElem? (i := 193) rfl)
theorem zt_cd108 : Jvm.Cond.code zt_z108.1 zt_z108.2.1 zt_m108.2.1.2.1 zt_z108.2.2 ∈ lw_tbl := xw_tab_in 9 _ (List.mem_of_getElem? (i := 197) rfl)
theorem zt_cd109 : Jvm.Cond.code zt_z109.1 zt_z109.2.1 zt_m109.2.1.2.1 zt_z109.2.2 ∈ lw_tbl := xw_tab_in 5 _ (List.mem_of_getElem? (i := 227) rfl)
theorem zt_cd110 : Jvm.Cond.code zt_z110.1 zt_z110.2.1 zt_m110.2.1.2.1 zt_z110.2.2 ∈ lw_tbl := xw_tab_in 9 _ (List.mem_of_getElem? (i := 217) rfl)
theorem zt_cd111 : Jvm.Cond.code zt_z111.1 zt_z111.2.1 zt_m111.2.1.2.1 zt_z111.2.2 ∈ lw_tbl := xw_tab_in 5 _ (List.mem_of_getElem? (i := 231) rfl)
theorem zt_cd112 : Jvm.Cond.code zt_z112.1 zt_z112.2.1 zt_m112.2.1.2.1 zt_z112.2.2 ∈ lw_tbl := xw_tab_in 5 _ (List.mem_of_getElem? (i := 236) rfl)
theorem zt_cd113 : Jvm.Cond.code zt_z113.1 zt_z113.2.1 zt_m113.2.1.2.1 zt_z113.2.2 ∈ lw_tbl := xw_tab_in 6 _ (List.mem_of_getElem? (i := 0) rfl)
theorem zt_cd114 : Jvm.Cond.code zt_z114.1 zt_z114.2.1 zt_m114.2.1.2.1 zt_z114.2.2 ∈ lw_tbl := xw_tab_in 6 _ (List.mem_of_getElem? (i := 4) rfl)
theorem zt_cd115 : Jvm.Cond.code zt_z115.1 zt_z115.2.1 zt_m115.2.1.2.1 zt_z115.2.2 ∈ lw_tbl := xw_tab_in 6 _ (List.mem_of_getElem? (i := 8) rfl)
theorem zt_cd116 : Jvm.Cond.code zt_z116.1 zt_z116.2.1 zt_m116.2.1.2.1 zt_z116.2.2 ∈ lw_tbl := xw_tab_in 6 _ (List.mem_of_getElem? (i := 12) rfl)
theorem zt_cd117 : Jvm.Cond.code zt_z117.1 zt_z117.2.1 zt_m117.2.1.2.1 zt_z117.2.2 ∈ lw_tbl := xw_tab_in 9 _ (List.mem_of_getElem? (i := 221) rfl)
theorem zt_cd118 : Jvm.Cond.code zt_z118.1 zt_z118.2.1 zt_m118.2.1.2.1 zt_z118.2.2 ∈ lw_tbl := xw_tab_in 9 _ (List.mem_of_getElem? (i := 225) rfl)
theorem zt_cd119 : Jvm.Cond.code zt_z119.1 zt_z119.2.1 zt_m119.2.1.2.1 zt_z119.2.2 ∈ lw_tbl := xw_tab_in 9 _ (List.mem_of_getElem? (i := 229) rfl)
theorem zt_cd120 : Jvm.Cond.code zt_z120.1 zt_z120.2.1 zt_m120.2.1.2.1 zt_z120.2.2 ∈ lw_tbl := xw_tab_in 9 _ (List.mem_of_getElem? (i := 51) rfl)
theorem zt_cd121 : Jvm.Cond.code zt_z121.1 zt_z121.2.1 zt_m121.2.1.2.1 zt_z121.2.2 ∈ lw_tbl := xw_tab_in 9 _ (List.mem_of_getElem? (i := 233) rfl)
theorem zt_cd122 : Jvm.Cond.code zt_z122.1 zt_z122.2.1 zt_m122.2.1.2.1 zt_z122.2.2 ∈ lw_tbl := xw_tab_in 9 _ (List.mem_of_getElem? (i := 237) rfl)
theorem zt_cd123 : Jvm.Cond.code zt_z123.1 zt_z123.2.1 zt_m123.2.1.2.1 zt_z123.2.2 ∈ lw_tbl := xw_tab_in 6 _ (List.mem_of_getElem? (i := 16) rfl)
theorem zt_cd124 : Jvm.Cond.code zt_z124.1 zt_z124.2.1 zt_m124.2.1.2.1 zt_z124.2.2 ∈ lw_tbl := xw_tab_in 10 _ (List.mem_of_getElem? (i := 1) rfl)
theorem zt_cd125 : Jvm.Cond.code zt_z125.1 zt_z125.2.1 zt_m125.2.1.2.1 zt_z125.2.2 ∈ lw_tbl := xw_tab_in 6 _ (List.mem_of_getElem? (i := 20) rfl)
theorem zt_cd126 : Jvm.Cond.code zt_z126.1 zt_z126.2.1 zt_m126.2.1.2.1 zt_z126.2.2 ∈ lw_tbl := xw_tab_in 10 _ (List.mem_of_getElem? (i := 5) rfl)
theorem zt_cd127 : Jvm.Cond.code zt_z127.1 zt_z127.2.1 zt_m127.2.1.2.1 zt_z127.2.2 ∈ lw_tbl := xw_tab_in 6 _ (List.mem_of_getElem? (i := 25) rfl)
theorem zt_cd128 : Jvm.Cond.code zt_z128.1 zt_z128.2.1 zt_m128.2.1.2.1 zt_z128.2.2 ∈ lw_tbl := xw_tab_in 6 _ (List.mem_of_getElem? (i := 28) rfl)
theorem zt_cd129 : Jvm.Cond.code zt_z129.1 zt_z129.2.1 zt_m129.2.1.2.1 zt_z129.2.2 ∈ lw_tbl := xw_tab_in 6 _ (List.mem_of_getElem? (i := 33) rfl)
theorem zt_cd130 : Jvm.Cond.code zt_z130.1 zt_z130.2.1 zt_m130.2.1.2.1 zt_z130.2.2 ∈ lw_tbl := xw_tab_in 6 _ (List.mem_of_getElem? (i := 37) rfl)
theorem zt_cd131 : Jvm.Cond.code zt_z131.1 zt_z131.2.1 zt_m131.2.1.2.1 zt_z131.2.2 ∈ lw_tbl := xw_tab_in 10 _ (List.mem_of_getElem? (i := 10) rfl)
theorem zt_cd132 : Jvm.Cond.code zt_z132.1 zt_z132.2.1 zt_m132.2.1.2.1 zt_z132.2.2 ∈ lw_tbl := xw_tab_in 6 _ (List.mem_of_getElem? (i := 45) rfl)
theorem zt_cd133 : Jvm.Cond.code zt_z133.1 zt_z133.2.1 zt_m133.2.1.2.1 zt_z133.2.2 ∈ lw_tbl := xw_tab_in 10 _ (List.mem_of_getElem? (i := 18) rfl)
theorem zt_cd134 : Jvm.Cond.code zt_z134.1 zt_z134.2.1 zt_m134.2.1.2.1 zt_z134.2.2 ∈ lw_tbl := xw_tab_in 6 _ (List.mem_of_getElem? (i := 50) rfl)
theorem zt_cd135 : Jvm.Cond.code zt_z135.1 zt_z135.2.1 zt_m135.2.1.2.1 zt_z135.2.2 ∈ lw_tbl := xw_tab_in 10 _ (List.mem_of_getElem? (i := 22) rfl)
theorem zt_cd136 : Jvm.Cond.code zt_z136.1 zt_z136.2.1 zt_m136.2.1.2.1 zt_z136.2.2 ∈ lw_tbl := xw_tab_in 6 _ (List.mem_of_getElem? (i := 54) rfl)
theorem zt_cd137 : Jvm.Cond.code zt_z137.1 zt_z137.2.1 zt_m137.2.1.2.1 zt_z137.2.2 ∈ lw_tbl := xw_tab_in 6 _ (List.mem_of_getElem? (i := 62) rfl)
theorem zt_cd138 : Jvm.Cond.code zt_z138.1 zt_z138.2.1 zt_m138.2.1.2.1 zt_z138.2.2 ∈ lw_tbl := xw_tab_in 10 _ (List.mem_of_getElem? (i := 30) rfl)
theorem zt_cd139 : Jvm.Cond.code zt_z139.1 zt_z139.2.1 zt_m139.2.1.2.1 zt_z139.2.2 ∈ lw_tbl := xw_tab_in 6 _ (List.mem_of_getElem? (i := 70) rfl)
theorem zt_cd140 : Jvm.Cond.code zt_z140.1 zt_z140.2.1 zt_m140.2.1.2.1 zt_z140.2.2 ∈ lw_tbl := xw_tab_in 10 _ (List.mem_of_getElem? (i := 34) rfl)
theorem zt_cd141 : Jvm.Cond.code zt_z141.1 zt_z141.2.1 zt_m141.2.1.2.1 zt_z141.2.2 ∈ lw_tbl := xw_tab_in 6 _ (List.mem_of_getElem? (i := 78) rfl)
theorem zt_cd142 : Jvm.Cond.code zt_z142.1 zt_z142.2.1 zt_m142.2.1.2.1 zt_z142.2.2 ∈ lw_tbl := xw_tab_in 6 _ (List.mem_of_getElem? (i := 82) rfl)
theorem zt_cd143 : Jvm.Cond.code zt_z143.1 zt_z143.2.1 zt_m143.2.1.2.1 zt_z143.2.2 ∈ lw_tbl := xw_tab_in 10 _ (List.mem_of_getElem? (i := 42) rfl)
theorem zt_cd144 : Jvm.Cond.code zt_z144.1 zt_z144.2.1 zt_m144.2.1.2.1 zt_z144.2.2 ∈ lw_tbl := xw_tab_in 6 _ (List.mem_of_getElem? (i := 86) rfl)
theorem zt_cd145 : Jvm.Cond.code zt_z145.1 zt_z145.2.1 zt_m145.2.1.2.1 zt_z145.2.2 ∈ lw_tbl := xw_tab_in 10 _ (List.mem_of_getElem? (i := 46) rfl)
theorem zt_cd146 : Jvm.Cond.code zt_z146.1 zt_z146.2.1 zt_m146.2.1.2.1 zt_z146.2.2 ∈ lw_tbl := xw_tab_in 6 _ (List.mem_of_getElem? (i := 90) rfl)
theorem zt_cd147 : Jvm.Cond.code zt_z147.1 zt_z147.2.1 zt_m147.2.1.2.1 zt_z147.2.2 ∈ lw_tbl := xw_tab_in 10 _ (List.mem_of_getElem? (i := 50) rfl)
theorem zt_cd148 : Jvm.Cond.code zt_z148.1 zt_z148.2.1 zt_m148.2.1.2.1 zt_z148.2.2 ∈ lw_tbl := xw_tab_in 6 _ (List.mem_of_getElem? (i := 123) rfl)
theorem zt_cd149 : Jvm.Cond.code zt_z149.1 zt_z149.2.1 zt_m149.2.1.2.1 zt_z149.2.2 ∈ lw_tbl := xw_tab_in 10 _ (List.mem_of_getElem? (i := 62) rfl)
theorem zt_cd150 : Jvm.Cond.code zt_z150.1 zt_z150.2.1 zt_m150.2.1.2.1 zt_z150.2.2 ∈ lw_tbl := xw_tab_in 6 _ (List.mem_of_getElem? (i := 131) rfl)
theorem zt_cd151 : Jvm.Cond.code zt_z151.1 zt_z151.2.1 zt_m151.2.1.2.1 zt_z151.2.2 ∈ lw_tbl := xw_tab_in 10 _ (List.mem_of_getElem? (i := 66) rfl)
theorem zt_cd152 : Jvm.Cond.code zt_z152.1 zt_z152.2.1 zt_m152.2.1.2.1 zt_z152.2.2 ∈ lw_tbl := xw_tab_in 6 _ (List.mem_of_getElem? (i := 135) rfl)
theorem zt_cd153 : Jvm.Cond.code zt_z153.1 zt_z153.2.1 zt_m153.2.1.2.1 zt_z153.2.2 ∈ lw_tbl := xw_tab_in 6 _ (List.mem_of_getElem? (i := 139) rfl)
theorem zt_cd154 : Jvm.Cond.code zt_z154.1 zt_z154.2.1 zt_m154.2.1.2.1 zt_z154.2.2 ∈ lw_tbl := xw_tab_in 10 _ (List.mem_of_getElem? (i := 70) rfl)
theorem zt_cd155 : Jvm.Cond.code zt_z155.1 zt_z155.2.1 zt_m155.2.1.2.1 zt_z155.2.2 ∈ lw_tbl := xw_tab_in 6 _ (List.mem_of_getElem? (i := 143) rfl)
theorem zt_cd156 : Jvm.Cond.code zt_z156.1 zt_z156.2.1 zt_m156.2.1.2.1 zt_z156.2.2 ∈ lw_tbl := xw_tab_in 6 _ (List.mem_of_getElem? (i := 147) rfl)
theorem zt_cd157 : Jvm.Cond.code zt_z157.1 zt_z157.2.1 zt_m157.2.1.2.1 zt_z157.2.2 ∈ lw_tbl := xw_tab_in 10 _ (List.mem_of_getElem? (i := 74) rfl)
theorem zt_cd158 : Jvm.Cond.code zt_z158.1 zt_z158.2.1 zt_m158.2.1.2.1 zt_z158.2.2 ∈ lw_tbl := xw_tab_in 6 _ (List.mem_of_getElem? (i := 152) rfl)
theorem zt_cd159 : Jvm.Cond.code zt_z159.1 zt_z159.2.1 zt_m159.2.1.2.1 zt_z159.2.2 ∈ lw_tbl := xw_tab_in 10 _ (List.mem_of_getElem? (i := 82) rfl)
theorem zt_cd160 : Jvm.Cond.code zt_z160.1 zt_z160.2.1 zt_m160.2.1.2.1 zt_z160.2.2 ∈ lw_tbl := xw_tab_in 6 _ (List.mem_of_getElem? (i := 156) rfl)
theorem zt_cd161 : Jvm.Cond.code zt_z161.1 zt_z161.2.1 zt_m161.2.1.2.1 zt_z161.2.2 ∈ lw_tbl := xw_tab_in 10 _ (List.mem_of_getElem? (i := 86) rfl)
theorem zt_cd162 : Jvm.Cond.code zt_z162.1 zt_z162.2.1 zt_m162.2.1.2.1 zt_z162.2.2 ∈ lw_tbl := xw_tab_in 6 _ (List.mem_of_getElem? (i := 160) rfl)
theorem zt_cd163 : Jvm.Cond.code zt_z163.1 zt_z163.2.1 zt_m163.2.1.2.1 zt_z163.2.2 ∈ lw_tbl := xw_tab_in 10 _ (List.mem_of_getElem? (i := 90) rfl)
theorem zt_cd164 : Jvm.Cond.code zt_z164.1 zt_z164.2.1 zt_m164.2.1.2.1 zt_z164.2.2 ∈ lw_tbl := xw_tab_in 6 _ (List.mem_of_getElem? (i := 164) rfl)
theorem zt_cd165 : Jvm.Cond.code zt_z165.1 zt_z165.2.1 zt_m165.2.1.2.1 zt_z165.2.2 ∈ lw_tbl := xw_tab_in 10 _ (List.mem_of_getElem? (i := 94) rfl)
theorem zt_cd166 : Jvm.Cond.code zt_z166.1 zt_z166.2.1 zt_m166.2.1.2.1 zt_z166.2.2 ∈ lw_tbl := xw_tab_in 6 _ (List.mem_of_getElem? (i := 169) rfl)
theorem zt_cd167 : Jvm.Cond.code zt_z167.1 zt_z167.2.1 zt_m167.2.1.2.1 zt_z167.2.2 ∈ lw_tbl := xw_tab_in 6 _ (List.mem_of_getElem? (i := 102) rfl)
theorem zt_cd168 : Jvm.Cond.code zt_z168.1 zt_z168.2.1 zt_m168.2.1.2.1 zt_z168.2.2 ∈ lw_tbl := xw_tab_in 10 _ (List.mem_of_getElem? (i := 54) rfl)
theorem zt_cd169 : Jvm.Cond.code zt_z169.1 zt_z169.2.1 zt_m169.2.1.2.1 zt_z169.2.2 ∈ lw_tbl := xw_tab_in 5 _ (List.mem_of_getElem? (i := 205) rfl)
theorem zt_cd170 : Jvm.Cond.code zt_z170.1 zt_z170.2.1 zt_m170.2.1.2.1 zt_z170.2.2 ∈ lw_tbl := xw_tab_in 9 _ (List.mem_of_getElem? (i := 201) rfl)
theorem zt_wcd_ok : ∀ w ∈ zt_wcd, w ∈ lw_tbl ∧ goodWord w = true := by
  unfold zt_wcd
  refine List.forall_mem_cons.mpr ⟨⟨zt_cd0, rfl⟩, ?_⟩
  refine List.forall_mem_cons.mpr ⟨⟨zt_cd1, rfl⟩, ?_⟩
  refine List.forall_mem_cons.mpr ⟨⟨zt_cd2, rfl⟩, ?_⟩
  refine List.forall_mem_cons.mpr ⟨⟨zt_cd3, rfl⟩, ?_⟩
  refine List.forall_mem_cons.mpr ⟨⟨zt_cd4, rfl⟩, ?_⟩
  refine List.forall_mem_cons.mpr ⟨⟨zt_cd5, rfl⟩, ?_⟩
  refine List.forall_mem_cons.mpr ⟨⟨zt_cd6, rfl⟩, ?_⟩
  refine List.forall_mem_cons.mpr ⟨⟨zt_cd7, rfl⟩, ?_⟩
  refine List.forall_mem_cons.mpr ⟨⟨zt_cd8, rfl⟩, ?_⟩
  refine List.forall_mem_cons.mpr ⟨⟨zt_cd9, rfl⟩, ?_⟩
  refine List.forall_mem_cons.mpr ⟨⟨zt_cd10, rfl⟩, ?_⟩
  refine List.forall_mem_cons.mpr ⟨⟨zt_cd11, rfl⟩, ?_⟩
  refine List.forall_mem_cons.mpr ⟨⟨zt_cd12, rfl⟩, ?_⟩
  refine List.forall_mem_cons.mpr ⟨⟨zt_cd13, rfl⟩, ?_⟩
  refine List.forall_mem_cons.mpr ⟨⟨zt_cd14, rfl⟩, ?_⟩
  refine List.forall_mem_cons.mpr ⟨⟨zt_cd15, rfl⟩, ?_⟩
  refine List.forall_mem_cons.mpr ⟨⟨zt_cd16, rfl⟩, ?_⟩
  refine List.forall_mem_cons.mpr ⟨⟨zt_cd17, rfl⟩, ?_⟩
  refine List.forall_mem_cons.mpr ⟨⟨zt_cd18, rfl⟩, ?_⟩
  refine List.forall_mem_cons.mpr ⟨⟨zt_cd19, rfl⟩, ?_⟩
  refine List.forall_mem_cons.mpr ⟨⟨zt_cd20, rfl⟩, ?_⟩
  refine List.forall_mem_cons.mpr ⟨⟨zt_cd21, rfl⟩, ?_⟩
  refine List.forall_mem_cons.mpr ⟨⟨zt_cd22, rfl⟩, ?_⟩
  refine List.forall_mem_cons.mpr ⟨⟨zt_cd23, rfl⟩, ?_⟩
  refine List.forall_mem_cons.mpr ⟨⟨zt_cd24, rfl⟩, ?_⟩
  refine List.forall_mem_cons.mpr ⟨⟨zt_cd25, rfl⟩, ?_⟩
  refine List.forall_mem_cons.mpr ⟨⟨zt_cd26, rfl⟩, ?_⟩
  refine List.forall_mem_cons.mpr ⟨⟨zt_cd27, rfl⟩, ?_⟩
  refine List.forall_mem_cons.mpr ⟨⟨zt_cd28, rfl⟩, ?_⟩
  refine List.forall_mem_cons.mpr ⟨⟨zt_cd29, rfl⟩, ?_⟩
  refine List.forall_mem_cons.mpr ⟨⟨zt_cd30, rfl⟩, ?_⟩
  refine List.forall_mem_cons.mpr ⟨⟨zt_cd31, rfl⟩, ?_⟩
  refine List.forall_mem_cons.mpr ⟨⟨zt_cd32, rfl⟩, ?_⟩
  refine List.forall_mem_cons.mpr ⟨⟨zt_cd33, rfl⟩, ?_⟩
  refine List.forall_mem_cons.mpr ⟨⟨zt_cd34, rfl⟩, ?_⟩
  refine List.forall_mem_cons.mpr ⟨⟨zt_cd35, rfl⟩, ?_⟩
  refine List.forall_mem_cons.mpr ⟨⟨zt_cd36, rfl⟩, ?_⟩
  refine List.forall_mem_cons.mpr ⟨⟨zt_cd37, rfl⟩, ?_⟩
  refine List.forall_mem_cons.mpr ⟨⟨zt_cd38, rfl⟩, ?_⟩
  refine List.forall_mem_cons.mpr ⟨⟨zt_cd39, rfl⟩, ?_⟩
  refine List.forall_mem_cons.mpr ⟨⟨zt_cd40, rfl⟩, ?_⟩
  refine List.forall_mem_cons.mpr ⟨⟨zt_cd41, rfl⟩, ?_⟩
  refine List.forall_mem_cons.mpr ⟨⟨zt_cd42, rfl⟩, ?_⟩
  refine List.forall_mem_cons.mpr ⟨⟨zt_cd43, rfl⟩, ?_⟩
  refine List.forall_mem_cons.mpr ⟨⟨zt_cd44, rfl⟩, ?_⟩
  refine List.forall_mem_cons.mpr ⟨⟨zt_cd45, rfl⟩, ?_⟩
  refine List.forall_mem_cons.mpr ⟨⟨zt_cd46, rfl⟩, ?_⟩
  refine List.forall_mem_cons.mpr ⟨⟨zt_cd47, rfl⟩, ?_⟩
  refine List.forall_mem_cons.mpr ⟨⟨zt_cd48, rfl⟩, ?_⟩
  refine List.forall_mem_cons.mpr ⟨⟨zt_cd49, rfl⟩, ?_⟩
  refine List.forall_mem_cons.mpr ⟨⟨zt_cd50, rfl⟩, ?_⟩
  refine List.forall_mem_cons.mpr ⟨⟨zt_cd51, rfl⟩, ?_⟩
  refine List.forall_mem_cons.mpr ⟨⟨zt_cd52, rfl⟩, ?_⟩
  refine List.forall_mem_cons.mpr ⟨⟨zt_cd53, rfl⟩, ?_⟩
  refine List.forall_mem_cons.mpr ⟨⟨zt_cd54, rfl⟩, ?_⟩
  refine List.forall_mem_cons.mpr ⟨⟨zt_cd55, rfl⟩, ?_⟩
  refine List.forall_mem_cons.mpr ⟨⟨zt_cd56, rfl⟩, ?_⟩
  refine List.forall_mem_cons.mpr ⟨⟨zt_cd57, rfl⟩, ?_⟩
  refine List.forall_mem_cons.mpr ⟨⟨zt_cd58, rfl⟩, ?_⟩
  refine List.forall_mem_cons.mpr ⟨⟨zt_cd59, rfl⟩, ?_⟩
  refine List.forall_mem_cons.mpr ⟨⟨zt_cd60, rfl⟩, ?_⟩
  refine List.forall_mem_cons.mpr ⟨⟨zt_cd61, rfl⟩, ?_⟩
  refine List.forall_mem_cons.mpr ⟨⟨zt_cd62, rfl⟩, ?_⟩
  refine List.forall_mem_cons.mpr ⟨⟨zt_cd63, rfl⟩, ?_⟩
  refine List.forall_mem_cons.mpr ⟨⟨zt_cd64, rfl⟩, ?_⟩
  refine List.forall_mem_cons.mpr ⟨⟨zt_cd65, rfl⟩, ?_⟩
  refine List.forall_mem_cons.mpr ⟨⟨zt_cd66, rfl⟩, ?_⟩
  refine List.forall_mem_cons.mpr ⟨⟨zt_cd67, rfl⟩, ?_⟩
  refine List.forall_mem_cons.mpr ⟨⟨zt_cd68, rfl⟩, ?_⟩
  refine List.forall_mem_cons.mpr ⟨⟨zt_cd69, rfl⟩, ?_⟩
  refine List.forall_mem_cons.mpr ⟨⟨zt_cd70, rfl⟩, ?_⟩
  refine List.forall_mem_cons.mpr ⟨⟨zt_cd71, rfl⟩, ?_⟩
  refine List.forall_mem_cons.mpr ⟨⟨zt_cd72, rfl⟩, ?_⟩
  refine List.forall_mem_cons.mpr ⟨⟨zt_cd73, rfl⟩, ?_⟩
  refine List.forall_mem_cons.mpr ⟨⟨zt_cd74, rfl⟩, ?_⟩
  refine List.forall_mem_cons.mpr ⟨⟨zt_cd75, rfl⟩, ?_⟩
  refine List.forall_mem_cons.mpr ⟨⟨zt_cd76, rfl⟩, ?_⟩
  refine List.forall_mem_cons.mpr ⟨⟨zt_cd77, rfl⟩, ?_⟩
  refine List.forall_mem_cons.mpr ⟨⟨zt_cd78, rfl⟩, ?_⟩
  refine List.forall_mem_cons.mpr ⟨⟨zt_cd79, rfl⟩, ?_⟩
  refine List.forall_mem_cons.mpr ⟨⟨zt_cd80, rfl⟩, ?_⟩
  refine List.forall_mem_cons.mpr ⟨⟨zt_cd81, rfl⟩, ?_⟩
  refine List.forall_mem_cons.mpr ⟨⟨zt_cd82, rfl⟩, ?_⟩
  refine List.forall_mem_cons.mpr ⟨⟨zt_cd83, rfl⟩, ?_⟩
  refine List.forall_mem_cons.mpr ⟨⟨zt_cd84, rfl⟩, ?_⟩
  refine List.forall_mem_cons.mpr ⟨⟨zt_cd85, rfl⟩, ?_⟩
  refine List.forall_mem_cons.mpr ⟨⟨zt_cd86, rfl⟩, ?_⟩
  refine List.forall_mem_cons.mpr ⟨⟨zt_cd87, rfl⟩, ?_⟩
  refine List.forall_mem_cons.mpr ⟨⟨zt_cd88, rfl⟩, ?_⟩
  refine List.forall_mem_cons.mpr ⟨⟨zt_cd89, rfl⟩, ?_⟩
  refine List.forall_mem_cons.mpr ⟨⟨zt_cd90, rfl⟩, ?_⟩
  refine List.forall_mem_cons.mpr ⟨⟨zt_cd91, rfl⟩, ?_⟩
  refine List.forall_mem_cons.mpr ⟨⟨zt_cd92, rfl⟩, ?_⟩
  refine List.forall_mem_cons.mpr ⟨⟨zt_cd93, rfl⟩, ?_⟩
  refine List.forall_mem_cons.mpr ⟨⟨zt_cd94, rfl⟩, ?_⟩
  refine List.forall_mem_cons.mpr ⟨⟨zt_cd95, rfl⟩, ?_⟩
  refine List.forall_mem_cons.mpr ⟨⟨zt_cd96, rfl⟩, ?_⟩
  refine List.forall_mem_cons.mpr ⟨⟨zt_cd97, rfl⟩, ?_⟩
  refine List.forall_mem_cons.mpr ⟨⟨zt_cd98, rfl⟩, ?_⟩
  refine List.forall_mem_cons.mpr ⟨⟨zt_cd99, rfl⟩, ?_⟩
  refine List.forall_mem_cons.mpr ⟨⟨zt_cd100, rfl⟩, ?_⟩
  refine List.forall_mem_cons.mpr ⟨⟨zt_cd101, rfl⟩, ?_⟩
  refine List.forall_mem_cons.mpr ⟨⟨zt_cd102, rfl⟩, ?_⟩
  refine List.forall_mem_cons.mpr ⟨⟨zt_cd103, rfl⟩, ?_⟩
  refine List.forall_mem_cons.mpr ⟨⟨zt_cd104, rfl⟩, ?_⟩
  refine List.forall_mem_cons.mpr ⟨⟨zt_cd105, rfl⟩, ?_⟩
  refine List.forall_mem_cons.mpr ⟨⟨zt_cd106, rfl⟩, ?_⟩
  refine List.forall_mem_cons.mpr ⟨⟨zt_cd107, rfl⟩, ?_⟩
  refine List.forall_mem_cons.mpr ⟨⟨zt_cd108, rfl⟩, ?_⟩
  refine List.forall_mem_cons.mpr ⟨⟨zt_cd109, rfl⟩, ?_⟩
  refine List.forall_mem_cons.mpr ⟨⟨zt_cd110, rfl⟩, ?_⟩
  refine List.forall_mem_cons.mpr ⟨⟨zt_cd111, rfl⟩, ?_⟩
  refine List.forall_mem_cons.mpr ⟨⟨zt_cd112, rfl⟩, ?_⟩
  refine List.forall_mem_cons.mpr ⟨⟨zt_cd113, rfl⟩, ?_⟩
  refine List.forall_mem_cons.mpr ⟨⟨zt_cd114, rfl⟩, ?_⟩
  refine List.forall_mem_cons.mpr ⟨⟨zt_cd115, rfl⟩, ?_⟩
  refine List.forall_mem_cons.mpr ⟨⟨zt_cd116, rfl⟩, ?_⟩
  refine List.forall_mem_cons.mpr ⟨⟨zt_cd117, rfl⟩, ?_⟩
  refine List.forall_mem_cons.mpr ⟨⟨zt_cd118, rfl⟩, ?_⟩
  refine List.forall_mem_cons.mpr ⟨⟨zt_cd119, rfl⟩, ?_⟩
  refine List.forall_mem_cons.mpr ⟨⟨zt_cd120, rfl⟩, ?_⟩
  refine List.forall_mem_cons.mpr ⟨⟨zt_cd121, rfl⟩, ?_⟩
  refine List.forall_mem_cons.mpr ⟨⟨zt_cd122, rfl⟩, ?_⟩
  refine List.forall_mem_cons.mpr ⟨⟨zt_cd123, rfl⟩, ?_⟩
  refine List.forall_mem_cons.mpr ⟨⟨zt_cd124, rfl⟩, ?_⟩
  refine List.forall_mem_cons.mpr ⟨⟨zt_cd125, rfl⟩, ?_⟩
  refine List.forall_mem_cons.mpr ⟨⟨zt_cd126, rfl⟩, ?_⟩
  refine List.forall_mem_cons.mpr ⟨⟨zt_cd127, rfl⟩, ?_⟩
  refine List.forall_mem_cons.mpr ⟨⟨zt_cd128, rfl⟩, ?_⟩
  refine List.forall_mem_cons.mpr ⟨⟨zt_cd129, rfl⟩, ?_⟩
  refine List.forall_mem_cons.mpr ⟨⟨zt_cd130, rfl⟩, ?_⟩
  refine List.forall_mem_cons.mpr ⟨⟨zt_cd131, rfl⟩, ?_⟩
  refine List.forall_mem_cons.mpr ⟨⟨zt_cd132, rfl⟩, ?_⟩
  refine List.forall_mem_cons.mpr ⟨⟨zt_cd133, rfl⟩, ?_⟩
  refine List.forall_mem_cons.mpr ⟨⟨zt_cd134, rfl⟩, ?_⟩
  refine List.forall_mem_cons.mpr ⟨⟨zt_cd135, rfl⟩, ?_⟩
  refine List.forall_mem_cons.mpr ⟨⟨zt_cd136, rfl⟩, ?_⟩
  refine List.forall_mem_cons.mpr ⟨⟨zt_cd137, rfl⟩, ?_⟩
  refine List.forall_mem_cons.mpr ⟨⟨zt_cd138, rfl⟩, ?_⟩
  refine List.forall_mem_cons.mpr ⟨⟨zt_cd139, rfl⟩, ?_⟩
  refine List.forall_mem_cons.mpr ⟨⟨zt_cd140, rfl⟩, ?_⟩
  refine List.forall_mem_cons.mpr ⟨⟨zt_cd141, rfl⟩, ?_⟩
  refine List.forall_mem_cons.mpr ⟨⟨zt_cd142, rfl⟩, ?_⟩
  refine List.forall_mem_cons.mpr ⟨⟨zt_cd143, rfl⟩, ?_⟩
  refine List.forall_mem_cons.mpr ⟨⟨zt_cd144, rfl⟩, ?_⟩
  refine List.forall_mem_cons.mpr ⟨⟨zt_cd145, rfl⟩, ?_⟩
  refine List.forall_mem_cons.mpr ⟨⟨zt_cd146, rfl⟩, ?_⟩
  refine List.forall_mem_cons.mpr ⟨⟨zt_cd147, rfl⟩, ?_⟩
  refine List.forall_mem_cons.mpr ⟨⟨zt_cd148, rfl⟩, ?_⟩
  refine List.forall_mem_cons.mpr ⟨⟨zt_cd149, rfl⟩, ?_⟩
  refine List.forall_mem_cons.mpr ⟨⟨zt_cd150, rfl⟩, ?_⟩
  refine List.forall_mem_cons.mpr ⟨⟨zt_cd151, rfl⟩, ?_⟩
  refine List.forall_mem_cons.mpr ⟨⟨zt_cd152, rfl⟩, ?_⟩
  refine List.forall_mem_cons.mpr ⟨⟨zt_cd153, rfl⟩, ?_⟩
  refine List.forall_mem_cons.mpr ⟨⟨zt_cd154, rfl⟩, ?_⟩
  refine List.forall_mem_cons.mpr ⟨⟨zt_cd155, rfl⟩, ?_⟩
  refine List.forall_mem_cons.mpr ⟨⟨zt_cd156, rfl⟩, ?_⟩
  refine List.forall_mem_cons.mpr ⟨⟨zt_cd157, rfl⟩, ?_⟩
  refine List.forall_mem_cons.mpr ⟨⟨zt_cd158, rfl⟩, ?_⟩
  refine List.forall_mem_cons.mpr ⟨⟨zt_cd159, rfl⟩, ?_⟩
  refine List.forall_mem_cons.mpr ⟨⟨zt_cd160, rfl⟩, ?_⟩
  refine List.forall_mem_cons.mpr ⟨⟨zt_cd161, rfl⟩, ?_⟩
  refine List.forall_mem_cons.mpr ⟨⟨zt_cd162, rfl⟩, ?_⟩
  refine List.forall_mem_cons.mpr ⟨⟨zt_cd163, rfl⟩, ?_⟩
  refine List.forall_mem_cons.mpr ⟨⟨zt_cd164, rfl⟩, ?_⟩
  refine List.forall_mem_cons.mpr ⟨⟨zt_cd165, rfl⟩, ?_⟩
  refine List.forall_mem_cons.mpr ⟨⟨zt_cd166, rfl⟩, ?_⟩
  refine List.forall_mem_cons.mpr ⟨⟨zt_cd167, rfl⟩, ?_⟩
  refine List.forall_mem_cons.mpr ⟨⟨zt_cd168, rfl⟩, ?_⟩
  refine List.forall_mem_cons.mpr ⟨⟨zt_cd169, rfl⟩, ?_⟩
  refine List.forall_mem_cons.mpr ⟨⟨zt_cd170, rfl⟩, ?_⟩
  exact fun _ h => absurd h List.not_mem_nil
theorem zt_tb_ok : ∀ w ∈ zt_tb, w ∈ lw_tbl ∧ goodWord w = true := by
  have h : ∀ l ∈ zt_tbs, ∀ w ∈ l, w ∈ lw_tbl ∧ goodWord w = true := by
    unfold zt_tbs
    refine List.forall_mem_cons.mpr ⟨xw_in_ok zt_wc0_ok, ?_⟩
    refine List.forall_mem_cons.mpr ⟨xw_in_ok zt_wc1_ok, ?_⟩
    refine List.forall_mem_cons.mpr ⟨xw_in_ok zt_wc2_ok, ?_⟩
    refine List.forall_mem_cons.mpr ⟨xw_in_ok zt_wc3_ok, ?_⟩
    refine List.forall_mem_cons.mpr ⟨xw_in_ok zt_wc4_ok, ?_⟩
    refine List.forall_mem_cons.mpr ⟨xw_in_ok zt_wc5_ok, ?_⟩
    refine List.forall_mem_cons.mpr ⟨xw_in_ok zt_wc6_ok, ?_⟩
    refine List.forall_mem_cons.mpr ⟨xw_in_ok zt_wc7_ok, ?_⟩
    refine List.forall_mem_cons.mpr ⟨xw_in_ok zt_wc8_ok, ?_⟩
    refine List.forall_mem_cons.mpr ⟨xw_in_ok zt_wc9_ok, ?_⟩
    refine List.forall_mem_cons.mpr ⟨xw_in_ok zt_wc10_ok, ?_⟩
    refine List.forall_mem_cons.mpr ⟨xw_in_ok zt_wc11_ok, ?_⟩
    refine List.forall_mem_cons.mpr ⟨xw_in_ok zt_wc12_ok, ?_⟩
    refine List.forall_mem_cons.mpr ⟨xw_in_ok zt_wk0_ok, ?_⟩
    refine List.forall_mem_cons.mpr ⟨xw_in_ok zt_wk1_ok, ?_⟩
    refine List.forall_mem_cons.mpr ⟨xw_in_ok zt_wk2_ok, ?_⟩
    refine List.forall_mem_cons.mpr ⟨xw_in_ok zt_wk3_ok, ?_⟩
    refine List.forall_mem_cons.mpr ⟨xw_in_ok zt_wk4_ok, ?_⟩
    refine List.forall_mem_cons.mpr ⟨xw_in_ok zt_wk5_ok, ?_⟩
    refine List.forall_mem_cons.mpr ⟨xw_in_ok zt_wk6_ok, ?_⟩
    refine List.forall_mem_cons.mpr ⟨xw_in_ok zt_wk7_ok, ?_⟩
    refine List.forall_mem_cons.mpr ⟨xw_in_ok zt_wk8_ok, ?_⟩
    refine List.forall_mem_cons.mpr ⟨xw_in_ok zt_wk9_ok, ?_⟩
    refine List.forall_mem_cons.mpr ⟨xw_in_ok zt_wk10_ok, ?_⟩
    refine List.forall_mem_cons.mpr ⟨xw_in_ok zt_wk11_ok, ?_⟩
    refine List.forall_mem_cons.mpr ⟨xw_in_ok zt_wk12_ok, ?_⟩
    refine List.forall_mem_cons.mpr ⟨xw_in_ok zt_wkL_ok, ?_⟩
    refine List.forall_mem_cons.mpr ⟨xw_in_ok zt_wy0_ok, ?_⟩
    refine List.forall_mem_cons.mpr ⟨xw_in_ok zt_wy1_ok, ?_⟩
    refine List.forall_mem_cons.mpr ⟨xw_in_ok zt_wy2_ok, ?_⟩
    refine List.forall_mem_cons.mpr ⟨xw_in_ok zt_wy3_ok, ?_⟩
    refine List.forall_mem_cons.mpr ⟨xw_in_ok zt_wy4_ok, ?_⟩
    refine List.forall_mem_cons.mpr ⟨xw_in_ok zt_wy5_ok, ?_⟩
    refine List.forall_mem_cons.mpr ⟨xw_in_ok zt_wy6_ok, ?_⟩
    refine List.forall_mem_cons.mpr ⟨xw_in_ok zt_wy7_ok, ?_⟩
    refine List.forall_mem_cons.mpr ⟨xw_in_ok zt_wy8_ok, ?_⟩
    refine List.forall_mem_cons.mpr ⟨xw_in_ok zt_wy9_ok, ?_⟩
    refine List.forall_mem_cons.mpr ⟨xw_in_ok zt_wy10_ok, ?_⟩
    refine List.forall_mem_cons.mpr ⟨xw_in_ok zt_wy11_ok, ?_⟩
    refine List.forall_mem_cons.mpr ⟨xw_in_ok zt_wy12_ok, ?_⟩
    refine List.forall_mem_cons.mpr ⟨xw_in_ok zt_wy13_ok, ?_⟩
    refine List.forall_mem_cons.mpr ⟨xw_in_ok zt_wy14_ok, ?_⟩
    refine List.forall_mem_cons.mpr ⟨xw_in_ok zt_wy15_ok, ?_⟩
    refine List.forall_mem_cons.mpr ⟨xw_in_ok zt_wy16_ok, ?_⟩
    refine List.forall_mem_cons.mpr ⟨xw_in_ok zt_wy17_ok, ?_⟩
    refine List.forall_mem_cons.mpr ⟨xw_in_ok zt_wy18_ok, ?_⟩
    refine List.forall_mem_cons.mpr ⟨xw_in_ok zt_wy19_ok, ?_⟩
    refine List.forall_mem_cons.mpr ⟨xw_in_ok zt_wy20_ok, ?_⟩
    refine List.forall_mem_cons.mpr ⟨xw_in_ok zt_wy21_ok, ?_⟩
    refine List.forall_mem_cons.mpr ⟨xw_in_ok zt_wy22_ok, ?_⟩
    refine List.forall_mem_cons.mpr ⟨xw_in_ok zt_wy23_ok, ?_⟩
    refine List.forall_mem_cons.mpr ⟨xw_in_ok zt_wy24_ok, ?_⟩
    refine List.forall_mem_cons.mpr ⟨xw_in_ok zt_wy25_ok, ?_⟩
    refine List.forall_mem_cons.mpr ⟨xw_in_ok zt_wy26_ok, ?_⟩
    refine List.forall_mem_cons.mpr ⟨xw_in_ok zt_wy27_ok, ?_⟩
    refine List.forall_mem_cons.mpr ⟨xw_in_ok zt_wy28_ok, ?_⟩
    refine List.forall_mem_cons.mpr ⟨xw_in_ok zt_wy29_ok, ?_⟩
    refine List.forall_mem_cons.mpr ⟨xw_in_ok zt_wy30_ok, ?_⟩
    refine List.forall_mem_cons.mpr ⟨xw_in_ok zt_wy31_ok, ?_⟩
    refine List.forall_mem_cons.mpr ⟨xw_in_ok zt_wy32_ok, ?_⟩
    refine List.forall_mem_cons.mpr ⟨xw_in_ok zt_wy33_ok, ?_⟩
    refine List.forall_mem_cons.mpr ⟨xw_in_ok zt_wy34_ok, ?_⟩
    refine List.forall_mem_cons.mpr ⟨xw_in_ok zt_wy35_ok, ?_⟩
    refine List.forall_mem_cons.mpr ⟨xw_in_ok zt_wy36_ok, ?_⟩
    refine List.forall_mem_cons.mpr ⟨xw_in_ok zt_wy37_ok, ?_⟩
    refine List.forall_mem_cons.mpr ⟨xw_in_ok zt_wy38_ok, ?_⟩
    refine List.forall_mem_cons.mpr ⟨xw_in_ok zt_wy39_ok, ?_⟩
    refine List.forall_mem_cons.mpr ⟨xw_in_ok zt_wy40_ok, ?_⟩
    refine List.forall_mem_cons.mpr ⟨xw_in_ok zt_wy41_ok, ?_⟩
    refine List.forall_mem_cons.mpr ⟨xw_in_ok zt_wy42_ok, ?_⟩
    refine List.forall_mem_cons.mpr ⟨xw_in_ok zt_wy43_ok, ?_⟩
    refine List.forall_mem_cons.mpr ⟨xw_in_ok zt_wy44_ok, ?_⟩
    refine List.forall_mem_cons.mpr ⟨xw_in_ok zt_wy45_ok, ?_⟩
    refine List.forall_mem_cons.mpr ⟨xw_in_ok zt_wy46_ok, ?_⟩
    refine List.forall_mem_cons.mpr ⟨xw_in_ok zt_wy47_ok, ?_⟩
    refine List.forall_mem_cons.mpr ⟨xw_in_ok zt_wy48_ok, ?_⟩
    refine List.forall_mem_cons.mpr ⟨xw_in_ok zt_wy49_ok, ?_⟩
    refine List.forall_mem_cons.mpr ⟨xw_in_ok zt_wy50_ok, ?_⟩
    refine List.forall_mem_cons.mpr ⟨xw_in_ok zt_wy51_ok, ?_⟩
    refine List.forall_mem_cons.mpr ⟨xw_in_ok zt_wy52_ok, ?_⟩
    refine List.forall_mem_cons.mpr ⟨xw_in_ok zt_wy53_ok, ?_⟩
    refine List.forall_mem_cons.mpr ⟨xw_in_ok zt_wy54_ok, ?_⟩
    refine List.forall_mem_cons.mpr ⟨xw_in_ok zt_wy55_ok, ?_⟩
    refine List.forall_mem_cons.mpr ⟨xw_in_ok zt_wy56_ok, ?_⟩
    refine List.forall_mem_cons.mpr ⟨xw_in_ok zt_wy57_ok, ?_⟩
    refine List.forall_mem_cons.mpr ⟨xw_in_ok zt_wy58_ok, ?_⟩
    refine List.forall_mem_cons.mpr ⟨xw_in_ok zt_wy59_ok, ?_⟩
    refine List.forall_mem_cons.mpr ⟨xw_in_ok zt_wy60_ok, ?_⟩
    refine List.forall_mem_cons.mpr ⟨xw_in_ok zt_wy61_ok, ?_⟩
    refine List.forall_mem_cons.mpr ⟨xw_in_ok zt_wy62_ok, ?_⟩
    refine List.forall_mem_cons.mpr ⟨xw_in_ok zt_wy63_ok, ?_⟩
    refine List.forall_mem_cons.mpr ⟨xw_in_ok zt_wy64_ok, ?_⟩
    refine List.forall_mem_cons.mpr ⟨xw_in_ok zt_wy65_ok, ?_⟩
    refine List.forall_mem_cons.mpr ⟨xw_in_ok zt_wy66_ok, ?_⟩
    refine List.forall_mem_cons.mpr ⟨xw_in_ok zt_wy67_ok, ?_⟩
    refine List.forall_mem_cons.mpr ⟨xw_in_ok zt_wy68_ok, ?_⟩
    refine List.forall_mem_cons.mpr ⟨xw_in_ok zt_wy69_ok, ?_⟩
    refine List.forall_mem_cons.mpr ⟨xw_in_ok zt_wy70_ok, ?_⟩
    refine List.forall_mem_cons.mpr ⟨xw_in_ok zt_wy71_ok, ?_⟩
    refine List.forall_mem_cons.mpr ⟨xw_in_ok zt_wy72_ok, ?_⟩
    refine List.forall_mem_cons.mpr ⟨xw_in_ok zt_wy73_ok, ?_⟩
    refine List.forall_mem_cons.mpr ⟨xw_in_ok zt_wy74_ok, ?_⟩
    refine List.forall_mem_cons.mpr ⟨xw_in_ok zt_wy75_ok, ?_⟩
    refine List.forall_mem_cons.mpr ⟨xw_in_ok zt_wy76_ok, ?_⟩
    refine List.forall_mem_cons.mpr ⟨xw_in_ok zt_wy77_ok, ?_⟩
    refine List.forall_mem_cons.mpr ⟨xw_in_ok zt_wy78_ok, ?_⟩
    refine List.forall_mem_cons.mpr ⟨xw_in_ok zt_wy79_ok, ?_⟩
    refine List.forall_mem_cons.mpr ⟨xw_in_ok zt_wy80_ok, ?_⟩
    refine List.forall_mem_cons.mpr ⟨xw_in_ok zt_wy81_ok, ?_⟩
    refine List.forall_mem_cons.mpr ⟨xw_in_ok zt_wy82_ok, ?_⟩
    refine List.forall_mem_cons.mpr ⟨xw_in_ok zt_wy83_ok, ?_⟩
    refine List.forall_mem_cons.mpr ⟨xw_in_ok zt_wy84_ok, ?_⟩
    refine List.forall_mem_cons.mpr ⟨xw_in_ok zt_wy85_ok, ?_⟩
    refine List.forall_mem_cons.mpr ⟨xw_in_ok zt_wy86_ok, ?_⟩
    refine List.forall_mem_cons.mpr ⟨xw_in_ok zt_wy87_ok, ?_⟩
    refine List.forall_mem_cons.mpr ⟨xw_in_ok zt_wy88_ok, ?_⟩
    refine List.forall_mem_cons.mpr ⟨xw_in_ok zt_wy89_ok, ?_⟩
    refine List.forall_mem_cons.mpr ⟨xw_in_ok zt_wy90_ok, ?_⟩
    refine List.forall_mem_cons.mpr ⟨xw_in_ok zt_wy91_ok, ?_⟩
    refine List.forall_mem_cons.mpr ⟨xw_in_ok zt_wy92_ok, ?_⟩
    refine List.forall_mem_cons.mpr ⟨xw_in_ok zt_wy93_ok, ?_⟩
    refine List.forall_mem_cons.mpr ⟨xw_in_ok zt_wy94_ok, ?_⟩
    refine List.forall_mem_cons.mpr ⟨xw_in_ok zt_wy95_ok, ?_⟩
    refine List.forall_mem_cons.mpr ⟨xw_in_ok zt_wy96_ok, ?_⟩
    refine List.forall_mem_cons.mpr ⟨xw_in_ok zt_wy97_ok, ?_⟩
    refine List.forall_mem_cons.mpr ⟨xw_in_ok zt_wy98_ok, ?_⟩
    refine List.forall_mem_cons.mpr ⟨xw_in_ok zt_wy99_ok, ?_⟩
    refine List.forall_mem_cons.mpr ⟨xw_in_ok zt_wy100_ok, ?_⟩
    refine List.forall_mem_cons.mpr ⟨xw_in_ok zt_wy101_ok, ?_⟩
    refine List.forall_mem_cons.mpr ⟨xw_in_ok zt_wy102_ok, ?_⟩
    refine List.forall_mem_cons.mpr ⟨xw_in_ok zt_wy103_ok, ?_⟩
    refine List.forall_mem_cons.mpr ⟨xw_in_ok zt_wy104_ok, ?_⟩
    refine List.forall_mem_cons.mpr ⟨xw_in_ok zt_wy105_ok, ?_⟩
    refine List.forall_mem_cons.mpr ⟨xw_in_ok zt_wy106_ok, ?_⟩
    refine List.forall_mem_cons.mpr ⟨xw_in_ok zt_wy107_ok, ?_⟩
    refine List.forall_mem_cons.mpr ⟨xw_in_ok zt_wy108_ok, ?_⟩
    refine List.forall_mem_cons.mpr ⟨xw_in_ok zt_wy109_ok, ?_⟩
    refine List.forall_mem_cons.mpr ⟨xw_in_ok zt_wy110_ok, ?_⟩
    refine List.forall_mem_cons.mpr ⟨xw_in_ok zt_wy111_ok, ?_⟩
    refine List.forall_mem_cons.mpr ⟨xw_in_ok zt_wy112_ok, ?_⟩
    refine List.forall_mem_cons.mpr ⟨xw_in_ok zt_wy113_ok, ?_⟩
    refine List.forall_mem_cons.mpr ⟨xw_in_ok zt_wy114_ok, ?_⟩
    refine List.forall_mem_cons.mpr ⟨xw_in_ok zt_wy115_ok, ?_⟩
    refine List.forall_mem_cons.mpr ⟨xw_in_ok zt_wy116_ok, ?_⟩
    refine List.forall_mem_cons.mpr ⟨xw_in_ok zt_wy117_ok, ?_⟩
    refine List.forall_mem_cons.mpr ⟨xw_in_ok zt_wy118_ok, ?_⟩
    refine List.forall_mem_cons.mpr ⟨xw_in_ok zt_wy119_ok, ?_⟩
    refine List.forall_mem_cons.mpr ⟨xw_in_ok zt_wy120_ok, ?_⟩
    refine List.forall_mem_cons.mpr ⟨xw_in_ok zt_wy121_ok, ?_⟩
    refine List.forall_mem_cons.mpr ⟨xw_in_ok zt_wy122_ok, ?_⟩
    refine List.forall_mem_cons.mpr ⟨xw_in_ok zt_wy123_ok, ?_⟩
    refine List.forall_mem_cons.mpr ⟨xw_in_ok zt_wy124_ok, ?_⟩
    refine List.forall_mem_cons.mpr ⟨xw_in_ok zt_wy125_ok, ?_⟩
    refine List.forall_mem_cons.mpr ⟨xw_in_ok zt_wy126_ok, ?_⟩
    refine List.forall_mem_cons.mpr ⟨xw_in_ok zt_wy127_ok, ?_⟩
    refine List.forall_mem_cons.mpr ⟨xw_in_ok zt_wy128_ok, ?_⟩
    refine List.forall_mem_cons.mpr ⟨xw_in_ok zt_wy129_ok, ?_⟩
    refine List.forall_mem_cons.mpr ⟨xw_in_ok zt_wy130_ok, ?_⟩
    refine List.forall_mem_cons.mpr ⟨xw_in_ok zt_wy131_ok, ?_⟩
    refine List.forall_mem_cons.mpr ⟨xw_in_ok zt_wy132_ok, ?_⟩
    refine List.forall_mem_cons.mpr ⟨xw_in_ok zt_wy133_ok, ?_⟩
    refine List.forall_mem_cons.mpr ⟨xw_in_ok zt_wy134_ok, ?_⟩
    refine List.forall_mem_cons.mpr ⟨xw_in_ok zt_wy135_ok, ?_⟩
    refine List.forall_mem_cons.mpr ⟨xw_in_ok zt_wy136_ok, ?_⟩
    refine List.forall_mem_cons.mpr ⟨xw_in_ok zt_wy137_ok, ?_⟩
    refine List.forall_mem_cons.mpr ⟨xw_in_ok zt_wy138_ok, ?_⟩
    refine List.forall_mem_cons.mpr ⟨xw_in_ok zt_wy139_ok, ?_⟩
    refine List.forall_mem_cons.mpr ⟨xw_in_ok zt_wy140_ok, ?_⟩
    refine List.forall_mem_cons.mpr ⟨xw_in_ok zt_wy141_ok, ?_⟩
    refine List.forall_mem_cons.mpr ⟨xw_in_ok zt_wy142_ok, ?_⟩
    refine List.forall_mem_cons.mpr ⟨xw_in_ok zt_wy143_ok, ?_⟩
    refine List.forall_mem_cons.mpr ⟨xw_in_ok zt_wy144_ok, ?_⟩
    refine List.forall_mem_cons.mpr ⟨xw_in_ok zt_wy145_ok, ?_⟩
    refine List.forall_mem_cons.mpr ⟨xw_in_ok zt_wy146_ok, ?_⟩
    refine List.forall_mem_cons.mpr ⟨xw_in_ok zt_wy147_ok, ?_⟩
    refine List.forall_mem_cons.mpr ⟨xw_in_ok zt_wy148_ok, ?_⟩
    refine List.forall_mem_cons.mpr ⟨xw_in_ok zt_wy149_ok, ?_⟩
    refine List.forall_mem_cons.mpr ⟨xw_in_ok zt_wy150_ok, ?_⟩
    refine List.forall_mem_cons.mpr ⟨xw_in_ok zt_wy151_ok, ?_⟩
    refine List.forall_mem_cons.mpr ⟨xw_in_ok zt_wy152_ok, ?_⟩
    refine List.forall_mem_cons.mpr ⟨xw_in_ok zt_wy153_ok, ?_⟩
    refine List.forall_mem_cons.mpr ⟨xw_in_ok zt_wy154_ok, ?_⟩
    refine List.forall_mem_cons.mpr ⟨xw_in_ok zt_wy155_ok, ?_⟩
    refine List.forall_mem_cons.mpr ⟨xw_in_ok zt_wy156_ok, ?_⟩
    refine List.forall_mem_cons.mpr ⟨xw_in_ok zt_wy157_ok, ?_⟩
    refine List.forall_mem_cons.mpr ⟨xw_in_ok zt_wy158_ok, ?_⟩
    refine List.forall_mem_cons.mpr ⟨xw_in_ok zt_wy159_ok, ?_⟩
    refine List.forall_mem_cons.mpr ⟨xw_in_ok zt_wy160_ok, ?_⟩
    refine List.forall_mem_cons.mpr ⟨xw_in_ok zt_wy161_ok, ?_⟩
    refine List.forall_mem_cons.mpr ⟨xw_in_ok zt_wy162_ok, ?_⟩
    refine List.forall_mem_cons.mpr ⟨xw_in_ok zt_wy163_ok, ?_⟩
    refine List.forall_mem_cons.mpr ⟨xw_in_ok zt_wy164_ok, ?_⟩
    refine List.forall_mem_cons.mpr ⟨xw_in_ok zt_wy165_ok, ?_⟩
    refine List.forall_mem_cons.mpr ⟨xw_in_ok zt_wy166_ok, ?_⟩
    refine List.forall_mem_cons.mpr ⟨xw_in_ok zt_wy167_ok, ?_⟩
    refine List.forall_mem_cons.mpr ⟨xw_in_ok zt_wy168_ok, ?_⟩
    refine List.forall_mem_cons.mpr ⟨xw_in_ok zt_wy169_ok, ?_⟩
    refine List.forall_mem_cons.mpr ⟨xw_in_ok zt_wy170_ok, ?_⟩
    refine List.forall_mem_cons.mpr ⟨xw_in_ok zt_wx_ok, ?_⟩
    exact List.forall_mem_cons.mpr ⟨zt_wcd_ok, fun _ h => absurd h List.not_mem_nil⟩
  intro w hw
  obtain ⟨l, hl, hw⟩ := List.mem_flatten.mp hw
  exact h l hl w hw
theorem zt_wc0_tb : ∀ w ∈ zt_wc0, w ∈ zt_tb := fun _ h => List.mem_flatten.mpr ⟨zt_wc0, List.mem_of_getElem? (i := 0) rfl, h⟩
theorem zt_wc1_tb : ∀ w ∈ zt_wc1, w ∈ zt_tb := fun _ h => List.mem_flatten.mpr ⟨zt_wc1, List.mem_of_getElem? (i := 1) rfl, h⟩
theorem zt_wc2_tb : ∀ w ∈ zt_wc2, w ∈ zt_tb := fun _ h => List.mem_flatten.mpr ⟨zt_wc2, List.mem_of_getElem? (i := 2) rfl, h⟩
theorem zt_wc3_tb : ∀ w ∈ zt_wc3, w ∈ zt_tb := fun _ h => List.mem_flatten.mpr ⟨zt_wc3, List.mem_of_getElem? (i := 3) rfl, h⟩
theorem zt_wc4_tb : ∀ w ∈ zt_wc4, w ∈ zt_tb := fun _ h => List.mem_flatten.mpr ⟨zt_wc4, List.mem_of_getElem? (i := 4) rfl, h⟩
theorem zt_wc5_tb : ∀ w ∈ zt_wc5, w ∈ zt_tb := fun _ h => List.mem_flatten.mpr ⟨zt_wc5, List.mem_of_getElem? (i := 5) rfl, h⟩
theorem zt_wc6_tb : ∀ w ∈ zt_wc6, w ∈ zt_tb := fun _ h => List.mem_flatten.mpr ⟨zt_wc6, List.mem_of_getElem? (i := 6) rfl, h⟩
theorem zt_wc7_tb : ∀ w ∈ zt_wc7, w ∈ zt_tb := fun _ h => List.mem_flatten.mpr ⟨zt_wc7, List.mem_of_getElem? (i := 7) rfl, h⟩
theorem zt_wc8_tb : ∀ w ∈ zt_wc8, w ∈ zt_tb := fun _ h => List.mem_flatten.mpr ⟨zt_wc8, List.mem_of_getElem? (i := 8) rfl, h⟩
theorem zt_wc9_tb : ∀ w ∈ zt_wc9, w ∈ zt_tb := fun _ h => List.mem_flatten.mpr ⟨zt_wc9, List.mem_of_getElem? (i := 9) rfl, h⟩
theorem zt_wc10_tb : ∀ w ∈ zt_wc10, w ∈ zt_tb := fun _ h => List.mem_flatten.mpr ⟨zt_wc10, List.mem_of_getElem? (i := 10) rfl, h⟩
theorem zt_wc11_tb : ∀ w ∈ zt_wc11, w ∈ zt_tb := fun _ h => List.mem_flatten.mpr ⟨zt_wc11, List.mem_of_getElem? (i := 11) rfl, h⟩
theorem zt_wc12_tb : ∀ w ∈ zt_wc12, w ∈ zt_tb := fun _ h => List.mem_flatten.mpr ⟨zt_wc12, List.mem_of_getElem? (i := 12) rfl, h⟩
theorem zt_wk0_tb : ∀ w ∈ zt_wk0, w ∈ zt_tb := fun _ h => List.mem_flatten.mpr ⟨zt_wk0, List.mem_of_getElem? (i := 13) rfl, h⟩
theorem zt_wk1_tb : ∀ w ∈ zt_wk1, w ∈ zt_tb := fun _ h => List.mem_flatten.mpr ⟨zt_wk1, List.mem_of_getElem? (i := 14) rfl, h⟩
theorem zt_wk2_tb : ∀ w ∈ zt_wk2, w ∈ zt_tb := fun _ h => List.mem_flatten.mpr ⟨zt_wk2, List.mem_of_getElem? (i := 15) rfl, h⟩
theorem zt_wk3_tb : ∀ w ∈ zt_wk3, w ∈ zt_tb := fun _ h => List.mem_flatten.mpr ⟨zt_wk3, List.mem_of_getElem? (i := 16) rfl, h⟩
theorem zt_wk4_tb : ∀ w ∈ zt_wk4, w ∈ zt_tb := fun _ h => List.mem_flatten.mpr ⟨zt_wk4, List.mem_of_getElem? (i := 17) rfl, h⟩
theorem zt_wk5_tb : ∀ w ∈ zt_wk5, w ∈ zt_tb := fun _ h => List.mem_flatten.mpr ⟨zt_wk5, List.mem_of_getElem? (i := 18) rfl, h⟩
theorem zt_wk6_tb : ∀ w ∈ zt_wk6, w ∈ zt_tb := fun _ h => List.mem_flatten.mpr ⟨zt_wk6, List.mem_of_getElem? (i := 19) rfl, h⟩
theorem zt_wk7_tb : ∀ w ∈ zt_wk7, w ∈ zt_tb := fun _ h => List.mem_flatten.mpr ⟨zt_wk7, List.mem_of_getElem? (i := 20) rfl, h⟩
theorem zt_wk8_tb : ∀ w ∈ zt_wk8, w ∈ zt_tb := fun _ h => List.mem_flatten.mpr ⟨zt_wk8, List.mem_of_getElem? (i := 21) rfl, h⟩
theorem zt_wk9_tb : ∀ w ∈ zt_wk9, w ∈ zt_tb := fun _ h => List.mem_flatten.mpr ⟨zt_wk9, List.mem_of_getElem? (i := 22) rfl, h⟩
theorem zt_wk10_tb : ∀ w ∈ zt_wk10, w ∈ zt_tb := fun _ h => List.mem_flatten.mpr ⟨zt_wk10, List.mem_of_getElem? (i := 23) rfl, h⟩
theorem zt_wk11_tb : ∀ w ∈ zt_wk11, w ∈ zt_tb := fun _ h => List.mem_flatten.mpr ⟨zt_wk11, List.mem_of_getElem? (i := 24) rfl, h⟩
theorem zt_wk12_tb : ∀ w ∈ zt_wk12, w ∈ zt_tb := fun _ h => List.mem_flatten.mpr ⟨zt_wk12, List.mem_of_getElem? (i := 25) rfl, h⟩
theorem zt_wkL_tb : ∀ w ∈ zt_wkL, w ∈ zt_tb := fun _ h => List.mem_flatten.mpr ⟨zt_wkL, List.mem_of_getElem? (i := 26) rfl, h⟩
theorem zt_wy0_tb : ∀ w ∈ zt_wy0, w ∈ zt_tb := fun _ h => List.mem_flatten.mpr ⟨zt_wy0, List.mem_of_getElem? (i := 27) rfl, h⟩
theorem zt_wy1_tb : ∀ w ∈ zt_wy1, w ∈ zt_tb := fun _ h => List.mem_flatten.mpr ⟨zt_wy1, List.mem_of_getElem? (i := 28) rfl, h⟩
theorem zt_wy2_tb : ∀ w ∈ zt_wy2, w ∈ zt_tb := fun _ h => List.mem_flatten.mpr ⟨zt_wy2, List.mem_of_getElem? (i := 29) rfl, h⟩
theorem zt_wy3_tb : ∀ w ∈ zt_wy3, w ∈ zt_tb := fun _ h => List.mem_flatten.mpr ⟨zt_wy3, List.mem_of_getElem? (i := 30) rfl, h⟩
theorem zt_wy4_tb : ∀ w ∈ zt_wy4, w ∈ zt_tb := fun _ h => List.mem_flatten.mpr ⟨zt_wy4, List.mem_of_getElem? (i := 31) rfl, h⟩
theorem zt_wy5_tb : ∀ w ∈ zt_wy5, w ∈ zt_tb := fun _ h => List.mem_flatten.mpr ⟨zt_wy5, List.mem_of_getElem? (i := 32) rfl, h⟩
theorem zt_wy6_tb : ∀ w ∈ zt_wy6, w ∈ zt_tb := fun _ h => List.mem_flatten.mpr ⟨zt_wy6, List.mem_of_getElem? (i := 33) rfl, h⟩
theorem zt_wy7_tb : ∀ w ∈ zt_wy7, w ∈ zt_tb := fun _ h => List.mem_flatten.mpr ⟨zt_wy7, List.mem_of_getElem? (i := 34) rfl, h⟩
theorem zt_wy8_tb : ∀ w ∈ zt_wy8, w ∈ zt_tb := fun _ h => List.mem_flatten.mpr ⟨zt_wy8, List.mem_of_getElem? (i := 35) rfl, h⟩
theorem zt_wy9_tb : ∀ w ∈ zt_wy9, w ∈ zt_tb := fun _ h => List.mem_flatten.mpr ⟨zt_wy9, List.mem_of_getElem? (i := 36) rfl, h⟩
theorem zt_wy10_tb : ∀ w ∈ zt_wy10, w ∈ zt_tb := fun _ h => List.mem_flatten.mpr ⟨zt_wy10, List.mem_of_getElem? (i := 37) rfl, h⟩
theorem zt_wy11_tb : ∀ w ∈ zt_wy11, w ∈ zt_tb := fun _ h => List.mem_flatten.mpr ⟨zt_wy11, List.mem_of_getElem? (i := 38) rfl, h⟩
theorem zt_wy12_tb : ∀ w ∈ zt_wy12, w ∈ zt_tb := fun _ h => List.mem_flatten.mpr ⟨zt_wy12, List.mem_of_getElem? (i := 39) rfl, h⟩
theorem zt_wy13_tb : ∀ w ∈ zt_wy13, w ∈ zt_tb := fun _ h => List.mem_flatten.mpr ⟨zt_wy13, List.mem_of_getElem? (i := 40) rfl, h⟩
theorem zt_wy14_tb : ∀ w ∈ zt_wy14, w ∈ zt_tb := fun _ h => List.mem_flatten.mpr ⟨zt_wy14, List.mem_of_getElem? (i := 41) rfl, h⟩
theorem zt_wy15_tb : ∀ w ∈ zt_wy15, w ∈ zt_tb := fun _ h => List.mem_flatten.mpr ⟨zt_wy15, List.mem_of_getElem? (i := 42) rfl, h⟩
theorem zt_wy16_tb : ∀ w ∈ zt_wy16, w ∈ zt_tb := fun _ h => List.mem_flatten.mpr ⟨zt_wy16, List.mem_of_getElem? (i := 43) rfl, h⟩
theorem zt_wy17_tb : ∀ w ∈ zt_wy17, w ∈ zt_tb := fun _ h => List.mem_flatten.mpr ⟨zt_wy17, List.mem_of_getElem? (i := 44) rfl, h⟩
theorem zt_wy18_tb : ∀ w ∈ zt_wy18, w ∈ zt_tb := fun _ h => List.mem_flatten.mpr ⟨zt_wy18, List.mem_of_getElem? (i := 45) rfl, h⟩
theorem zt_wy19_tb : ∀ w ∈ zt_wy19, w ∈ zt_tb := fun _ h => List.mem_flatten.mpr ⟨zt_wy19, List.mem_of_getElem? (i := 46) rfl, h⟩
theorem zt_wy20_tb : ∀ w ∈ zt_wy20, w ∈ zt_tb := fun _ h => List.mem_flatten.mpr ⟨zt_wy20, List.mem_of_getElem? (i := 47) rfl, h⟩
theorem zt_wy21_tb : ∀ w ∈ zt_wy21, w ∈ zt_tb := fun _ h => List.mem_flatten.mpr ⟨zt_wy21, List.mem_of_getElem? (i := 48) rfl, h⟩
theorem zt_wy22_tb : ∀ w ∈ zt_wy22, w ∈ zt_tb := fun _ h => List.mem_flatten.mpr ⟨zt_wy22, List.mem_of_getElem? (i := 49) rfl, h⟩
theorem zt_wy23_tb : ∀ w ∈ zt_wy23, w ∈ zt_tb := fun _ h => List.mem_flatten.mpr ⟨zt_wy23, List.mem_of_getElem? (i := 50) rfl, h⟩
theorem zt_wy24_tb : ∀ w ∈ zt_wy24, w ∈ zt_tb := fun _ h => List.mem_flatten.mpr ⟨zt_wy24, List.mem_of_getElem? (i := 51) rfl, h⟩
theorem zt_wy25_tb : ∀ w ∈ zt_wy25, w ∈ zt_tb := fun _ h => List.mem_flatten.mpr ⟨zt_wy25, List.mem_of_getElem? (i := 52) rfl, h⟩
theorem zt_wy26_tb : ∀ w ∈ zt_wy26, w ∈ zt_tb := fun _ h => List.mem_flatten.mpr ⟨zt_wy26, List.mem_of_getElem? (i := 53) rfl, h⟩
theorem zt_wy27_tb : ∀ w ∈ zt_wy27, w ∈ zt_tb := fun _ h => List.mem_flatten.mpr ⟨zt_wy27, List.mem_of_getElem? (i := 54) rfl, h⟩
theorem zt_wy28_tb : ∀ w ∈ zt_wy28, w ∈ zt_tb := fun _ h => List.mem_flatten.mpr ⟨zt_wy28, List.mem_of_getElem? (i := 55) rfl, h⟩
theorem zt_wy29_tb : ∀ w ∈ zt_wy29, w ∈ zt_tb := fun _ h => List.mem_flatten.mpr ⟨zt_wy29, List.mem_of_getElem? (i := 56) rfl, h⟩
theorem zt_wy30_tb : ∀ w ∈ zt_wy30, w ∈ zt_tb := fun _ h => List.mem_flatten.mpr ⟨zt_wy30, List.mem_of_getElem? (i := 57) rfl, h⟩
theorem zt_wy31_tb : ∀ w ∈ zt_wy31, w ∈ zt_tb := fun _ h => List.mem_flatten.mpr ⟨zt_wy31, List.mem_of_getElem? (i := 58) rfl, h⟩
theorem zt_wy32_tb : ∀ w ∈ zt_wy32, w ∈ zt_tb := fun _ h => List.mem_flatten.mpr ⟨zt_wy32, List.mem_of_getElem? (i := 59) rfl, h⟩
theorem zt_wy33_tb : ∀ w ∈ zt_wy33, w ∈ zt_tb := fun _ h => List.mem_flatten.mpr ⟨zt_wy33, List.mem_of_getElem? (i := 60) rfl, h⟩
theorem zt_wy34_tb : ∀ w ∈ zt_wy34, w ∈ zt_tb := fun _ h => List.mem_flatten.mpr ⟨zt_wy34, List.mem_of_getElem? (i := 61) rfl, h⟩
theorem zt_wy35_tb : ∀ w ∈ zt_wy35, w ∈ zt_tb := fun _ h => List.mem_flatten.mpr ⟨zt_wy35, List.mem_of_getElem? (i := 62) rfl, h⟩
theorem zt_wy36_tb : ∀ w ∈ zt_wy36, w ∈ zt_tb := fun _ h => List.mem_flatten.mpr ⟨zt_wy36, List.mem_of_getElem? (i := 63) rfl, h⟩
theorem zt_wy37_tb : ∀ w ∈ zt_wy37, w ∈ zt_tb := fun _ h => List.mem_flatten.mpr ⟨zt_wy37, List.mem_of_getElem? (i := 64) rfl, h⟩
theorem zt_wy38_tb : ∀ w ∈ zt_wy38, w ∈ zt_tb := fun _ h => List.mem_flatten.mpr ⟨zt_wy38, List.mem_of_getElem? (i := 65) rfl, h⟩
theorem zt_wy39_tb : ∀ w ∈ zt_wy39, w ∈ zt_tb := fun _ h => List.mem_flatten.mpr ⟨zt_wy39, List.mem_of_getElem? (i := 66) rfl, h⟩
theorem zt_wy40_tb : ∀ w ∈ zt_wy40, w ∈ zt_tb := fun _ h => List.mem_flatten.mpr ⟨zt_wy40, List.mem_of_getElem? (i := 67) rfl, h⟩
theorem zt_wy41_tb : ∀ w ∈ zt_wy41, w ∈ zt_tb := fun _ h => List.mem_flatten.mpr ⟨zt_wy41, List.mem_of_getElem? (i := 68) rfl, h⟩
theorem zt_wy42_tb : ∀ w ∈ zt_wy42, w ∈ zt_tb := fun _ h => List.mem_flatten.mpr ⟨zt_wy42, List.mem_of_getElem? (i := 69) rfl, h⟩
theorem zt_wy43_tb : ∀ w ∈ zt_wy43, w ∈ zt_tb := fun _ h => List.mem_flatten.mpr ⟨zt_wy43, List.mem_of_getElem? (i := 70) rfl, h⟩
theorem zt_wy44_tb : ∀ w ∈ zt_wy44, w ∈ zt_tb := fun _ h => List.mem_flatten.mpr ⟨zt_wy44, List.mem_of_getElem? (i := 71) rfl, h⟩
theorem zt_wy45_tb : ∀ w ∈ zt_wy45, w ∈ zt_tb := fun _ h => List.mem_flatten.mpr ⟨zt_wy45, List.mem_of_getElem? (i := 72) rfl, h⟩
theorem zt_wy46_tb : ∀ w ∈ zt_wy46, w ∈ zt_tb := fun _ h => List.mem_flatten.mpr ⟨zt_wy46, List.mem_of_getElem? (i := 73) rfl, h⟩
theorem zt_wy47_tb : ∀ w ∈ zt_wy47, w ∈ zt_tb := fun _ h => List.mem_flatten.mpr ⟨zt_wy47, List.mem_of_getElem? (i := 74) rfl, h⟩
theorem zt_wy48_tb : ∀ w ∈ zt_wy48, w ∈ zt_tb := fun _ h => List.mem_flatten.mpr ⟨zt_wy48, List.mem_of_getElem? (i := 75) rfl, h⟩
theorem zt_wy49_tb : ∀ w ∈ zt_wy49, w ∈ zt_tb := fun _ h => List.mem_flatten.mpr ⟨zt_wy49, List.mem_of_getElem? (i := 76) rfl, h⟩
theorem zt_wy50_tb : ∀ w ∈ zt_wy50, w ∈ zt_tb := fun _ h => List.mem_flatten.mpr ⟨zt_wy50, List.mem_of_getElem? (i := 77) rfl, h⟩
theorem zt_wy51_tb : ∀ w ∈ zt_wy51, w ∈ zt_tb := fun _ h => List.mem_flatten.mpr ⟨zt_wy51, List.mem_of_getElem? (i := 78) rfl, h⟩
theorem zt_wy52_tb : ∀ w ∈ zt_wy52, w ∈ zt_tb := fun _ h => List.mem_flatten.mpr ⟨zt_wy52, List.mem_of_getElem? (i := 79) rfl, h⟩
theorem zt_wy53_tb : ∀ w ∈ zt_wy53, w ∈ zt_tb := fun _ h => List.mem_flatten.mpr ⟨zt_wy53, List.mem_of_getElem? (i := 80) rfl, h⟩
theorem zt_wy54_tb : ∀ w ∈ zt_wy54, w ∈ zt_tb := fun _ h => List.mem_flatten.mpr ⟨zt_wy54, List.mem_of_getElem? (i := 81) rfl, h⟩
theorem zt_wy55_tb : ∀ w ∈ zt_wy55, w ∈ zt_tb := fun _ h => List.mem_flatten.mpr ⟨zt_wy55, List.mem_of_getElem? (i := 82) rfl, h⟩
theorem zt_wy56_tb : ∀ w ∈ zt_wy56, w ∈ zt_tb := fun _ h => List.mem_flatten.mpr ⟨zt_wy56, List.mem_of_getElem? (i := 83) rfl, h⟩
theorem zt_wy57_tb : ∀ w ∈ zt_wy57, w ∈ zt_tb := fun _ h => List.mem_flatten.mpr ⟨zt_wy57, List.mem_of_getElem? (i := 84) rfl, h⟩
theorem zt_wy58_tb : ∀ w ∈ zt_wy58, w ∈ zt_tb := fun _ h => List.mem_flatten.mpr ⟨zt_wy58, List.mem_of_getElem? (i := 85) rfl, h⟩
theorem zt_wy59_tb : ∀ w ∈ zt_wy59, w ∈ zt_tb := fun _ h => List.mem_flatten.mpr ⟨zt_wy59, List.mem_of_getElem? (i := 86) rfl, h⟩
theorem zt_wy60_tb : ∀ w ∈ zt_wy60, w ∈ zt_tb := fun _ h => List.mem_flatten.mpr ⟨zt_wy60, List.mem_of_getElem? (i := 87) rfl, h⟩
theorem zt_wy61_tb : ∀ w ∈ zt_wy61, w ∈ zt_tb := fun _ h => List.mem_flatten.mpr ⟨zt_wy61, List.mem_of_getElem? (i := 88) rfl, h⟩
theorem zt_wy62_tb : ∀ w ∈ zt_wy62, w ∈ zt_tb := fun _ h => List.mem_flatten.mpr ⟨zt_wy62, List.mem_of_getElem? (i := 89) rfl, h⟩
theorem zt_wy63_tb : ∀ w ∈ zt_wy63, w ∈ zt_tb := fun _ h => List.mem_flatten.mpr ⟨zt_wy63, List.mem_of_getElem? (i := 90) rfl, h⟩
theorem zt_wy64_tb : ∀ w ∈ zt_wy64, w ∈ zt_tb := fun _ h => List.mem_flatten.mpr ⟨zt_wy64, List.mem_of_getElem? (i := 91) rfl, h⟩
theorem zt_wy65_tb : ∀ w ∈ zt_wy65, w ∈ zt_tb := fun _ h => List.mem_flatten.mpr ⟨zt_wy65, List.mem_of_getElem? (i := 92) rfl, h⟩
theorem zt_wy66_tb : ∀ w ∈ zt_wy66, w ∈ zt_tb := fun _ h => List.mem_flatten.mpr ⟨zt_wy66, List.mem_of_getElem? (i := 93) rfl, h⟩
theorem zt_wy67_tb : ∀ w ∈ zt_wy67, w ∈ zt_tb := fun _ h => List.mem_flatten.mpr ⟨zt_wy67, List.mem_of_getElem? (i := 94) rfl, h⟩
theorem zt_wy68_tb : ∀ w ∈ zt_wy68, w ∈ zt_tb := fun _ h => List.mem_flatten.mpr ⟨zt_wy68, List.mem_of_getElem? (i := 95) rfl, h⟩
theorem zt_wy69_tb : ∀ w ∈ zt_wy69, w ∈ zt_tb := fun _ h => List.mem_flatten.mpr ⟨zt_wy69, List.mem_of_getElem? (i := 96) rfl, h⟩
theorem zt_wy70_tb : ∀ w ∈ zt_wy70, w ∈ zt_tb := fun _ h => List.mem_flatten.mpr ⟨zt_wy70, List.mem_of_getElem? (i := 97) rfl, h⟩
theorem zt_wy71_tb : ∀ w ∈ zt_wy71, w ∈ zt_tb := fun _ h => List.mem_flatten.mpr ⟨zt_wy71, List.mem_of_getElem? (i := 98) rfl, h⟩
theorem zt_wy72_tb : ∀ w ∈ zt_wy72, w ∈ zt_tb := fun _ h => List.mem_flatten.mpr ⟨zt_wy72, List.mem_of_getElem? (i := 99) rfl, h⟩
theorem zt_wy73_tb : ∀ w ∈ zt_wy73, w ∈ zt_tb := fun _ h => List.mem_flatten.mpr ⟨zt_wy73, List.mem_of_getElem? (i := 100) rfl, h⟩
theorem zt_wy74_tb : ∀ w ∈ zt_wy74, w ∈ zt_tb := fun _ h => List.mem_flatten.mpr ⟨zt_wy74, List.mem_of_getElem? (i := 101) rfl, h⟩
theorem zt_wy75_tb : ∀ w ∈ zt_wy75, w ∈ zt_tb := fun _ h => List.mem_flatten.mpr ⟨zt_wy75, List.mem_of_getElem? (i := 102) rfl, h⟩
theorem zt_wy76_tb : ∀ w ∈ zt_wy76, w ∈ zt_tb := fun _ h => List.mem_flatten.mpr ⟨zt_wy76, List.mem_of_getElem? (i := 103) rfl, h⟩
theorem zt_wy77_tb : ∀ w ∈ zt_wy77, w ∈ zt_tb := fun _ h => List.mem_flatten.mpr ⟨zt_wy77, List.mem_of_getElem? (i := 104) rfl, h⟩
theorem zt_wy78_tb : ∀ w ∈ zt_wy78, w ∈ zt_tb := fun _ h => List.mem_flatten.mpr ⟨zt_wy78, List.mem_of_getElem? (i := 105) rfl, h⟩
theorem zt_wy79_tb : ∀ w ∈ zt_wy79, w ∈ zt_tb := fun _ h => List.mem_flatten.mpr ⟨zt_wy79, List.mem_of_getElem? (i := 106) rfl, h⟩
theorem zt_wy80_tb : ∀ w ∈ zt_wy80, w ∈ zt_tb := fun _ h => List.mem_flatten.mpr ⟨zt_wy80, List.mem_of_getElem? (i := 107) rfl, h⟩
theorem zt_wy81_tb : ∀ w ∈ zt_wy81, w ∈ zt_tb := fun _ h => List.mem_flatten.mpr ⟨zt_wy81, List.mem_of_getElem? (i := 108) rfl, h⟩
theorem zt_wy82_tb : ∀ w ∈ zt_wy82, w ∈ zt_tb := fun _ h => List.mem_flatten.mpr ⟨zt_wy82, List.mem_of_getElem? (i := 109) rfl, h⟩
theorem zt_wy83_tb : ∀ w ∈ zt_wy83, w ∈ zt_tb := fun _ h => List.mem_flatten.mpr ⟨zt_wy83, List.mem_of_getElem? (i := 110) rfl, h⟩
theorem zt_wy84_tb : ∀ w ∈ zt_wy84, w ∈ zt_tb := fun _ h => List.mem_flatten.mpr ⟨zt_wy84, List.mem_of_getElem? (i := 111) rfl, h⟩
theorem zt_wy85_tb : ∀ w ∈ zt_wy85, w ∈ zt_tb := fun _ h => List.mem_flatten.mpr ⟨zt_wy85, List.mem_of_getElem? (i := 112) rfl, h⟩
theorem zt_wy86_tb : ∀ w ∈ zt_wy86, w ∈ zt_tb := fun _ h => List.mem_flatten.mpr ⟨zt_wy86, List.mem_of_getElem? (i := 113) rfl, h⟩
theorem zt_wy87_tb : ∀ w ∈ zt_wy87, w ∈ zt_tb := fun _ h => List.mem_flatten.mpr ⟨zt_wy87, List.mem_of_getElem? (i := 114) rfl, h⟩
theorem zt_wy88_tb : ∀ w ∈ zt_wy88, w ∈ zt_tb := fun _ h => List.mem_flatten.mpr ⟨zt_wy88, List.mem_of_getElem? (i := 115) rfl, h⟩
theorem zt_wy89_tb : ∀ w ∈ zt_wy89, w ∈ zt_tb := fun _ h => List.mem_flatten.mpr ⟨zt_wy89, List.mem_of_getElem? (i := 116) rfl, h⟩
theorem zt_wy90_tb : ∀ w ∈ zt_wy90, w ∈ zt_tb := fun _ h => List.mem_flatten.mpr ⟨zt_wy90, List.mem_of_getElem? (i := 117) rfl, h⟩
theorem zt_wy91_tb : ∀ w ∈ zt_wy91, w ∈ zt_tb := fun _ h => List.mem_flatten.mpr ⟨zt_wy91, List.mem_of_getElem? (i := 118) rfl, h⟩
theorem zt_wy92_tb : ∀ w ∈ zt_wy92, w ∈ zt_tb := fun _ h => List.mem_flatten.mpr ⟨zt_wy92, List.mem_of_getElem? (i := 119) rfl, h⟩
theorem zt_wy93_tb : ∀ w ∈ zt_wy93, w ∈ zt_tb := fun _ h => List.mem_flatten.mpr ⟨zt_wy93, List.mem_of_getElem? (i := 120) rfl, h⟩
theorem zt_wy94_tb : ∀ w ∈ zt_wy94, w ∈ zt_tb := fun _ h => List.mem_flatten.mpr ⟨zt_wy94, List.mem_of_getElem? (i := 121) rfl, h⟩
theorem zt_wy95_tb : ∀ w ∈ zt_wy95, w ∈ zt_tb := fun _ h => List.mem_flatten.mpr ⟨zt_wy95, List.mem_of_getElem? (i := 122) rfl, h⟩
theorem zt_wy96_tb : ∀ w ∈ zt_wy96, w ∈ zt_tb := fun _ h => List.mem_flatten.mpr ⟨zt_wy96, List.mem_of_getElem? (i := 123) rfl, h⟩
theorem zt_wy97_tb : ∀ w ∈ zt_wy97, w ∈ zt_tb := fun _ h => List.mem_flatten.mpr ⟨zt_wy97, List.mem_of_getElem? (i := 124) rfl, h⟩
theorem zt_wy98_tb : ∀ w ∈ zt_wy98, w ∈ zt_tb := fun _ h => List.mem_flatten.mpr ⟨zt_wy98, List.mem_of_getElem? (i := 125) rfl, h⟩
theorem zt_wy99_tb : ∀ w ∈ zt_wy99, w ∈ zt_tb := fun _ h => List.mem_flatten.mpr ⟨zt_wy99, List.mem_of_getElem? (i := 126) rfl, h⟩
theorem zt_wy100_tb : ∀ w ∈ zt_wy100, w ∈ zt_tb := fun _ h => List.mem_flatten.mpr ⟨zt_wy100, List.mem_of_getElem? (i := 127) rfl, h⟩
theorem zt_wy101_tb : ∀ w ∈ zt_wy101, w ∈ zt_tb := fun _ h => List.mem_flatten.mpr ⟨zt_wy101, List.mem_of_getElem? (i := 128) rfl, h⟩
theorem zt_wy102_tb : ∀ w ∈ zt_wy102, w ∈ zt_tb := fun _ h => List.mem_flatten.mpr ⟨zt_wy102, List.mem_of_getElem? (i := 129) rfl, h⟩
theorem zt_wy103_tb : ∀ w ∈ zt_wy103, w ∈ zt_tb := fun _ h => List.mem_flatten.mpr ⟨zt_wy103, List.mem_of_getElem? (i := 130) rfl, h⟩
theorem zt_wy104_tb : ∀ w ∈ zt_wy104, w ∈ zt_tb := fun _ h => List.mem_flatten.mpr ⟨zt_wy104, List.mem_of_getElem? (i := 131) rfl, h⟩
theorem zt_wy105_tb : ∀ w ∈ zt_wy105, w ∈ zt_tb := fun _ h => List.mem_flatten.mpr ⟨zt_wy105, List.mem_of_getElem? (i := 132) rfl, h⟩
theorem zt_wy106_tb : ∀ w ∈ zt_wy106, w ∈ zt_tb := fun _ h => List.mem_flatten.mpr ⟨zt_wy106, List.mem_of_getElem? (i := 133) rfl, h⟩
theorem zt_wy107_tb : ∀ w ∈ zt_wy107, w ∈ zt_tb := fun _ h => List.mem_flatten.mpr ⟨zt_wy107, List.mem_of_getElem? (i := 134) rfl, h⟩
theorem zt_wy108_tb : ∀ w ∈ zt_wy108, w ∈ zt_tb := fun _ h => List.mem_flatten.mpr ⟨zt_wy108, List.mem_of_getElem? (i := 135) rfl, h⟩
theorem zt_wy109_tb : ∀ w ∈ zt_wy109, w ∈ zt_tb := fun _ h => List.mem_flatten.mpr ⟨zt_wy109, List.mem_of_getElem? (i := 136) rfl, h⟩
theorem zt_wy110_tb : ∀ w ∈ zt_wy110, w ∈ zt_tb := fun _ h => List.mem_flatten.mpr ⟨zt_wy110, List.mem_of_getElem? (i := 137) rfl, h⟩
theorem zt_wy111_tb : ∀ w ∈ zt_wy111, w ∈ zt_tb := fun _ h => List.mem_flatten.mpr ⟨zt_wy111, List.mem_of_getElem? (i := 138) rfl, h⟩
theorem zt_wy112_tb : ∀ w ∈ zt_wy112, w ∈ zt_tb := fun _ h => List.mem_flatten.mpr ⟨zt_wy112, List.mem_of_getElem? (i := 139) rfl, h⟩
theorem zt_wy113_tb : ∀ w ∈ zt_wy113, w ∈ zt_tb := fun _ h => List.mem_flatten.mpr ⟨zt_wy113, List.mem_of_getElem? (i := 140) rfl, h⟩
theorem zt_wy114_tb : ∀ w ∈ zt_wy114, w ∈ zt_tb := fun _ h => List.mem_flatten.mpr ⟨zt_wy114, List.mem_of_getElem? (i := 141) rfl, h⟩
theorem zt_wy115_tb : ∀ w ∈ zt_wy115, w ∈ zt_tb := fun _ h => List.mem_flatten.mpr ⟨zt_wy115, List.mem_of_getElem? (i := 142) rfl, h⟩
theorem zt_wy116_tb : ∀ w ∈ zt_wy116, w ∈ zt_tb := fun _ h => List.mem_flatten.mpr ⟨zt_wy116, List.mem_of_getElem? (i := 143) rfl, h⟩
theorem zt_wy117_tb : ∀ w ∈ zt_wy117, w ∈ zt_tb := fun _ h => List.mem_flatten.mpr ⟨zt_wy117, List.mem_of_getElem? (i := 144) rfl, h⟩
theorem zt_wy118_tb : ∀ w ∈ zt_wy118, w ∈ zt_tb := fun _ h => List.mem_flatten.mpr ⟨zt_wy118, List.mem_of_getElem? (i := 145) rfl, h⟩
theorem zt_wy119_tb : ∀ w ∈ zt_wy119, w ∈ zt_tb := fun _ h => List.mem_flatten.mpr ⟨zt_wy119, List.mem_of_getElem? (i := 146) rfl, h⟩
theorem zt_wy120_tb : ∀ w ∈ zt_wy120, w ∈ zt_tb := fun _ h => List.mem_flatten.mpr ⟨zt_wy120, List.mem_of_getElem? (i := 147) rfl, h⟩
theorem zt_wy121_tb : ∀ w ∈ zt_wy121, w ∈ zt_tb := fun _ h => List.mem_flatten.mpr ⟨zt_wy121, List.mem_of_getElem? (i := 148) rfl, h⟩
theorem zt_wy122_tb : ∀ w ∈ zt_wy122, w ∈ zt_tb := fun _ h => List.mem_flatten.mpr ⟨zt_wy122, List.mem_of_getElem? (i := 149) rfl, h⟩
theorem zt_wy123_tb : ∀ w ∈ zt_wy123, w ∈ zt_tb := fun _ h => List.mem_flatten.mpr ⟨zt_wy123, List.mem_of_getElem? (i := 150) rfl, h⟩
theorem zt_wy124_tb : ∀ w ∈ zt_wy124, w ∈ zt_tb := fun _ h => List.mem_flatten.mpr ⟨zt_wy124, List.mem_of_getElem? (i := 151) rfl, h⟩
theorem zt_wy125_tb : ∀ w ∈ zt_wy125, w ∈ zt_tb := fun _ h => List.mem_flatten.mpr ⟨zt_wy125, List.mem_of_getElem? (i := 152) rfl, h⟩
theorem zt_wy126_tb : ∀ w ∈ zt_wy126, w ∈ zt_tb := fun _ h => List.mem_flatten.mpr ⟨zt_wy126, List.mem_of_getElem? (i := 153) rfl, h⟩
theorem zt_wy127_tb : ∀ w ∈ zt_wy127, w ∈ zt_tb := fun _ h => List.mem_flatten.mpr ⟨zt_wy127, List.mem_of_getElem? (i := 154) rfl, h⟩
theorem zt_wy128_tb : ∀ w ∈ zt_wy128, w ∈ zt_tb := fun _ h => List.mem_flatten.mpr ⟨zt_wy128, List.mem_of_getElem? (i := 155) rfl, h⟩
theorem zt_wy129_tb : ∀ w ∈ zt_wy129, w ∈ zt_tb := fun _ h => List.mem_flatten.mpr ⟨zt_wy129, List.mem_of_getElem? (i := 156) rfl, h⟩
theorem zt_wy130_tb : ∀ w ∈ zt_wy130, w ∈ zt_tb := fun _ h => List.mem_flatten.mpr ⟨zt_wy130, List.mem_of_getElem? (i := 157) rfl, h⟩
theorem zt_wy131_tb : ∀ w ∈ zt_wy131, w ∈ zt_tb := fun _ h => List.mem_flatten.mpr ⟨zt_wy131, List.mem_of_getElem? (i := 158) rfl, h⟩
theorem zt_wy132_tb : ∀ w ∈ zt_wy132, w ∈ zt_tb := fun _ h => List.mem_flatten.mpr ⟨zt_wy132, List.mem_of_getElem? (i := 159) rfl, h⟩
theorem zt_wy133_tb : ∀ w ∈ zt_wy133, w ∈ zt_tb := fun _ h => List.mem_flatten.mpr ⟨zt_wy133, List.mem_of_getElem? (i := 160) rfl, h⟩
theorem zt_wy134_tb : ∀ w ∈ zt_wy134, w ∈ zt_tb := fun _ h => List.mem_flatten.mpr ⟨zt_wy134, List.mem_of_getElem? (i := 161) rfl, h⟩
theorem zt_wy135_tb : ∀ w ∈ zt_wy135, w ∈ zt_tb := fun _ h => List.mem_flatten.mpr ⟨zt_wy135, List.mem_of_getElem? (i := 162) rfl, h⟩
theorem zt_wy136_tb : ∀ w ∈ zt_wy136, w ∈ zt_tb := fun _ h => List.mem_flatten.mpr ⟨zt_wy136, List.mem_of_getElem? (i := 163) rfl, h⟩
theorem zt_wy137_tb : ∀ w ∈ zt_wy137, w ∈ zt_tb := fun _ h => List.mem_flatten.mpr ⟨zt_wy137, List.mem_of_getElem? (i := 164) rfl, h⟩
theorem zt_wy138_tb : ∀ w ∈ zt_wy138, w ∈ zt_tb := fun _ h => List.mem_flatten.mpr ⟨zt_wy138, List.mem_of_getElem? (i := 165) rfl, h⟩
theorem zt_wy139_tb : ∀ w ∈ zt_wy139, w ∈ zt_tb := fun _ h => List.mem_flatten.mpr ⟨zt_wy139, List.mem_of_getElem? (i := 166) rfl, h⟩
theorem zt_wy140_tb : ∀ w ∈ zt_wy140, w ∈ zt_tb := fun _ h => List.mem_flatten.mpr ⟨zt_wy140, List.mem_of_getElem? (i := 167) rfl, h⟩
theorem zt_wy141_tb : ∀ w ∈ zt_wy141, w ∈ zt_tb := fun _ h => List.mem_flatten.mpr ⟨zt_wy141, List.mem_of_getElem? (i := 168) rfl, h⟩
theorem zt_wy142_tb : ∀ w ∈ zt_wy142, w ∈ zt_tb := fun _ h => List.mem_flatten.mpr ⟨zt_wy142, List.mem_of_getElem? (i := 169) rfl, h⟩
theorem zt_wy143_tb : ∀ w ∈ zt_wy143, w ∈ zt_tb := fun _ h => List.mem_flatten.mpr ⟨zt_wy143, List.mem_of_getElem? (i := 170) rfl, h⟩
theorem zt_wy144_tb : ∀ w ∈ zt_wy144, w ∈ zt_tb := fun _ h => List.mem_flatten.mpr ⟨zt_wy144, List.mem_of_getElem? (i := 171) rfl, h⟩
theorem zt_wy145_tb : ∀ w ∈ zt_wy145, w ∈ zt_tb := fun _ h => List.mem_flatten.mpr ⟨zt_wy145, List.mem_of_getElem? (i := 172) rfl, h⟩
theorem zt_wy146_tb : ∀ w ∈ zt_wy146, w ∈ zt_tb := fun _ h => List.mem_flatten.mpr ⟨zt_wy146, List.mem_of_getElem? (i := 173) rfl, h⟩
theorem zt_wy147_tb : ∀ w ∈ zt_wy147, w ∈ zt_tb := fun _ h => List.mem_flatten.mpr ⟨zt_wy147, List.mem_of_getElem? (i := 174) rfl, h⟩
theorem zt_wy148_tb : ∀ w ∈ zt_wy148, w ∈ zt_tb := fun _ h => List.mem_flatten.mpr ⟨zt_wy148, List.mem_of_getElem? (i := 175) rfl, h⟩
theorem zt_wy149_tb : ∀ w ∈ zt_wy149, w ∈ zt_tb := fun _ h => List.mem_flatten.mpr ⟨zt_wy149, List.mem_of_getElem? (i := 176) rfl, h⟩
theorem zt_wy150_tb : ∀ w ∈ zt_wy150, w ∈ zt_tb := fun _ h => List.mem_flatten.mpr ⟨zt_wy150, List.mem_of_getElem? (i := 177) rfl, h⟩
theorem zt_wy151_tb : ∀ w ∈ zt_wy151, w ∈ zt_tb := fun _ h => List.mem_flatten.mpr ⟨zt_wy151, List.mem_of_getElem? (i := 178) rfl, h⟩
theorem zt_wy152_tb : ∀ w ∈ zt_wy152, w ∈ zt_tb := fun _ h => List.mem_flatten.mpr ⟨zt_wy152, List.mem_of_getElem? (i := 179) rfl, h⟩
theorem zt_wy153_tb : ∀ w ∈ zt_wy153, w ∈ zt_tb := fun _ h => List.mem_flatten.mpr ⟨zt_wy153, List.mem_of_getElem? (i := 180) rfl, h⟩
theorem zt_wy154_tb : ∀ w ∈ zt_wy154, w ∈ zt_tb := fun _ h => List.mem_flatten.mpr ⟨zt_wy154, List.mem_of_getElem? (i := 181) rfl, h⟩
theorem zt_wy155_tb : ∀ w ∈ zt_wy155, w ∈ zt_tb := fun _ h => List.mem_flatten.mpr ⟨zt_wy155, List.mem_of_getElem? (i := 182) rfl, h⟩
theorem zt_wy156_tb : ∀ w ∈ zt_wy156, w ∈ zt_tb := fun _ h => List.mem_flatten.mpr ⟨zt_wy156, List.mem_of_getElem? (i := 183) rfl, h⟩
theorem zt_wy157_tb : ∀ w ∈ zt_wy157, w ∈ zt_tb := fun _ h => List.mem_flatten.mpr ⟨zt_wy157, List.mem_of_getElem? (i := 184) rfl, h⟩
theorem zt_wy158_tb : ∀ w ∈ zt_wy158, w ∈ zt_tb := fun _ h => List.mem_flatten.mpr ⟨zt_wy158, List.mem_of_getElem? (i := 185) rfl, h⟩
theorem zt_wy159_tb : ∀ w ∈ zt_wy159, w ∈ zt_tb := fun _ h => List.mem_flatten.mpr ⟨zt_wy159, List.mem_of_getElem? (i := 186) rfl, h⟩
theorem zt_wy160_tb : ∀ w ∈ zt_wy160, w ∈ zt_tb := fun _ h => List.mem_flatten.mpr ⟨zt_wy160, List.mem_of_getElem? (i := 187) rfl, h⟩
theorem zt_wy161_tb : ∀ w ∈ zt_wy161, w ∈ zt_tb := fun _ h => List.mem_flatten.mpr ⟨zt_wy161, List.mem_of_getElem? (i := 188) rfl, h⟩
theorem zt_wy162_tb : ∀ w ∈ zt_wy162, w ∈ zt_tb := fun _ h => List.mem_flatten.mpr ⟨zt_wy162, List.mem_of_getElem? (i := 189) rfl, h⟩
theorem zt_wy163_tb : ∀ w ∈ zt_wy163, w ∈ zt_tb := fun _ h => List.mem_flatten.mpr ⟨zt_wy163, List.mem_of_getElem? (i := 190) rfl, h⟩
theorem zt_wy164_tb : ∀ w ∈ zt_wy164, w ∈ zt_tb := fun _ h => List.mem_flatten.mpr ⟨zt_wy164, List.mem_of_getElem? (i := 191) rfl, h⟩
theorem zt_wy165_tb : ∀ w ∈ zt_wy165, w ∈ zt_tb := fun _ h => List.mem_flatten.mpr ⟨zt_wy165, List.mem_of_getElem? (i := 192) rfl, h⟩
theorem zt_wy166_tb : ∀ w ∈ zt_wy166, w ∈ zt_tb := fun _ h => List.mem_flatten.mpr ⟨zt_wy166, List.mem_of_getElem? (i := 193) rfl, h⟩
theorem zt_wy167_tb : ∀ w ∈ zt_wy167, w ∈ zt_tb := fun _ h => List.mem_flatten.mpr ⟨zt_wy167, List.mem_of_getElem? (i := 194) rfl, h⟩
theorem zt_wy168_tb : ∀ w ∈ zt_wy168, w ∈ zt_tb := fun _ h => List.mem_flatten.mpr ⟨zt_wy168, List.mem_of_getElem? (i := 195) rfl, h⟩
theorem zt_wy169_tb : ∀ w ∈ zt_wy169, w ∈ zt_tb := fun _ h => List.mem_flatten.mpr ⟨zt_wy169, List.mem_of_getElem? (i := 196) rfl, h⟩
theorem zt_wy170_tb : ∀ w ∈ zt_wy170, w ∈ zt_tb := fun _ h => List.mem_flatten.mpr ⟨zt_wy170, List.mem_of_getElem? (i := 197) rfl, h⟩
theorem zt_wx_tb : ∀ w ∈ zt_wx, w ∈ zt_tb := fun _ h => List.mem_flatten.mpr ⟨zt_wx, List.mem_of_getElem? (i := 198) rfl, h⟩
theorem zt_wcd_tb : ∀ w ∈ zt_wcd, w ∈ zt_tb := fun _ h => List.mem_flatten.mpr ⟨zt_wcd, List.mem_of_getElem? (i := 199) rfl, h⟩
end
section
set_option maxRecDepth 100000 in
theorem zt_k0_ok : xw_kOk zt_nest zt_cl zt_ct zt_at zt_sct zt_strs zt_ys zt_kds "EggGarden$Child" zt_K0 = true := by decide +kernel
set_option maxRecDepth 100000 in
theorem zt_k1_ok : xw_kOk zt_nest zt_cl zt_ct zt_at zt_sct zt_strs zt_ys zt_kds "EggGarden$Egg" zt_K1 = true := by decide +kernel
set_option maxRecDepth 100000 in
theorem zt_k2_ok : xw_kOk zt_nest zt_cl zt_ct zt_at zt_sct zt_strs zt_ys zt_kds "EggGarden$Formula" zt_K2 = true := by decide +kernel
set_option maxRecDepth 100000 in
theorem zt_k3_ok : xw_kOk zt_nest zt_cl zt_ct zt_at zt_sct zt_strs zt_ys zt_kds "EggGarden$Laws" zt_K3 = true := by decide +kernel
set_option maxRecDepth 100000 in
theorem zt_k4_ok : xw_kOk zt_nest zt_cl zt_ct zt_at zt_sct zt_strs zt_ys zt_kds "EggGarden$Morning" zt_K4 = true := by decide +kernel
set_option maxRecDepth 100000 in
theorem zt_k5_ok : xw_kOk zt_nest zt_cl zt_ct zt_at zt_sct zt_strs zt_ys zt_kds "EggGarden$Plan" zt_K5 = true := by decide +kernel
set_option maxRecDepth 100000 in
theorem zt_k6_ok : xw_kOk zt_nest zt_cl zt_ct zt_at zt_sct zt_strs zt_ys zt_kds "EggGarden$Reader" zt_K6 = true := by decide +kernel
set_option maxRecDepth 100000 in
theorem zt_k7_ok : xw_kOk zt_nest zt_cl zt_ct zt_at zt_sct zt_strs zt_ys zt_kds "EggGarden$Seen" zt_K7 = true := by decide +kernel
set_option maxRecDepth 100000 in
theorem zt_k8_ok : xw_kOk zt_nest zt_cl zt_ct zt_at zt_sct zt_strs zt_ys zt_kds "EggGarden$Tokens" zt_K8 = true := by decide +kernel
set_option maxRecDepth 100000 in
theorem zt_k9_ok : xw_kOk zt_nest zt_cl zt_ct zt_at zt_sct zt_strs zt_ys zt_kds "EggGarden$Trials" zt_K9 = true := by decide +kernel
set_option maxRecDepth 100000 in
theorem zt_k10_ok : xw_kOk zt_nest zt_cl zt_ct zt_at zt_sct zt_strs zt_ys zt_kds "EggGarden$Undoing" zt_K10 = true := by decide +kernel
set_option maxRecDepth 100000 in
theorem zt_k11_ok : xw_kOk zt_nest zt_cl zt_ct zt_at zt_sct zt_strs zt_ys zt_kds "EggGarden" zt_K11 = true := by decide +kernel
set_option maxRecDepth 100000 in
theorem zt_k12_ok : xw_kOk zt_nest zt_cl zt_ct zt_at zt_sct zt_strs zt_ys zt_kds "EggGardenModel" zt_K12 = true := by decide +kernel
set_option maxRecDepth 100000 in
theorem zt_kL_ok : xw_kOk zt_nest zt_cl zt_ct zt_at zt_sct zt_strs zt_ys zt_kds "EggGardenLaw" zt_KL = true := by decide +kernel
theorem zt_o0_ok : xw_oOk zt_cl zt_m0 zt_z0 = true := by decide +kernel
theorem zt_o1_ok : xw_oOk zt_cl zt_m1 zt_z1 = true := by decide +kernel
theorem zt_o2_ok : xw_oOk zt_cl zt_m2 zt_z2 = true := by decide +kernel
theorem zt_o3_ok : xw_oOk zt_cl zt_m3 zt_z3 = true := by decide +kernel
theorem zt_o4_ok : xw_oOk zt_cl zt_m4 zt_z4 = true := by decide +kernel
theorem zt_o5_ok : xw_oOk zt_cl zt_m5 zt_z5 = true := by decide +kernel
theorem zt_o6_ok : xw_oOk zt_cl zt_m6 zt_z6 = true := by decide +kernel
theorem zt_o7_ok : xw_oOk zt_cl zt_m7 zt_z7 = true := by decide +kernel
theorem zt_o8_ok : xw_oOk zt_cl zt_m8 zt_z8 = true := by decide +kernel
theorem zt_o9_ok : xw_oOk zt_cl zt_m9 zt_z9 = true := by decide +kernel
theorem zt_o10_ok : xw_oOk zt_cl zt_m10 zt_z10 = true := by decide +kernel
theorem zt_o11_ok : xw_oOk zt_cl zt_m11 zt_z11 = true := by decide +kernel
theorem zt_o12_ok : xw_oOk zt_cl zt_m12 zt_z12 = true := by decide +kernel
theorem zt_o13_ok : xw_oOk zt_cl zt_m13 zt_z13 = true := by decide +kernel
theorem zt_o14_ok : xw_oOk zt_cl zt_m14 zt_z14 = true := by decide +kernel
theorem zt_o15_ok : xw_oOk zt_cl zt_m15 zt_z15 = true := by decide +kernel
theorem zt_o16_ok : xw_oOk zt_cl zt_m16 zt_z16 = true := by decide +kernel
theorem zt_o17_ok : xw_oOk zt_cl zt_m17 zt_z17 = true := by decide +kernel
theorem zt_o18_ok : xw_oOk zt_cl zt_m18 zt_z18 = true := by decide +kernel
theorem zt_o19_ok : xw_oOk zt_cl zt_m19 zt_z19 = true := by decide +kernel
theorem zt_o20_ok : xw_oOk zt_cl zt_m20 zt_z20 = true := by decide +kernel
theorem zt_o21_ok : xw_oOk zt_cl zt_m21 zt_z21 = true := by decide +kernel
theorem zt_o22_ok : xw_oOk zt_cl zt_m22 zt_z22 = true := by decide +kernel
theorem zt_o23_ok : xw_oOk zt_cl zt_m23 zt_z23 = true := by decide +kernel
theorem zt_o24_ok : xw_oOk zt_cl zt_m24 zt_z24 = true := by decide +kernel
theorem zt_o25_ok : xw_oOk zt_cl zt_m25 zt_z25 = true := by decide +kernel
theorem zt_o26_ok : xw_oOk zt_cl zt_m26 zt_z26 = true := by decide +kernel
theorem zt_o27_ok : xw_oOk zt_cl zt_m27 zt_z27 = true := by decide +kernel
theorem zt_o28_ok : xw_oOk zt_cl zt_m28 zt_z28 = true := by decide +kernel
theorem zt_o29_ok : xw_oOk zt_cl zt_m29 zt_z29 = true := by decide +kernel
theorem zt_o30_ok : xw_oOk zt_cl zt_m30 zt_z30 = true := by decide +kernel
theorem zt_o31_ok : xw_oOk zt_cl zt_m31 zt_z31 = true := by decide +kernel
theorem zt_o32_ok : xw_oOk zt_cl zt_m32 zt_z32 = true := by decide +kernel
theorem zt_o33_ok : xw_oOk zt_cl zt_m33 zt_z33 = true := by decide +kernel
theorem zt_o34_ok : xw_oOk zt_cl zt_m34 zt_z34 = true := by decide +kernel
theorem zt_o35_ok : xw_oOk zt_cl zt_m35 zt_z35 = true := by decide +kernel
theorem zt_o36_ok : xw_oOk zt_cl zt_m36 zt_z36 = true := by decide +kernel
theorem zt_o37_ok : xw_oOk zt_cl zt_m37 zt_z37 = true := by decide +kernel
theorem zt_o38_ok : xw_oOk zt_cl zt_m38 zt_z38 = true := by decide +kernel
theorem zt_o39_ok : xw_oOk zt_cl zt_m39 zt_z39 = true := by decide +kernel
theorem zt_o40_ok : xw_oOk zt_cl zt_m40 zt_z40 = true := by decide +kernel
theorem zt_o41_ok : xw_oOk zt_cl zt_m41 zt_z41 = true := by decide +kernel
theorem zt_o42_ok : xw_oOk zt_cl zt_m42 zt_z42 = true := by decide +kernel
theorem zt_o43_ok : xw_oOk zt_cl zt_m43 zt_z43 = true := by decide +kernel
theorem zt_o44_ok : xw_oOk zt_cl zt_m44 zt_z44 = true := by decide +kernel
theorem zt_o45_ok : xw_oOk zt_cl zt_m45 zt_z45 = true := by decide +kernel
theorem zt_o46_ok : xw_oOk zt_cl zt_m46 zt_z46 = true := by decide +kernel
theorem zt_o47_ok : xw_oOk zt_cl zt_m47 zt_z47 = true := by decide +kernel
theorem zt_o48_ok : xw_oOk zt_cl zt_m48 zt_z48 = true := by decide +kernel
theorem zt_o49_ok : xw_oOk zt_cl zt_m49 zt_z49 = true := by decide +kernel
theorem zt_o50_ok : xw_oOk zt_cl zt_m50 zt_z50 = true := by decide +kernel
theorem zt_o51_ok : xw_oOk zt_cl zt_m51 zt_z51 = true := by decide +kernel
theorem zt_o52_ok : xw_oOk zt_cl zt_m52 zt_z52 = true := by decide +kernel
theorem zt_o53_ok : xw_oOk zt_cl zt_m53 zt_z53 = true := by decide +kernel
theorem zt_o54_ok : xw_oOk zt_cl zt_m54 zt_z54 = true := by decide +kernel
theorem zt_o55_ok : xw_oOk zt_cl zt_m55 zt_z55 = true := by decide +kernel
theorem zt_o56_ok : xw_oOk zt_cl zt_m56 zt_z56 = true := by decide +kernel
theorem zt_o57_ok : xw_oOk zt_cl zt_m57 zt_z57 = true := by decide +kernel
theorem zt_o58_ok : xw_oOk zt_cl zt_m58 zt_z58 = true := by decide +kernel
theorem zt_o59_ok : xw_oOk zt_cl zt_m59 zt_z59 = true := by decide +kernel
theorem zt_o60_ok : xw_oOk zt_cl zt_m60 zt_z60 = true := by decide +kernel
theorem zt_o61_ok : xw_oOk zt_cl zt_m61 zt_z61 = true := by decide +kernel
theorem zt_o62_ok : xw_oOk zt_cl zt_m62 zt_z62 = true := by decide +kernel
theorem zt_o63_ok : xw_oOk zt_cl zt_m63 zt_z63 = true := by decide +kernel
theorem zt_o64_ok : xw_oOk zt_cl zt_m64 zt_z64 = true := by decide +kernel
theorem zt_o65_ok : xw_oOk zt_cl zt_m65 zt_z65 = true := by decide +kernel
theorem zt_o66_ok : xw_oOk zt_cl zt_m66 zt_z66 = true := by decide +kernel
theorem zt_o67_ok : xw_oOk zt_cl zt_m67 zt_z67 = true := by decide +kernel
theorem zt_o68_ok : xw_oOk zt_cl zt_m68 zt_z68 = true := by decide +kernel
theorem zt_o69_ok : xw_oOk zt_cl zt_m69 zt_z69 = true := by decide +kernel
theorem zt_o70_ok : xw_oOk zt_cl zt_m70 zt_z70 = true := by decide +kernel
theorem zt_o71_ok : xw_oOk zt_cl zt_m71 zt_z71 = true := by decide +kernel
theorem zt_o72_ok : xw_oOk zt_cl zt_m72 zt_z72 = true := by decide +kernel
theorem zt_o73_ok : xw_oOk zt_cl zt_m73 zt_z73 = true := by decide +kernel
theorem zt_o74_ok : xw_oOk zt_cl zt_m74 zt_z74 = true := by decide +kernel
theorem zt_o75_ok : xw_oOk zt_cl zt_m75 zt_z75 = true := by decide +kernel
theorem zt_o76_ok : xw_oOk zt_cl zt_m76 zt_z76 = true := by decide +kernel
theorem zt_o77_ok : xw_oOk zt_cl zt_m77 zt_z77 = true := by decide +kernel
theorem zt_o78_ok : xw_oOk zt_cl zt_m78 zt_z78 = true := by decide +kernel
theorem zt_o79_ok : xw_oOk zt_cl zt_m79 zt_z79 = true := by decide +kernel
theorem zt_o80_ok : xw_oOk zt_cl zt_m80 zt_z80 = true := by decide +kernel
theorem zt_o81_ok : xw_oOk zt_cl zt_m81 zt_z81 = true := by decide +kernel
theorem zt_o82_ok : xw_oOk zt_cl zt_m82 zt_z82 = true := by decide +kernel
theorem zt_o83_ok : xw_oOk zt_cl zt_m83 zt_z83 = true := by decide +kernel
theorem zt_o84_ok : xw_oOk zt_cl zt_m84 zt_z84 = true := by decide +kernel
theorem zt_o85_ok : xw_oOk zt_cl zt_m85 zt_z85 = true := by decide +kernel
theorem zt_o86_ok : xw_oOk zt_cl zt_m86 zt_z86 = true := by decide +kernel
theorem zt_o87_ok : xw_oOk zt_cl zt_m87 zt_z87 = true := by decide +kernel
theorem zt_o88_ok : xw_oOk zt_cl zt_m88 zt_z88 = true := by decide +kernel
theorem zt_o89_ok : xw_oOk zt_cl zt_m89 zt_z89 = true := by decide +kernel
theorem zt_o90_ok : xw_oOk zt_cl zt_m90 zt_z90 = true := by decide +kernel
theorem zt_o91_ok : xw_oOk zt_cl zt_m91 zt_z91 = true := by decide +kernel
theorem zt_o92_ok : xw_oOk zt_cl zt_m92 zt_z92 = true := by decide +kernel
theorem zt_o93_ok : xw_oOk zt_cl zt_m93 zt_z93 = true := by decide +kernel
theorem zt_o94_ok : xw_oOk zt_cl zt_m94 zt_z94 = true := by decide +kernel
theorem zt_o95_ok : xw_oOk zt_cl zt_m95 zt_z95 = true := by decide +kernel
theorem zt_o96_ok : xw_oOk zt_cl zt_m96 zt_z96 = true := by decide +kernel
theorem zt_o97_ok : xw_oOk zt_cl zt_m97 zt_z97 = true := by decide +kernel
theorem zt_o98_ok : xw_oOk zt_cl zt_m98 zt_z98 = true := by decide +kernel
theorem zt_o99_ok : xw_oOk zt_cl zt_m99 zt_z99 = true := by decide +kernel
theorem zt_o100_ok : xw_oOk zt_cl zt_m100 zt_z100 = true := by decide +kernel
theorem zt_o101_ok : xw_oOk zt_cl zt_m101 zt_z101 = true := by decide +kernel
theorem zt_o102_ok : xw_oOk zt_cl zt_m102 zt_z102 = true := by decide +kernel
theorem zt_o103_ok : xw_oOk zt_cl zt_m103 zt_z103 = true := by decide +kernel
theorem zt_o104_ok : xw_oOk zt_cl zt_m104 zt_z104 = true := by decide +kernel
theorem zt_o105_ok : xw_oOk zt_cl zt_m105 zt_z105 = true := by decide +kernel
theorem zt_o106_ok : xw_oOk zt_cl zt_m106 zt_z106 = true := by decide +kernel
theorem zt_o107_ok : xw_oOk zt_cl zt_m107 zt_z107 = true := by decide +kernel
theorem zt_o108_ok : xw_oOk zt_cl zt_m108 zt_z108 = true := by decide +kernel
theorem zt_o109_ok : xw_oOk zt_cl zt_m109 zt_z109 = true := by decide +kernel
theorem zt_o110_ok : xw_oOk zt_cl zt_m110 zt_z110 = true := by decide +kernel
theorem zt_o111_ok : xw_oOk zt_cl zt_m111 zt_z111 = true := by decide +kernel
theorem zt_o112_ok : xw_oOk zt_cl zt_m112 zt_z112 = true := by decide +kernel
theorem zt_o113_ok : xw_oOk zt_cl zt_m113 zt_z113 = true := by decide +kernel
theorem zt_o114_ok : xw_oOk zt_cl zt_m114 zt_z114 = true := by decide +kernel
theorem zt_o115_ok : xw_oOk zt_cl zt_m115 zt_z115 = true := by decide +kernel
theorem zt_o116_ok : xw_oOk zt_cl zt_m116 zt_z116 = true := by decide +kernel
theorem zt_o117_ok : xw_oOk zt_cl zt_m117 zt_z117 = true := by decide +kernel
theorem zt_o118_ok : xw_oOk zt_cl zt_m118 zt_z118 = true := by decide +kernel
theorem zt_o119_ok : xw_oOk zt_cl zt_m119 zt_z119 = true := by decide +kernel
theorem zt_o120_ok : xw_oOk zt_cl zt_m120 zt_z120 = true := by decide +kernel
theorem zt_o121_ok : xw_oOk zt_cl zt_m121 zt_z121 = true := by decide +kernel
theorem zt_o122_ok : xw_oOk zt_cl zt_m122 zt_z122 = true := by decide +kernel
theorem zt_o123_ok : xw_oOk zt_cl zt_m123 zt_z123 = true := by decide +kernel
theorem zt_o124_ok : xw_oOk zt_cl zt_m124 zt_z124 = true := by decide +kernel
theorem zt_o125_ok : xw_oOk zt_cl zt_m125 zt_z125 = true := by decide +kernel
theorem zt_o126_ok : xw_oOk zt_cl zt_m126 zt_z126 = true := by decide +kernel
theorem zt_o127_ok : xw_oOk zt_cl zt_m127 zt_z127 = true := by decide +kernel
theorem zt_o128_ok : xw_oOk zt_cl zt_m128 zt_z128 = true := by decide +kernel
theorem zt_o129_ok : xw_oOk zt_cl zt_m129 zt_z129 = true := by decide +kernel
theorem zt_o130_ok : xw_oOk zt_cl zt_m130 zt_z130 = true := by decide +kernel
theorem zt_o131_ok : xw_oOk zt_cl zt_m131 zt_z131 = true := by decide +kernel
theorem zt_o132_ok : xw_oOk zt_cl zt_m132 zt_z132 = true := by decide +kernel
theorem zt_o133_ok : xw_oOk zt_cl zt_m133 zt_z133 = true := by decide +kernel
theorem zt_o134_ok : xw_oOk zt_cl zt_m134 zt_z134 = true := by decide +kernel
theorem zt_o135_ok : xw_oOk zt_cl zt_m135 zt_z135 = true := by decide +kernel
theorem zt_o136_ok : xw_oOk zt_cl zt_m136 zt_z136 = true := by decide +kernel
theorem zt_o137_ok : xw_oOk zt_cl zt_m137 zt_z137 = true := by decide +kernel
theorem zt_o138_ok : xw_oOk zt_cl zt_m138 zt_z138 = true := by decide +kernel
theorem zt_o139_ok : xw_oOk zt_cl zt_m139 zt_z139 = true := by decide +kernel
theorem zt_o140_ok : xw_oOk zt_cl zt_m140 zt_z140 = true := by decide +kernel
theorem zt_o141_ok : xw_oOk zt_cl zt_m141 zt_z141 = true := by decide +kernel
theorem zt_o142_ok : xw_oOk zt_cl zt_m142 zt_z142 = true := by decide +kernel
theorem zt_o143_ok : xw_oOk zt_cl zt_m143 zt_z143 = true := by decide +kernel
theorem zt_o144_ok : xw_oOk zt_cl zt_m144 zt_z144 = true := by decide +kernel
theorem zt_o145_ok : xw_oOk zt_cl zt_m145 zt_z145 = true := by decide +kernel
theorem zt_o146_ok : xw_oOk zt_cl zt_m146 zt_z146 = true := by decide +kernel
theorem zt_o147_ok : xw_oOk zt_cl zt_m147 zt_z147 = true := by decide +kernel
theorem zt_o148_ok : xw_oOk zt_cl zt_m148 zt_z148 = true := by decide +kernel
theorem zt_o149_ok : xw_oOk zt_cl zt_m149 zt_z149 = true := by decide +kernel
theorem zt_o150_ok : xw_oOk zt_cl zt_m150 zt_z150 = true := by decide +kernel
theorem zt_o151_ok : xw_oOk zt_cl zt_m151 zt_z151 = true := by decide +kernel
theorem zt_o152_ok : xw_oOk zt_cl zt_m152 zt_z152 = true := by decide +kernel
theorem zt_o153_ok : xw_oOk zt_cl zt_m153 zt_z153 = true := by decide +kernel
theorem zt_o154_ok : xw_oOk zt_cl zt_m154 zt_z154 = true := by decide +kernel
theorem zt_o155_ok : xw_oOk zt_cl zt_m155 zt_z155 = true := by decide +kernel
theorem zt_o156_ok : xw_oOk zt_cl zt_m156 zt_z156 = true := by decide +kernel
theorem zt_o157_ok : xw_oOk zt_cl zt_m157 zt_z157 = true := by decide +kernel
theorem zt_o158_ok : xw_oOk zt_cl zt_m158 zt_z158 = true := by decide +kernel
theorem zt_o159_ok : xw_oOk zt_cl zt_m159 zt_z159 = true := by decide +kernel
theorem zt_o160_ok : xw_oOk zt_cl zt_m160 zt_z160 = true := by decide +kernel
theorem zt_o161_ok : xw_oOk zt_cl zt_m161 zt_z161 = true := by decide +kernel
theorem zt_o162_ok : xw_oOk zt_cl zt_m162 zt_z162 = true := by decide +kernel
theorem zt_o163_ok : xw_oOk zt_cl zt_m163 zt_z163 = true := by decide +kernel
theorem zt_o164_ok : xw_oOk zt_cl zt_m164 zt_z164 = true := by decide +kernel
theorem zt_o165_ok : xw_oOk zt_cl zt_m165 zt_z165 = true := by decide +kernel
theorem zt_o166_ok : xw_oOk zt_cl zt_m166 zt_z166 = true := by decide +kernel
theorem zt_o167_ok : xw_oOk zt_cl zt_m167 zt_z167 = true := by decide +kernel
theorem zt_o168_ok : xw_oOk zt_cl zt_m168 zt_z168 = true := by decide +kernel
theorem zt_o169_ok : xw_oOk zt_cl zt_m169 zt_z169 = true := by decide +kernel
theorem zt_o170_ok : xw_oOk zt_cl zt_m170 zt_z170 = true := by decide +kernel
end
section
theorem xw_alls {α : Type} {l : List α} {f : α → Bool} {n m : Nat} (h1 : ((l.drop n).take m).all f = true) (h2 : (l.drop (n + m)).all f = true) : (l.drop n).all f = true := by
  rw [← List.take_append_drop m (l.drop n), List.all_append, h1, List.drop_drop, h2]
  rfl
theorem xw_all0 {α : Type} {l : List α} {f : α → Bool} {n : Nat} (h : l.length ≤ n) : (l.drop n).all f = true := by
  rw [List.drop_eq_nil_of_le h]
  rfl
set_option maxRecDepth 100000 in
theorem zt_d5_ok : zt_m5.2.2.2.all (xw_dOk zt_z5.2.1) = true := by decide +kernel
set_option maxRecDepth 100000 in
theorem zt_d112_ok : zt_m112.2.2.2.all (xw_dOk zt_z112.2.1) = true := by decide +kernel
set_option maxRecDepth 100000 in
theorem zt_d129_ok : zt_m129.2.2.2.all (xw_dOk zt_z129.2.1) = true := by decide +kernel
set_option maxRecDepth 100000 in
theorem zt_d28_ok : zt_m28.2.2.2.all (xw_dOk zt_z28.2.1) = true := by decide +kernel
set_option maxRecDepth 100000 in
theorem zt_d141_ok : zt_m141.2.2.2.all (xw_dOk zt_z141.2.1) = true := by decide +kernel
set_option maxRecDepth 100000 in
theorem zt_d48_ok : zt_m48.2.2.2.all (xw_dOk zt_z48.2.1) = true := by decide +kernel
set_option maxRecDepth 100000 in
theorem zt_d36_ok : zt_m36.2.2.2.all (xw_dOk zt_z36.2.1) = true := by decide +kernel
set_option maxRecDepth 100000 in
theorem zt_d6_ok : zt_m6.2.2.2.all (xw_dOk zt_z6.2.1) = true := by decide +kernel
set_option maxRecDepth 100000 in
theorem zt_d117_ok : zt_m117.2.2.2.all (xw_dOk zt_z117.2.1) = true := by decide +kernel
set_option maxRecDepth 100000 in
theorem zt_d17_ok : zt_m17.2.2.2.all (xw_dOk zt_z17.2.1) = true := by decide +kernel
set_option maxRecDepth 100000 in
theorem zt_d27_ok : zt_m27.2.2.2.all (xw_dOk zt_z27.2.1) = true := by decide +kernel
set_option maxRecDepth 100000 in
theorem zt_d73_ok : zt_m73.2.2.2.all (xw_dOk zt_z73.2.1) = true := by decide +kernel
set_option maxRecDepth 100000 in
theorem zt_d84_ok : zt_m84.2.2.2.all (xw_dOk zt_z84.2.1) = true := by decide +kernel
set_option maxRecDepth 100000 in
theorem zt_d168_ok : zt_m168.2.2.2.all (xw_dOk zt_z168.2.1) = true := by decide +kernel
set_option maxRecDepth 100000 in
theorem zt_d70_ok : zt_m70.2.2.2.all (xw_dOk zt_z70.2.1) = true := by decide +kernel
set_option maxRecDepth 100000 in
theorem zt_d71_ok : zt_m71.2.2.2.all (xw_dOk zt_z71.2.1) = true := by decide +kernel
set_option maxRecDepth 100000 in
theorem zt_d109_ok : zt_m109.2.2.2.all (xw_dOk zt_z109.2.1) = true := by decide +kernel
set_option maxRecDepth 100000 in
theorem zt_d167_ok : zt_m167.2.2.2.all (xw_dOk zt_z167.2.1) = true := by decide +kernel
set_option maxRecDepth 100000 in
theorem zt_d53_ok : zt_m53.2.2.2.all (xw_dOk zt_z53.2.1) = true := by decide +kernel
set_option maxRecDepth 100000 in
theorem zt_d57_ok : zt_m57.2.2.2.all (xw_dOk zt_z57.2.1) = true := by decide +kernel
set_option maxRecDepth 100000 in
theorem zt_d59_ok : zt_m59.2.2.2.all (xw_dOk zt_z59.2.1) = true := by decide +kernel
set_option maxRecDepth 100000 in
theorem zt_d64_ok : zt_m64.2.2.2.all (xw_dOk zt_z64.2.1) = true := by decide +kernel
set_option maxRecDepth 100000 in
theorem zt_d66_ok : zt_m66.2.2.2.all (xw_dOk zt_z66.2.1) = true := by decide +kernel
set_option maxRecDepth 100000 in
theorem zt_d67_ok : zt_m67.2.2.2.all (xw_dOk zt_z67.2.1) = true := by decide +kernel
set_option maxRecDepth 100000 in
theorem zt_d99_ok : zt_m99.2.2.2.all (xw_dOk zt_z99.2.1) = true := by decide +kernel
set_option maxRecDepth 100000 in
theorem zt_d124_ok : zt_m124.2.2.2.all (xw_dOk zt_z124.2.1) = true := by decide +kernel
set_option maxRecDepth 100000 in
theorem zt_d50_ok : zt_m50.2.2.2.all (xw_dOk zt_z50.2.1) = true := by decide +kernel
set_option maxRecDepth 100000 in
theorem zt_d120_ok : zt_m120.2.2.2.all (xw_dOk zt_z120.2.1) = true := by decide +kernel
set_option maxRecDepth 100000 in
theorem zt_d134_ok : zt_m134.2.2.2.all (xw_dOk zt_z134.2.1) = true := by decide +kernel
set_option maxRecDepth 100000 in
theorem zt_d137_ok : zt_m137.2.2.2.all (xw_dOk zt_z137.2.1) = true := by decide +kernel
set_option maxRecDepth 100000 in
theorem zt_d146_ok : zt_m146.2.2.2.all (xw_dOk zt_z146.2.1) = true := by decide +kernel
set_option maxRecDepth 100000 in
theorem zt_d155_ok : zt_m155.2.2.2.all (xw_dOk zt_z155.2.1) = true := by decide +kernel
set_option maxRecDepth 100000 in
theorem zt_d158_ok : zt_m158.2.2.2.all (xw_dOk zt_z158.2.1) = true := by decide +kernel
set_option maxRecDepth 100000 in
theorem zt_d24_ok : zt_m24.2.2.2.all (xw_dOk zt_z24.2.1) = true := by decide +kernel
set_option maxRecDepth 100000 in
theorem zt_d55_ok : zt_m55.2.2.2.all (xw_dOk zt_z55.2.1) = true := by decide +kernel
set_option maxRecDepth 100000 in
theorem zt_d46_ok : zt_m46.2.2.2.all (xw_dOk zt_z46.2.1) = true := by decide +kernel
set_option maxRecDepth 100000 in
theorem zt_d90_ok : zt_m90.2.2.2.all (xw_dOk zt_z90.2.1) = true := by decide +kernel
set_option maxRecDepth 100000 in
theorem zt_d91_ok : zt_m91.2.2.2.all (xw_dOk zt_z91.2.1) = true := by decide +kernel
set_option maxRecDepth 100000 in
theorem zt_d116_ok : zt_m116.2.2.2.all (xw_dOk zt_z116.2.1) = true := by decide +kernel
set_option maxRecDepth 100000 in
theorem zt_d101_ok : zt_m101.2.2.2.all (xw_dOk zt_z101.2.1) = true := by decide +kernel
set_option maxRecDepth 100000 in
theorem zt_d108_ok : zt_m108.2.2.2.all (xw_dOk zt_z108.2.1) = true := by decide +kernel
set_option maxRecDepth 100000 in
theorem zt_d125_ok : zt_m125.2.2.2.all (xw_dOk zt_z125.2.1) = true := by decide +kernel
set_option maxRecDepth 100000 in
theorem zt_d144_ok : zt_m144.2.2.2.all (xw_dOk zt_z144.2.1) = true := by decide +kernel
set_option maxRecDepth 100000 in
theorem zt_d145_ok : zt_m145.2.2.2.all (xw_dOk zt_z145.2.1) = true := by decide +kernel
set_option maxRecDepth 100000 in
theorem zt_d32_ok : zt_m32.2.2.2.all (xw_dOk zt_z32.2.1) = true := by decide +kernel
set_option maxRecDepth 100000 in
theorem zt_d47_ok : zt_m47.2.2.2.all (xw_dOk zt_z47.2.1) = true := by decide +kernel
set_option maxRecDepth 100000 in
theorem zt_d123_ok : zt_m123.2.2.2.all (xw_dOk zt_z123.2.1) = true := by decide +kernel
set_option maxRecDepth 100000 in
theorem zt_d160_ok : zt_m160.2.2.2.all (xw_dOk zt_z160.2.1) = true := by decide +kernel
set_option maxRecDepth 100000 in
theorem zt_d8_ok : zt_m8.2.2.2.all (xw_dOk zt_z8.2.1) = true := by decide +kernel
set_option maxRecDepth 100000 in
theorem zt_d103_ok : zt_m103.2.2.2.all (xw_dOk zt_z103.2.1) = true := by decide +kernel
set_option maxRecDepth 100000 in
theorem zt_d132_ok : zt_m132.2.2.2.all (xw_dOk zt_z132.2.1) = true := by decide +kernel
set_option maxRecDepth 100000 in
theorem zt_d133_ok : zt_m133.2.2.2.all (xw_dOk zt_z133.2.1) = true := by decide +kernel
set_option maxRecDepth 100000 in
theorem zt_d51_ok : zt_m51.2.2.2.all (xw_dOk zt_z51.2.1) = true := by decide +kernel
set_option maxRecDepth 100000 in
theorem zt_d60_ok : zt_m60.2.2.2.all (xw_dOk zt_z60.2.1) = true := by decide +kernel
set_option maxRecDepth 100000 in
theorem zt_d92_ok : zt_m92.2.2.2.all (xw_dOk zt_z92.2.1) = true := by decide +kernel
set_option maxRecDepth 100000 in
theorem zt_d10_ok : zt_m10.2.2.2.all (xw_dOk zt_z10.2.1) = true := by decide +kernel
set_option maxRecDepth 100000 in
theorem zt_d153_ok : zt_m153.2.2.2.all (xw_dOk zt_z153.2.1) = true := by decide +kernel
set_option maxRecDepth 100000 in
theorem zt_d166_ok : zt_m166.2.2.2.all (xw_dOk zt_z166.2.1) = true := by decide +kernel
set_option maxRecDepth 100000 in
theorem zt_d37_ok : zt_m37.2.2.2.all (xw_dOk zt_z37.2.1) = true := by decide +kernel
set_option maxRecDepth 100000 in
theorem zt_d49_ok : zt_m49.2.2.2.all (xw_dOk zt_z49.2.1) = true := by decide +kernel
set_option maxRecDepth 100000 in
theorem zt_d61_ok : zt_m61.2.2.2.all (xw_dOk zt_z61.2.1) = true := by decide +kernel
set_option maxRecDepth 100000 in
theorem zt_d93_ok : zt_m93.2.2.2.all (xw_dOk zt_z93.2.1) = true := by decide +kernel
set_option maxRecDepth 100000 in
theorem zt_d94_ok : zt_m94.2.2.2.all (xw_dOk zt_z94.2.1) = true := by decide +kernel
set_option maxRecDepth 100000 in
theorem zt_d102_ok : zt_m102.2.2.2.all (xw_dOk zt_z102.2.1) = true := by decide +kernel
set_option maxRecDepth 100000 in
theorem zt_d105_ok : zt_m105.2.2.2.all (xw_dOk zt_z105.2.1) = true := by decide +kernel
set_option maxRecDepth 100000 in
theorem zt_d164_ok : zt_m164.2.2.2.all (xw_dOk zt_z164.2.1) = true := by decide +kernel
set_option maxRecDepth 100000 in
theorem zt_d35_ok : zt_m35.2.2.2.all (xw_dOk zt_z35.2.1) = true := by decide +kernel
set_option maxRecDepth 100000 in
theorem zt_d115_ok : zt_m115.2.2.2.all (xw_dOk zt_z115.2.1) = true := by decide +kernel
set_option maxRecDepth 100000 in
theorem zt_d122_ok : zt_m122.2.2.2.all (xw_dOk zt_z122.2.1) = true := by decide +kernel
set_option maxRecDepth 100000 in
theorem zt_d83_ok : zt_m83.2.2.2.all (xw_dOk zt_z83.2.1) = true := by decide +kernel
set_option maxRecDepth 100000 in
theorem zt_d143_ok : zt_m143.2.2.2.all (xw_dOk zt_z143.2.1) = true := by decide +kernel
set_option maxRecDepth 100000 in
theorem zt_d139_ok : zt_m139.2.2.2.all (xw_dOk zt_z139.2.1) = true := by decide +kernel
set_option maxRecDepth 100000 in
theorem zt_d3_ok : zt_m3.2.2.2.all (xw_dOk zt_z3.2.1) = true := by decide +kernel
set_option maxRecDepth 100000 in
theorem zt_d14_ok : zt_m14.2.2.2.all (xw_dOk zt_z14.2.1) = true := by decide +kernel
set_option maxRecDepth 100000 in
theorem zt_d40_ok : zt_m40.2.2.2.all (xw_dOk zt_z40.2.1) = true := by decide +kernel
set_option maxRecDepth 100000 in
theorem zt_d65_ok : zt_m65.2.2.2.all (xw_dOk zt_z65.2.1) = true := by decide +kernel
set_option maxRecDepth 100000 in
theorem zt_d82_ok : zt_m82.2.2.2.all (xw_dOk zt_z82.2.1) = true := by decide +kernel
set_option maxRecDepth 100000 in
theorem zt_d104_ok : zt_m104.2.2.2.all (xw_dOk zt_z104.2.1) = true := by decide +kernel
set_option maxRecDepth 100000 in
theorem zt_d111_ok : zt_m111.2.2.2.all (xw_dOk zt_z111.2.1) = true := by decide +kernel
set_option maxRecDepth 100000 in
theorem zt_d128_ok : zt_m128.2.2.2.all (xw_dOk zt_z128.2.1) = true := by decide +kernel
set_option maxRecDepth 100000 in
theorem zt_d148_ok : zt_m148.2.2.2.all (xw_dOk zt_z148.2.1) = true := by decide +kernel
set_option maxRecDepth 100000 in
theorem zt_d169_ok : zt_m169.2.2.2.all (xw_dOk zt_z169.2.1) = true := by decide +kernel
set_option maxRecDepth 100000 in
theorem zt_d165_ok : zt_m165.2.2.2.all (xw_dOk zt_z165.2.1) = true := by decide +kernel
set_option maxRecDepth 100000 in
theorem zt_d41_ok : zt_m41.2.2.2.all (xw_dOk zt_z41.2.1) = true := by decide +kernel
set_option maxRecDepth 100000 in
theorem zt_d98_ok : zt_m98.2.2.2.all (xw_dOk zt_z98.2.1) = true := by decide +kernel
set_option maxRecDepth 100000 in
theorem zt_d81_ok : zt_m81.2.2.2.all (xw_dOk zt_z81.2.1) = true := by decide +kernel
set_option maxRecDepth 100000 in
theorem zt_d85_ok : zt_m85.2.2.2.all (xw_dOk zt_z85.2.1) = true := by decide +kernel
set_option maxRecDepth 100000 in
theorem zt_d13_ok : zt_m13.2.2.2.all (xw_dOk zt_z13.2.1) = true := by decide +kernel
set_option maxRecDepth 100000 in
theorem zt_d142_ok : zt_m142.2.2.2.all (xw_dOk zt_z142.2.1) = true := by decide +kernel
set_option maxRecDepth 100000 in
theorem zt_d154_ok : zt_m154.2.2.2.all (xw_dOk zt_z154.2.1) = true := by decide +kernel
set_option maxRecDepth 100000 in
theorem zt_d52_ok : zt_m52.2.2.2.all (xw_dOk zt_z52.2.1) = true := by decide +kernel
set_option maxRecDepth 100000 in
theorem zt_d72_ok : zt_m72.2.2.2.all (xw_dOk zt_z72.2.1) = true := by decide +kernel
set_option maxRecDepth 100000 in
theorem zt_d121_ok : zt_m121.2.2.2.all (xw_dOk zt_z121.2.1) = true := by decide +kernel
set_option maxRecDepth 100000 in
theorem zt_d130_ok : zt_m130.2.2.2.all (xw_dOk zt_z130.2.1) = true := by decide +kernel
set_option maxRecDepth 100000 in
theorem zt_d9_ok : zt_m9.2.2.2.all (xw_dOk zt_z9.2.1) = true := by decide +kernel
set_option maxRecDepth 100000 in
theorem zt_d1_ok : zt_m1.2.2.2.all (xw_dOk zt_z1.2.1) = true := by decide +kernel
set_option maxRecDepth 100000 in
theorem zt_d19_ok : zt_m19.2.2.2.all (xw_dOk zt_z19.2.1) = true := by decide +kernel
set_option maxRecDepth 100000 in
theorem zt_d20_ok : zt_m20.2.2.2.all (xw_dOk zt_z20.2.1) = true := by decide +kernel
set_option maxRecDepth 100000 in
theorem zt_d2_ok : zt_m2.2.2.2.all (xw_dOk zt_z2.2.1) = true := by decide +kernel
set_option maxRecDepth 100000 in
theorem zt_d39_ok : zt_m39.2.2.2.all (xw_dOk zt_z39.2.1) = true := by decide +kernel
set_option maxRecDepth 100000 in
theorem zt_d131_ok : zt_m131.2.2.2.all (xw_dOk zt_z131.2.1) = true := by decide +kernel
set_option maxRecDepth 100000 in
theorem zt_d54_ok : zt_m54.2.2.2.all (xw_dOk zt_z54.2.1) = true := by decide +kernel
set_option maxRecDepth 100000 in
theorem zt_d68_ok : zt_m68.2.2.2.all (xw_dOk zt_z68.2.1) = true := by decide +kernel
set_option maxRecDepth 100000 in
theorem zt_d110_ok : zt_m110.2.2.2.all (xw_dOk zt_z110.2.1) = true := by decide +kernel
set_option maxRecDepth 100000 in
theorem zt_d140_ok : zt_m140.2.2.2.all (xw_dOk zt_z140.2.1) = true := by decide +kernel
set_option maxRecDepth 100000 in
theorem zt_d43_ok : zt_m43.2.2.2.all (xw_dOk zt_z43.2.1) = true := by decide +kernel
set_option maxRecDepth 100000 in
theorem zt_d79_ok : zt_m79.2.2.2.all (xw_dOk zt_z79.2.1) = true := by decide +kernel
set_option maxRecDepth 100000 in
theorem zt_d80_ok : zt_m80.2.2.2.all (xw_dOk zt_z80.2.1) = true := by decide +kernel
set_option maxRecDepth 100000 in
theorem zt_d16_ok : zt_m16.2.2.2.all (xw_dOk zt_z16.2.1) = true := by decide +kernel
set_option maxRecDepth 100000 in
theorem zt_d56_ok : zt_m56.2.2.2.all (xw_dOk zt_z56.2.1) = true := by decide +kernel
set_option maxRecDepth 100000 in
theorem zt_d150_ok : zt_m150.2.2.2.all (xw_dOk zt_z150.2.1) = true := by decide +kernel
set_option maxRecDepth 100000 in
theorem zt_d74_ok : zt_m74.2.2.2.all (xw_dOk zt_z74.2.1) = true := by decide +kernel
set_option maxRecDepth 100000 in
theorem zt_d77_ok : zt_m77.2.2.2.all (xw_dOk zt_z77.2.1) = true := by decide +kernel
set_option maxRecDepth 100000 in
theorem zt_d78_ok : zt_m78.2.2.2.all (xw_dOk zt_z78.2.1) = true := by decide +kernel
set_option maxRecDepth 100000 in
theorem zt_d170_ok : zt_m170.2.2.2.all (xw_dOk zt_z170.2.1) = true := by decide +kernel
set_option maxRecDepth 100000 in
theorem zt_d69_ok : zt_m69.2.2.2.all (xw_dOk zt_z69.2.1) = true := by decide +kernel
set_option maxRecDepth 100000 in
theorem zt_d21_ok : zt_m21.2.2.2.all (xw_dOk zt_z21.2.1) = true := by decide +kernel
set_option maxRecDepth 100000 in
theorem zt_d118_ok : zt_m118.2.2.2.all (xw_dOk zt_z118.2.1) = true := by decide +kernel
set_option maxRecDepth 100000 in
theorem zt_d136_ok : zt_m136.2.2.2.all (xw_dOk zt_z136.2.1) = true := by decide +kernel
set_option maxRecDepth 100000 in
theorem zt_d25_ok : zt_m25.2.2.2.all (xw_dOk zt_z25.2.1) = true := by decide +kernel
set_option maxRecDepth 100000 in
theorem zt_d62_ok : zt_m62.2.2.2.all (xw_dOk zt_z62.2.1) = true := by decide +kernel
set_option maxRecDepth 100000 in
theorem zt_d75_ok : zt_m75.2.2.2.all (xw_dOk zt_z75.2.1) = true := by decide +kernel
set_option maxRecDepth 100000 in
theorem zt_d86_ok : zt_m86.2.2.2.all (xw_dOk zt_z86.2.1) = true := by decide +kernel
set_option maxRecDepth 100000 in
theorem zt_d157_ok : zt_m157.2.2.2.all (xw_dOk zt_z157.2.1) = true := by decide +kernel
set_option maxRecDepth 100000 in
theorem zt_d15_ok : zt_m15.2.2.2.all (xw_dOk zt_z15.2.1) = true := by decide +kernel
set_option maxRecDepth 100000 in
theorem zt_d44_ok : zt_m44.2.2.2.all (xw_dOk zt_z44.2.1) = true := by decide +kernel
set_option maxRecDepth 100000 in
theorem zt_d114_ok : zt_m114.2.2.2.all (xw_dOk zt_z114.2.1) = true := by decide +kernel
set_option maxRecDepth 100000 in
theorem zt_d38_ok : zt_m38.2.2.2.all (xw_dOk zt_z38.2.1) = true := by decide +kernel
set_option maxRecDepth 100000 in
theorem zt_d106_ok : zt_m106.2.2.2.all (xw_dOk zt_z106.2.1) = true := by decide +kernel
set_option maxRecDepth 100000 in
theorem zt_d12_ok : zt_m12.2.2.2.all (xw_dOk zt_z12.2.1) = true := by decide +kernel
set_option maxRecDepth 100000 in
theorem zt_d4_ok : zt_m4.2.2.2.all (xw_dOk zt_z4.2.1) = true := by decide +kernel
set_option maxRecDepth 100000 in
theorem zt_d7_ok : zt_m7.2.2.2.all (xw_dOk zt_z7.2.1) = true := by decide +kernel
set_option maxRecDepth 100000 in
theorem zt_d88_ok : zt_m88.2.2.2.all (xw_dOk zt_z88.2.1) = true := by decide +kernel
set_option maxRecDepth 100000 in
theorem zt_d127_ok : zt_m127.2.2.2.all (xw_dOk zt_z127.2.1) = true := by decide +kernel
set_option maxRecDepth 100000 in
theorem zt_d113_ok : zt_m113.2.2.2.all (xw_dOk zt_z113.2.1) = true := by decide +kernel
set_option maxRecDepth 100000 in
theorem zt_d119_ok : zt_m119.2.2.2.all (xw_dOk zt_z119.2.1) = true := by decide +kernel
set_option maxRecDepth 100000 in
theorem zt_d96_ok : zt_m96.2.2.2.all (xw_dOk zt_z96.2.1) = true := by decide +kernel
set_option maxRecDepth 100000 in
theorem zt_d11_ok : zt_m11.2.2.2.all (xw_dOk zt_z11.2.1) = true := by decide +kernel
set_option maxRecDepth 100000 in
theorem zt_d34_ok : zt_m34.2.2.2.all (xw_dOk zt_z34.2.1) = true := by decide +kernel
set_option maxRecDepth 100000 in
theorem zt_d87_ok : zt_m87.2.2.2.all (xw_dOk zt_z87.2.1) = true := by decide +kernel
set_option maxRecDepth 100000 in
theorem zt_d97_ok : zt_m97.2.2.2.all (xw_dOk zt_z97.2.1) = true := by decide +kernel
set_option maxRecDepth 100000 in
theorem zt_d152_ok : zt_m152.2.2.2.all (xw_dOk zt_z152.2.1) = true := by decide +kernel
set_option maxRecDepth 100000 in
theorem zt_d33_ok : zt_m33.2.2.2.all (xw_dOk zt_z33.2.1) = true := by decide +kernel
set_option maxRecDepth 100000 in
theorem zt_d76_ok : zt_m76.2.2.2.all (xw_dOk zt_z76.2.1) = true := by decide +kernel
set_option maxRecDepth 100000 in
theorem zt_d149_ok : zt_m149.2.2.2.all (xw_dOk zt_z149.2.1) = true := by decide +kernel
set_option maxRecDepth 100000 in
theorem zt_d156_ok : zt_m156.2.2.2.all (xw_dOk zt_z156.2.1) = true := by decide +kernel
set_option maxRecDepth 100000 in
theorem zt_d42_ok : zt_m42.2.2.2.all (xw_dOk zt_z42.2.1) = true := by decide +kernel
end
section
set_option maxRecDepth 100000 in
theorem zt_d126_ok : zt_m126.2.2.2.all (xw_dOk zt_z126.2.1) = true := by decide +kernel
set_option maxRecDepth 100000 in
theorem zt_d95_ok : zt_m95.2.2.2.all (xw_dOk zt_z95.2.1) = true := by decide +kernel
set_option maxRecDepth 100000 in
theorem zt_d0_ok : zt_m0.2.2.2.all (xw_dOk zt_z0.2.1) = true := by decide +kernel
set_option maxRecDepth 100000 in
theorem zt_d107_ok : zt_m107.2.2.2.all (xw_dOk zt_z107.2.1) = true := by decide +kernel
set_option maxRecDepth 100000 in
theorem zt_d162_ok : zt_m162.2.2.2.all (xw_dOk zt_z162.2.1) = true := by decide +kernel
set_option maxRecDepth 100000 in
theorem zt_d159_ok : zt_m159.2.2.2.all (xw_dOk zt_z159.2.1) = true := by decide +kernel
set_option maxRecDepth 100000 in
theorem zt_d138_ok : zt_m138.2.2.2.all (xw_dOk zt_z138.2.1) = true := by decide +kernel
set_option maxRecDepth 100000 in
theorem zt_d151_ok : zt_m151.2.2.2.all (xw_dOk zt_z151.2.1) = true := by decide +kernel
set_option maxRecDepth 100000 in
theorem zt_d161_ok : zt_m161.2.2.2.all (xw_dOk zt_z161.2.1) = true := by decide +kernel
set_option maxRecDepth 100000 in
theorem zt_d22_ok : zt_m22.2.2.2.all (xw_dOk zt_z22.2.1) = true := by decide +kernel
set_option maxRecDepth 100000 in
theorem zt_d23_ok : zt_m23.2.2.2.all (xw_dOk zt_z23.2.1) = true := by decide +kernel
set_option maxRecDepth 100000 in
theorem zt_d58_ok : zt_m58.2.2.2.all (xw_dOk zt_z58.2.1) = true := by decide +kernel
set_option maxRecDepth 100000 in
theorem zt_d135_ok : zt_m135.2.2.2.all (xw_dOk zt_z135.2.1) = true := by decide +kernel
set_option maxRecDepth 100000 in
theorem zt_d30_ok : zt_m30.2.2.2.all (xw_dOk zt_z30.2.1) = true := by decide +kernel
set_option maxRecDepth 100000 in
theorem zt_d163_ok : zt_m163.2.2.2.all (xw_dOk zt_z163.2.1) = true := by decide +kernel
set_option maxRecDepth 100000 in
theorem zt_d100_ok : zt_m100.2.2.2.all (xw_dOk zt_z100.2.1) = true := by decide +kernel
set_option maxRecDepth 100000 in
theorem zt_d18_ok : zt_m18.2.2.2.all (xw_dOk zt_z18.2.1) = true := by decide +kernel
set_option maxRecDepth 100000 in
theorem zt_d31_ok : zt_m31.2.2.2.all (xw_dOk zt_z31.2.1) = true := by decide +kernel
set_option maxRecDepth 100000 in
theorem zt_d45_ok : zt_m45.2.2.2.all (xw_dOk zt_z45.2.1) = true := by decide +kernel
set_option maxRecDepth 100000 in
theorem zt_d63_ok : zt_m63.2.2.2.all (xw_dOk zt_z63.2.1) = true := by decide +kernel
end
section
set_option maxRecDepth 100000 in
theorem zt_d147_ok : zt_m147.2.2.2.all (xw_dOk zt_z147.2.1) = true := by decide +kernel
end
section
set_option maxRecDepth 100000 in
theorem zt_d26_0 : ((zt_m26.2.2.2.drop 0).take 40).all (xw_dOk zt_z26.2.1) = true := by decide +kernel
set_option maxRecDepth 100000 in
theorem zt_d26_1 : ((zt_m26.2.2.2.drop 40).take 40).all (xw_dOk zt_z26.2.1) = true := by decide +kernel
set_option maxRecDepth 100000 in
theorem zt_d26_2 : ((zt_m26.2.2.2.drop 80).take 40).all (xw_dOk zt_z26.2.1) = true := by decide +kernel
set_option maxRecDepth 100000 in
theorem zt_d26_3 : ((zt_m26.2.2.2.drop 120).take 40).all (xw_dOk zt_z26.2.1) = true := by decide +kernel
set_option maxRecDepth 100000 in
theorem zt_d26_4 : ((zt_m26.2.2.2.drop 160).take 40).all (xw_dOk zt_z26.2.1) = true := by decide +kernel
end
section
set_option maxRecDepth 100000 in
theorem zt_d29_0 : ((zt_m29.2.2.2.drop 0).take 40).all (xw_dOk zt_z29.2.1) = true := by decide +kernel
set_option maxRecDepth 100000 in
theorem zt_d29_1 : ((zt_m29.2.2.2.drop 40).take 40).all (xw_dOk zt_z29.2.1) = true := by decide +kernel
set_option maxRecDepth 100000 in
theorem zt_d29_2 : ((zt_m29.2.2.2.drop 80).take 40).all (xw_dOk zt_z29.2.1) = true := by decide +kernel
set_option maxRecDepth 100000 in
theorem zt_d29_3 : ((zt_m29.2.2.2.drop 120).take 40).all (xw_dOk zt_z29.2.1) = true := by decide +kernel
set_option maxRecDepth 100000 in
theorem zt_d29_4 : ((zt_m29.2.2.2.drop 160).take 40).all (xw_dOk zt_z29.2.1) = true := by decide +kernel
set_option maxRecDepth 100000 in
theorem zt_d29_5 : ((zt_m29.2.2.2.drop 200).take 40).all (xw_dOk zt_z29.2.1) = true := by decide +kernel
end
section
set_option maxRecDepth 100000 in
theorem zt_d29_6 : ((zt_m29.2.2.2.drop 240).take 40).all (xw_dOk zt_z29.2.1) = true := by decide +kernel
set_option maxRecDepth 100000 in
theorem zt_d29_7 : ((zt_m29.2.2.2.drop 280).take 40).all (xw_dOk zt_z29.2.1) = true := by decide +kernel
set_option maxRecDepth 100000 in
theorem zt_d29_8 : ((zt_m29.2.2.2.drop 320).take 40).all (xw_dOk zt_z29.2.1) = true := by decide +kernel
set_option maxRecDepth 100000 in
theorem zt_d29_9 : ((zt_m29.2.2.2.drop 360).take 40).all (xw_dOk zt_z29.2.1) = true := by decide +kernel
set_option maxRecDepth 100000 in
theorem zt_d29_10 : ((zt_m29.2.2.2.drop 400).take 40).all (xw_dOk zt_z29.2.1) = true := by decide +kernel
set_option maxRecDepth 100000 in
theorem zt_d29_11 : ((zt_m29.2.2.2.drop 440).take 40).all (xw_dOk zt_z29.2.1) = true := by decide +kernel
end
section
set_option maxRecDepth 100000 in
theorem zt_d29_12 : ((zt_m29.2.2.2.drop 480).take 40).all (xw_dOk zt_z29.2.1) = true := by decide +kernel
set_option maxRecDepth 100000 in
theorem zt_d29_13 : ((zt_m29.2.2.2.drop 520).take 40).all (xw_dOk zt_z29.2.1) = true := by decide +kernel
set_option maxRecDepth 100000 in
theorem zt_d29_14 : ((zt_m29.2.2.2.drop 560).take 40).all (xw_dOk zt_z29.2.1) = true := by decide +kernel
set_option maxRecDepth 100000 in
theorem zt_d29_15 : ((zt_m29.2.2.2.drop 600).take 40).all (xw_dOk zt_z29.2.1) = true := by decide +kernel
set_option maxRecDepth 100000 in
theorem zt_d29_16 : ((zt_m29.2.2.2.drop 640).take 40).all (xw_dOk zt_z29.2.1) = true := by decide +kernel
set_option maxRecDepth 100000 in
theorem zt_d29_17 : ((zt_m29.2.2.2.drop 680).take 40).all (xw_dOk zt_z29.2.1) = true := by decide +kernel
end
section
set_option maxRecDepth 100000 in
theorem zt_d29_18 : ((zt_m29.2.2.2.drop 720).take 40).all (xw_dOk zt_z29.2.1) = true := by decide +kernel
set_option maxRecDepth 100000 in
theorem zt_d29_19 : ((zt_m29.2.2.2.drop 760).take 40).all (xw_dOk zt_z29.2.1) = true := by decide +kernel
set_option maxRecDepth 100000 in
theorem zt_d29_20 : ((zt_m29.2.2.2.drop 800).take 40).all (xw_dOk zt_z29.2.1) = true := by decide +kernel
end
section
set_option maxRecDepth 100000 in
theorem zt_d89_0 : ((zt_m89.2.2.2.drop 0).take 40).all (xw_dOk zt_z89.2.1) = true := by decide +kernel
set_option maxRecDepth 100000 in
theorem zt_d89_1 : ((zt_m89.2.2.2.drop 40).take 40).all (xw_dOk zt_z89.2.1) = true := by decide +kernel
set_option maxRecDepth 100000 in
theorem zt_d89_2 : ((zt_m89.2.2.2.drop 80).take 40).all (xw_dOk zt_z89.2.1) = true := by decide +kernel
set_option maxRecDepth 100000 in
theorem zt_d89_3 : ((zt_m89.2.2.2.drop 120).take 40).all (xw_dOk zt_z89.2.1) = true := by decide +kernel
set_option maxRecDepth 100000 in
theorem zt_d89_4 : ((zt_m89.2.2.2.drop 160).take 40).all (xw_dOk zt_z89.2.1) = true := by decide +kernel
end
section
set_option maxRecDepth 100000 in
theorem zt_dlaw_0 : ((zt_law.2.2.2.drop 0).take 40).all (xw_dOk zt_zlaw.2.1) = true := by decide +kernel
set_option maxRecDepth 100000 in
theorem zt_dlaw_1 : ((zt_law.2.2.2.drop 40).take 40).all (xw_dOk zt_zlaw.2.1) = true := by decide +kernel
set_option maxRecDepth 100000 in
theorem zt_dlaw_2 : ((zt_law.2.2.2.drop 80).take 40).all (xw_dOk zt_zlaw.2.1) = true := by decide +kernel
set_option maxRecDepth 100000 in
theorem zt_dlaw_3 : ((zt_law.2.2.2.drop 120).take 40).all (xw_dOk zt_zlaw.2.1) = true := by decide +kernel
set_option maxRecDepth 100000 in
theorem zt_dlaw_4 : ((zt_law.2.2.2.drop 160).take 40).all (xw_dOk zt_zlaw.2.1) = true := by decide +kernel
set_option maxRecDepth 100000 in
theorem zt_dlaw_5 : ((zt_law.2.2.2.drop 200).take 40).all (xw_dOk zt_zlaw.2.1) = true := by decide +kernel
end
section
set_option maxRecDepth 100000 in
theorem zt_dlaw_6 : ((zt_law.2.2.2.drop 240).take 40).all (xw_dOk zt_zlaw.2.1) = true := by decide +kernel
set_option maxRecDepth 100000 in
theorem zt_dlaw_7 : ((zt_law.2.2.2.drop 280).take 40).all (xw_dOk zt_zlaw.2.1) = true := by decide +kernel
set_option maxRecDepth 100000 in
theorem zt_dlaw_8 : ((zt_law.2.2.2.drop 320).take 40).all (xw_dOk zt_zlaw.2.1) = true := by decide +kernel
set_option maxRecDepth 100000 in
theorem zt_dlaw_9 : ((zt_law.2.2.2.drop 360).take 40).all (xw_dOk zt_zlaw.2.1) = true := by decide +kernel
set_option maxRecDepth 100000 in
theorem zt_dlaw_10 : ((zt_law.2.2.2.drop 400).take 40).all (xw_dOk zt_zlaw.2.1) = true := by decide +kernel
set_option maxRecDepth 100000 in
theorem zt_dlaw_11 : ((zt_law.2.2.2.drop 440).take 40).all (xw_dOk zt_zlaw.2.1) = true := by decide +kernel
end
section
set_option maxRecDepth 100000 in
theorem zt_dlaw_12 : ((zt_law.2.2.2.drop 480).take 40).all (xw_dOk zt_zlaw.2.1) = true := by decide +kernel
set_option maxRecDepth 100000 in
theorem zt_dlaw_13 : ((zt_law.2.2.2.drop 520).take 40).all (xw_dOk zt_zlaw.2.1) = true := by decide +kernel
set_option maxRecDepth 100000 in
theorem zt_dlaw_14 : ((zt_law.2.2.2.drop 560).take 40).all (xw_dOk zt_zlaw.2.1) = true := by decide +kernel
set_option maxRecDepth 100000 in
theorem zt_dlaw_15 : ((zt_law.2.2.2.drop 600).take 40).all (xw_dOk zt_zlaw.2.1) = true := by decide +kernel
set_option maxRecDepth 100000 in
theorem zt_dlaw_16 : ((zt_law.2.2.2.drop 640).take 40).all (xw_dOk zt_zlaw.2.1) = true := by decide +kernel
set_option maxRecDepth 100000 in
theorem zt_dlaw_17 : ((zt_law.2.2.2.drop 680).take 40).all (xw_dOk zt_zlaw.2.1) = true := by decide +kernel
end
section
set_option maxRecDepth 100000 in
theorem zt_dlaw_18 : ((zt_law.2.2.2.drop 720).take 40).all (xw_dOk zt_zlaw.2.1) = true := by decide +kernel
set_option maxRecDepth 100000 in
theorem zt_dlaw_19 : ((zt_law.2.2.2.drop 760).take 40).all (xw_dOk zt_zlaw.2.1) = true := by decide +kernel
set_option maxRecDepth 100000 in
theorem zt_dlaw_20 : ((zt_law.2.2.2.drop 800).take 40).all (xw_dOk zt_zlaw.2.1) = true := by decide +kernel
set_option maxRecDepth 100000 in
theorem zt_dlaw_21 : ((zt_law.2.2.2.drop 840).take 40).all (xw_dOk zt_zlaw.2.1) = true := by decide +kernel
set_option maxRecDepth 100000 in
theorem zt_dlaw_22 : ((zt_law.2.2.2.drop 880).take 40).all (xw_dOk zt_zlaw.2.1) = true := by decide +kernel
set_option maxRecDepth 100000 in
theorem zt_dlaw_23 : ((zt_law.2.2.2.drop 920).take 40).all (xw_dOk zt_zlaw.2.1) = true := by decide +kernel
end
section
set_option maxRecDepth 100000 in
theorem zt_d26_ok : zt_m26.2.2.2.all (xw_dOk zt_z26.2.1) = true := (xw_alls zt_d26_0 (xw_alls zt_d26_1 (xw_alls zt_d26_2 (xw_alls zt_d26_3 (xw_alls zt_d26_4 (xw_all0 (by decide +kernel)))))))
set_option maxRecDepth 100000 in
theorem zt_d29_ok : zt_m29.2.2.2.all (xw_dOk zt_z29.2.1) = true := (xw_alls zt_d29_0 (xw_alls zt_d29_1 (xw_alls zt_d29_2 (xw_alls zt_d29_3 (xw_alls zt_d29_4 (xw_alls zt_d29_5 (xw_alls zt_d29_6 (xw_alls zt_d29_7 (xw_alls zt_d29_8 (xw_alls zt_d29_9 (xw_alls zt_d29_10 (xw_alls zt_d29_11 (xw_alls zt_d29_12 (xw_alls zt_d29_13 (xw_alls zt_d29_14 (xw_alls zt_d29_15 (xw_alls zt_d29_16 (xw_alls zt_d29_17 (xw_alls zt_d29_18 (xw_alls zt_d29_19 (xw_alls zt_d29_20 (xw_all0 (by decide +kernel)))))))))))))))))))))))
set_option maxRecDepth 100000 in
theorem zt_d89_ok : zt_m89.2.2.2.all (xw_dOk zt_z89.2.1) = true := (xw_alls zt_d89_0 (xw_alls zt_d89_1 (xw_alls zt_d89_2 (xw_alls zt_d89_3 (xw_alls zt_d89_4 (xw_all0 (by decide +kernel)))))))
set_option maxRecDepth 100000 in
theorem zt_dlaw_ok : zt_law.2.2.2.all (xw_dOk zt_zlaw.2.1) = true := (xw_alls zt_dlaw_0 (xw_alls zt_dlaw_1 (xw_alls zt_dlaw_2 (xw_alls zt_dlaw_3 (xw_alls zt_dlaw_4 (xw_alls zt_dlaw_5 (xw_alls zt_dlaw_6 (xw_alls zt_dlaw_7 (xw_alls zt_dlaw_8 (xw_alls zt_dlaw_9 (xw_alls zt_dlaw_10 (xw_alls zt_dlaw_11 (xw_alls zt_dlaw_12 (xw_alls zt_dlaw_13 (xw_alls zt_dlaw_14 (xw_alls zt_dlaw_15 (xw_alls zt_dlaw_16 (xw_alls zt_dlaw_17 (xw_alls zt_dlaw_18 (xw_alls zt_dlaw_19 (xw_alls zt_dlaw_20 (xw_alls zt_dlaw_21 (xw_alls zt_dlaw_22 (xw_alls zt_dlaw_23 (xw_all0 (by decide +kernel))))))))))))))))))))))))))
end
section
theorem i_vc : Claimed_1_1 ∧ Claimed_1_2 := sorry
end
