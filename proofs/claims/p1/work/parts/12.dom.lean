/-! THE DOMAIN: exact numbers (.inl n), numbers between two bounds (.inr (lo, hi)); .inr (lo, hi) with hi < lo: the lowest six bits are hi -/
abbrev xd_V : Type := Int ⊕ (Int × Int)
def xd_le : Int → Int → Bool
  | .ofNat m, .ofNat n => Nat.ble m n
  | .ofNat _, .negSucc _ => false
  | .negSucc _, .ofNat _ => true
  | .negSucc m, .negSucc n => Nat.ble n m
def xd_top : xd_V := .inr (-2147483648, 2147483647)
def xd_r32 (z : Int) : Option xd_V := bif xd_le (-2147483648) z && xd_le z 2147483647 then some (.inl z) else none
def xd_r64 (z : Int) : Option xd_V := bif xd_le (-9223372036854775808) z && xd_le z 9223372036854775807 then some (.inl z) else none
def xd_i32 (o : Nat) (a b : Int) : Option xd_V := match xv_semI o (Int32.ofInt a) (Int32.ofInt b) with
  | some z => some (.inl z.toInt)
  | none => none
def xd_i64 (o : Nat) (a b : Int) : Option xd_V := match xv_semL o (Int64.ofInt a) (Int64.ofInt b) with
  | some z => some (.inl z.toInt)
  | none => none
def xd_and (a b : Int) : Option xd_V := match a, b with
  | .ofNat m, .ofNat n => some (.inl (.ofNat (Nat.land m n)))
  | _, _ => none
def xd_or (a b : Int) : Option xd_V := match a, b with
  | .ofNat m, .ofNat n => some (.inl (.ofNat (Nat.lor m n)))
  | _, _ => none
def xd_is0 : Int → Bool
  | .ofNat 0 => true
  | _ => false
/-- two exact numbers -/
def xd_ex (a b : Int) : Nat → Option xd_V
  | 0 => xd_r32 (Int.add a b)
  | 1 => xd_r32 (Int.sub a b)
  | 2 => xd_r32 (Int.mul a b)
  | 3 => match xd_and a b with
    | some r => some r
    | none => xd_i32 3 a b
  | 4 => match xd_or a b with
    | some r => some r
    | none => xd_i32 4 a b
  | 8 => bif xd_is0 b then none else xd_r32 (Int.tdiv a b)
  | 9 => bif xd_is0 b then none else xd_r32 (Int.tmod a b)
  | 10 => xd_r32 (Int.neg a)
  | 20 => xd_r64 (Int.add a b)
  | 21 => xd_r64 (Int.sub a b)
  | 22 => xd_r64 (Int.mul a b)
  | 23 => match xd_and a b with
    | some r => some r
    | none => xd_i64 3 a b
  | 24 => match xd_or a b with
    | some r => some r
    | none => xd_i64 4 a b
  | 25 => bif xd_is0 b then none else xd_r64 (Int.tdiv a b)
  | 26 => bif xd_is0 b then none else xd_r64 (Int.tmod a b)
  | 27 => xd_r64 (Int.neg a)
  | 30 => some (.inl (Int64.ofInt a <<< ((Int32.ofInt b).toInt64 &&& 63)).toInt)
  | 31 => some (.inl (Int64.ofInt a >>> ((Int32.ofInt b).toInt64 &&& 63)).toInt)
  | 40 => some (.inl a)
  | 41 => xd_r32 a
  | 42 => bif xd_le a b then (bif xd_le b a then some (.inl 0) else some (.inl (-1))) else some (.inl 1)
  | 5 => xd_i32 5 a b
  | 6 => xd_i32 6 a b
  | 7 => xd_i32 7 a b
  | _ => none
/-- a number that isn't exact -/
def xd_un (o : Nat) (a b : xd_V) : Option xd_V := match a, b with
  | .inr (lo, hi), .inl n => bif Nat.beq o 3 && (xd_le n 63 && xd_le 63 n && !xd_le lo hi) then some (.inl hi) else bif Nat.blt o 8 then some xd_top else none
  | _, _ => bif Nat.blt o 8 then some xd_top else none
def xd_op (o : Nat) (a b : xd_V) : Option xd_V := match a, b with
  | .inl x, .inl y => xd_ex x y o
  | _, _ => xd_un o a b
def xd_b : xd_V → Int × Int
  | .inl n => (n, n)
  | .inr (lo, hi) => bif xd_le lo hi then (lo, hi) else (-2147483648, 2147483647)
def xd_cq (o : Nat) (al ah bl bh : Int) : Option Bool := match o with
  | 0 => bif xd_le bl al && xd_le ah bl && (xd_le bl bh && xd_le bh bl) then some true else bif !xd_le bl ah || !xd_le al bh then some false else none
  | 1 => bif xd_le bl al && xd_le ah bl && (xd_le bl bh && xd_le bh bl) then some false else bif !xd_le bl ah || !xd_le al bh then some true else none
  | 2 => bif xd_le bh al then some false else bif !xd_le bl ah then some true else none
  | 3 => bif xd_le bh al then some true else bif !xd_le bl ah then some false else none
  | 4 => bif xd_le ah bl then some false else bif !xd_le al bh then some true else none
  | _ => bif xd_le ah bl then some true else bif !xd_le al bh then some false else none
def xd_cmp (o : Nat) (a b : xd_V) : Option Bool := match xd_b a, xd_b b with
  | (al, ah), (bl, bh) => xd_cq o al ah bl bh
def xd_val : xd_V → Option Int
  | .inl n => some n
  | .inr _ => none
def xd_bit : xd_V → Bool
  | .inl n => xd_le 0 n && xd_le n 1
  | .inr _ => false
def xd_D : xv_D xd_V := (fun n => .inl n.toInt, fun n => .inl n.toInt, xd_op, xd_cmp, xd_val, xd_bit)
