/-! THE DOMAIN: exact numbers (.inl n), numbers between two bounds (.inr (lo, hi)); .inr (lo, hi) with hi < lo: the lowest six bits are hi -/
abbrev xd_V : Type := Int ⊕ (Int × Int)
def xd_le : Int → Int → Bool
  | .ofNat m, .ofNat n => Nat.ble m n
  | .ofNat _, .negSucc _ => false
  | .negSucc _, .ofNat _ => true
  | .negSucc m, .negSucc n => Nat.ble n m
def xd_top : xd_V := .inr (-2147483648, 2147483647)
def xd_r32 (z : Int) : Option xd_V := bif xd_le (-2147483648) z && xd_le z 2147483647 then some (.inl z) else none
def xd_r64 (z : Int) : Option xd_V := bif xd_le (-9223372036854775808) z && xd_le z 9223372036854775807 then some (.inl z) else none
def xd_i32 (o : Nat) (a b : Int) : Option xd_V := match xv_semI o (Int32.ofInt a) (Int32.ofInt b) with
  | some z => some (.inl z.toInt)
  | none => none
def xd_i64 (o : Nat) (a b : Int) : Option xd_V := match xv_semL o (Int64.ofInt a) (Int64.ofInt b) with
  | some z => some (.inl z.toInt)
  | none => none
def xd_is0 : Int → Bool
  | .ofNat 0 => true
  | _ => false
/-- numbers that aren't exact: nothing is known of the answer -/
def xd_ex (f : Int → Int → Option xd_V) (u : Option xd_V) (a b : xd_V) : Option xd_V := match a, b with
  | .inl x, .inl y => f x y
  | _, _ => u
def xd_add : xd_V → xd_V → Option xd_V := xd_ex (fun a b => xd_r32 (Int.add a b)) (some xd_top)
def xd_sub : xd_V → xd_V → Option xd_V := xd_ex (fun a b => xd_r32 (Int.sub a b)) (some xd_top)
def xd_mul : xd_V → xd_V → Option xd_V := xd_ex (fun a b => xd_r32 (Int.mul a b)) (some xd_top)
def xd_anx : Int → Int → Option xd_V := xd_i32 3
/-- the lowest six bits may be known -/
def xd_an (a b : xd_V) : Option xd_V := match a, b with
  | .inl x, .inl y => xd_anx x y
  | .inr (lo, hi), .inl n => bif xd_le n 63 && xd_le 63 n && !xd_le lo hi then some (.inl hi) else some xd_top
  | _, _ => some xd_top
def xd_orx : Int → Int → Option xd_V := xd_i32 4
def xd_div (a b : Int) : Option xd_V := bif xd_is0 b then none else xd_r32 (Int.tdiv a b)
def xd_rem (a b : Int) : Option xd_V := bif xd_is0 b then none else xd_r32 (Int.tmod a b)
def xd_andl : Int → Int → Option xd_V := xd_i64 3
def xd_orl : Int → Int → Option xd_V := xd_i64 4
def xd_divl (a b : Int) : Option xd_V := bif xd_is0 b then none else xd_r64 (Int.tdiv a b)
def xd_reml (a b : Int) : Option xd_V := bif xd_is0 b then none else xd_r64 (Int.tmod a b)
def xd_lcmp (a b : Int) : Option xd_V := bif xd_le a b then (bif xd_le b a then some (.inl 0) else some (.inl (-1))) else some (.inl 1)
def xd_op : Nat → xd_V → xd_V → Option xd_V
  | 0 => xd_add
  | 1 => xd_sub
  | 2 => xd_mul
  | 3 => xd_an
  | 4 => xd_ex xd_orx (some xd_top)
  | 5 => xd_ex (xd_i32 5) (some xd_top)
  | 6 => xd_ex (xd_i32 6) (some xd_top)
  | 7 => xd_ex (xd_i32 7) (some xd_top)
  | 8 => xd_ex xd_div none
  | 9 => xd_ex xd_rem none
  | 10 => xd_ex (fun a _ => xd_r32 (Int.neg a)) (some xd_top)
  | 20 => xd_ex (fun a b => xd_r64 (Int.add a b)) none
  | 21 => xd_ex (fun a b => xd_r64 (Int.sub a b)) none
  | 22 => xd_ex (fun a b => xd_r64 (Int.mul a b)) none
  | 23 => xd_ex xd_andl none
  | 24 => xd_ex xd_orl none
  | 25 => xd_ex xd_divl none
  | 26 => xd_ex xd_reml none
  | 27 => xd_ex (fun a _ => xd_r64 (Int.neg a)) none
  | 30 => xd_ex (fun a b => some (.inl (Int64.ofInt a <<< ((Int32.ofInt b).toInt64 &&& 63)).toInt)) none
  | 31 => xd_ex (fun a b => some (.inl (Int64.ofInt a >>> ((Int32.ofInt b).toInt64 &&& 63)).toInt)) none
  | 40 => xd_ex (fun a _ => some (.inl a)) none
  | 41 => xd_ex (fun a _ => xd_r32 a) none
  | 42 => xd_ex xd_lcmp none
  | _ => fun _ _ => none
def xd_b : xd_V → Int × Int
  | .inl n => (n, n)
  | .inr (lo, hi) => bif xd_le lo hi then (lo, hi) else (-2147483648, 2147483647)
/-- a comparison: f of exact numbers, q of bounds -/
def xd_c (f : Int → Int → Bool) (q : Int → Int → Int → Int → Option Bool) (a b : xd_V) : Option Bool := match a, b with
  | .inl x, .inl y => some (f x y)
  | a, b => match xd_b a, xd_b b with
    | (al, ah), (bl, bh) => q al ah bl bh
def xd_eqx (a b : Int) : Bool := xd_le a b && xd_le b a
def xd_eqq (al ah bl bh : Int) : Option Bool := bif !xd_le bl ah || !xd_le al bh then some false else none
def xd_neq (al ah bl bh : Int) : Option Bool := bif !xd_le bl ah || !xd_le al bh then some true else none
def xd_ltq (al ah bl bh : Int) : Option Bool := bif xd_le bh al then some false else bif !xd_le bl ah then some true else none
def xd_geq (al ah bl bh : Int) : Option Bool := bif xd_le bh al then some true else bif !xd_le bl ah then some false else none
def xd_gtq (al ah bl bh : Int) : Option Bool := bif xd_le ah bl then some false else bif !xd_le al bh then some true else none
def xd_leq (al ah bl bh : Int) : Option Bool := bif xd_le ah bl then some true else bif !xd_le al bh then some false else none
def xd_cmp : Nat → xd_V → xd_V → Option Bool
  | 0 => xd_c xd_eqx xd_eqq
  | 1 => xd_c (fun a b => !xd_eqx a b) xd_neq
  | 2 => xd_c (fun a b => !xd_le b a) xd_ltq
  | 3 => xd_c (fun a b => xd_le b a) xd_geq
  | 4 => xd_c (fun a b => !xd_le a b) xd_gtq
  | _ => xd_c xd_le xd_leq
def xd_val : xd_V → Option Int
  | .inl n => some n
  | .inr _ => none
def xd_bit : xd_V → Bool
  | .inl n => xd_le 0 n && xd_le n 1
  | .inr _ => false
def xd_D : xv_D xd_V := (fun n => .inl n.toInt, fun n => .inl n.toInt, xd_op, xd_cmp, xd_val, xd_bit)
/-- a number laid out -/
noncomputable def xd_fi {β : Type} (z : Int) (k : Int → β) : β := Int.rec (motive := fun _ => β) (fun n => xf_nat n (fun n => k (.ofNat n))) (fun n => xf_nat n (fun n => k (.negSucc n))) z
theorem xd_fi_eq {β : Type} (z : Int) (k : Int → β) : xd_fi z k = k z := by
  cases z with
  | ofNat n => exact xf_nat_eq n (fun n => k (.ofNat n))
  | negSucc n => exact xf_nat_eq n (fun n => k (.negSucc n))
noncomputable def xd_fv : xf_fv xd_V := fun r k => match r with
  | .inl z => xd_fi z (fun z => k (.inl z))
  | .inr q => k (.inr q)
theorem xd_fv_eq (r : xd_V) (k : xd_V → Option (xf_P xd_V)) : xd_fv r k = k r := by
  cases r with
  | inl z => exact xd_fi_eq z (fun z => k (.inl z))
  | inr q => rfl
