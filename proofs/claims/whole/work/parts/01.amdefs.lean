/-! THE ABSTRACT MACHINE: a plain reading of the bytecode over a plain memory; an address is a place in a list -/
abbrev aC : Type := Nat × List Value
abbrev aM : Type := List aC × Nat × Nat
abbrev aL : Type := List (Nat × Value)
abbrev aR : Type := (Option Value ⊕ Nat) × aM
abbrev aO : Type := (Nat × aL × List Value × aM) ⊕ aR
/-- an instruction, its length, numbers that a program has resolved, a constant -/
abbrev aI : Type := Instr × Nat × List Nat × Value
abbrev aH : Type := List (Nat × Nat × List Nat)
/-- a method: its blocks by their places; its handler rows; its live locals at the entry -/
abbrev aK : Type := List (Nat × List aI) × List aH × List Nat
abbrev aY : Type := Nat → List Value → aM → Option aR
def am_ro : Nat := 3
def am_ld : aL → Nat → Option Value
  | [], _ => none
  | q :: r, i => bif Nat.beq q.1 i then some q.2 else am_ld r i
def am_pj : List Nat → aL → aL
  | [], _ => []
  | i :: r, L => match am_ld L i with
    | some v => (i, v) :: am_pj r L
    | none => am_pj r L
def am_s1 (L : aL) (i : Nat) (v : Value) : aL := (i, v) :: L.filter (fun q => !(q.1 == i) && !(q.1 + 1 == i && q.2.category == 2))
def am_s2 (L : aL) (i : Nat) (v : Value) : aL := (i, v) :: L.filter (fun q => !(q.1 == i) && (!(q.1 == i + 1) && !(q.1 + 1 == i && q.2.category == 2)))
def am_ar : Nat → List Value → aL
  | _, [] => []
  | i, v :: r => (i, v) :: am_ar (i + v.category) r
def am_rd (M : aM) (a ci k : Nat) : Option Value := (M.1[a]?).bind fun c => bif Nat.beq c.1 ci then c.2[k]? else none
def am_vI : Value → Option Int32
  | .int x => some x
  | _ => none
def am_vJ : Value → Option Int64
  | .long x => some x
  | _ => none
def am_vA : Value → Option Nat
  | .ref x => some x
  | _ => none
def am_rI (M : aM) (a ci k : Nat) : Option Int32 := (am_rd M a ci k).bind am_vI
def am_rJ (M : aM) (a ci k : Nat) : Option Int64 := (am_rd M a ci k).bind am_vJ
def am_rA (M : aM) (a ci k : Nat) : Option Nat := (am_rd M a ci k).bind am_vA
def am_wr (M : aM) (a ci k : Nat) (v : Value) : Option aM := (M.1[a]?).bind fun c => bif Nat.beq c.1 ci && (Nat.ble am_ro a && Nat.blt k c.2.length) then some (M.1.set a (c.1, c.2.set k v), M.2) else none
def am_ln (M : aM) (a ci : Nat) : Option Nat := (M.1[a]?).bind fun c => bif Nat.beq c.1 ci then some c.2.length else none
def am_ix (i : Int32) : Option Nat := if i < 0 then none else some i.toNatClampNeg
def am_nw (M : aM) (ci : Nat) (fs : List Value) : aM := (M.1 ++ [(ci, fs)], M.2.1 + 1, M.2.2 + fs.length)
def am_tk (M : aM) (c s : Nat) : aM := (M.1, M.2.1 + c, M.2.2 + s)
def am_ft (ty : Nat) (v : Value) : Bool := match v with
  | .int x => match ty with
    | 0 => true
    | 3 => x == 0 || x == 1
    | 4 => decide (0 ≤ x) && decide (x ≤ 65535)
    | _ => false
  | .long _ => Nat.beq ty 1
  | .ref _ => Nat.beq ty 2
  | _ => false
/-- a copy of n places from the beginning of one array to that of another -/
def am_cp (M : aM) (ci a b n : Nat) : Option aM := (M.1[a]?).bind fun c => (M.1[b]?).bind fun d => bif Nat.beq c.1 ci && (Nat.beq d.1 ci && ((Nat.ble am_ro a && Nat.ble am_ro b) && (Nat.ble n c.2.length && (Nat.ble n d.2.length && (c.2.take n).all (am_ft 4))))) then some (M.1.set b (d.1, c.2.take n ++ d.2.drop n), M.2) else none
section
variable {β : Type}
def am_I1 (st : List Value) (f : Int32 → List Value → Option β) : Option β := match st with
  | .int x :: r => f x r
  | _ => none
def am_I2 (st : List Value) (f : Int32 → Int32 → List Value → Option β) : Option β := match st with
  | .int y :: .int x :: r => f x y r
  | _ => none
def am_J1 (st : List Value) (f : Int64 → List Value → Option β) : Option β := match st with
  | .long x :: r => f x r
  | _ => none
def am_J2 (st : List Value) (f : Int64 → Int64 → List Value → Option β) : Option β := match st with
  | .long y :: .long x :: r => f x y r
  | _ => none
def am_JI (st : List Value) (f : Int64 → Int32 → List Value → Option β) : Option β := match st with
  | .int y :: .long x :: r => f x y r
  | _ => none
def am_A1 (st : List Value) (f : Nat → List Value → Option β) : Option β := match st with
  | .ref x :: r => f x r
  | _ => none
def am_lI (o : Option Value) (f : Int32 → Option β) : Option β := match o with
  | some (.int x) => f x
  | _ => none
def am_lJ (o : Option Value) (f : Int64 → Option β) : Option β := match o with
  | some (.long x) => f x
  | _ => none
def am_lA (o : Option Value) (f : Nat → Option β) : Option β := match o with
  | some (.ref x) => f x
  | _ => none
def am_dp (st : List Value) (f : Value → List Value → Option β) : Option β := match st with
  | v :: r => bif Nat.beq v.category 1 then f v r else none
  | _ => none
def am_cx (J : Nat → aL → List Value → aM → Option β) : aH → Nat → aL → aM → Option β
  | [], _, _, _ => none
  | h :: r, e, L, M => bif Nat.beq e h.1 then J h.2.1 (am_pj h.2.2 L) [] M else am_cx J r e L M
def am_ct (J : Nat → aL → List Value → aM → Option β) (R : aR → Option β) (hl : aH) (e : Nat) (L : aL) (M : aM) : Option β := match hl with
  | [] => R (.inr e, M)
  | h :: r => am_cx J (h :: r) e L M
/-- behind a call: what came back -/
def am_cV (o : Option aR) (k : aM → Option β) (x : Nat → aM → Option β) : Option β := match o with
  | some (.inl none, M) => k M
  | some (.inr e, M) => x e M
  | _ => none
def am_cI (o : Option aR) (k : Int32 → aM → Option β) (x : Nat → aM → Option β) : Option β := match o with
  | some (.inl (some (.int v)), M) => k v M
  | some (.inr e, M) => x e M
  | _ => none
def am_cJ (o : Option aR) (k : Int64 → aM → Option β) (x : Nat → aM → Option β) : Option β := match o with
  | some (.inl (some (.long v)), M) => k v M
  | some (.inr e, M) => x e M
  | _ => none
def am_cA (o : Option aR) (k : Nat → aM → Option β) (x : Nat → aM → Option β) : Option β := match o with
  | some (.inl (some (.ref v)), M) => k v M
  | some (.inr e, M) => x e M
  | _ => none
def am_jp (J : Nat → aL → List Value → aM → Option β) (ops : List Nat) (L : aL) (st : List Value) (M : aM) : Option β := match ops with
  | t :: lv => J t (am_pj lv L) st M
  | [] => none
def am_sw (J : Nat → aL → List Value → aM → Option β) (x : Int32) (d : Nat) (lv : List Nat) (L : aL) (st : List Value) (M : aM) : Nat → List Nat → Option β
  | _, [] => J d (am_pj lv L) st M
  | n, t :: r => if x = nI n then J t (am_pj lv L) st M else am_sw J x d lv L st M (n + 1) r
end
def am_cs (st : List Value) : Nat := (st.map fun v => v.category).sum
def am_df (ci : Nat) : List Value := match ci with
  | 0 => [.null, .null, .int 0, .long 0, .int 0, .int 0, .int 0]
  | 1 => [.null, .null, .int 0, .int 0]
  | 2 => [.null]
  | 3 => [.null, .int 0]
  | 4 => [.null, .int 0]
  | 5 => [.null, .null, .int 0, .long 0, .int 0]
  | 6 => [.null, .int 0]
  | 7 => [.null, .null, .null, .null]
  | 8 => [.null, .null, .null]
  | 9 => [.null, .null, .null, .null, .null, .null, .null, .null, .null, .null, .null, .null, .null, .null, .null, .int 0, .int 0, .int 0, .null, .int 0, .int 0, .int 0]
  | _ => []
def am_dv (kd : Nat) : Value := match kd with
  | 10 => .int 0
  | 11 => .long 0
  | 12 => .int 0
  | 13 => .int 0
  | _ => .null
section
variable {β : Type}
/-- a call: number of the method, how many arguments, what it answers (0 int, 1 long, 2 reference, 9 nothing), its handler rows -/
def am_iv (cal : aY) (hs : List aH) (J : Nat → aL → List Value → aM → Option β) (R : aR → Option β) (o : List Nat) (k : aL → List Value → aM → Option β) (L : aL) (st : List Value) (M : aM) : Option β := match o with
  | m :: n :: rk :: h :: _ => bif Nat.ble n st.length && Nat.ble (am_cs (st.drop n)) 8 then (match rk with
    | 0 => am_cI (cal m (st.take n).reverse M) (fun v M' => k L (.int v :: st.drop n) M') (fun e M' => am_ct J R (hs.getD h []) e L M')
    | 1 => am_cJ (cal m (st.take n).reverse M) (fun v M' => k L (.long v :: st.drop n) M') (fun e M' => am_ct J R (hs.getD h []) e L M')
    | 2 => am_cA (cal m (st.take n).reverse M) (fun v M' => k L (.ref v :: st.drop n) M') (fun e M' => am_ct J R (hs.getD h []) e L M')
    | _ => am_cV (cal m (st.take n).reverse M) (fun M' => k L (st.drop n) M') (fun e M' => am_ct J R (hs.getD h []) e L M')) else none
  | _ => none
end
section
variable {β : Type}
def am_1 (cal : aY) (hs : List aH) (J : Nat → aL → List Value → aM → Option β) (R : aR → Option β) (i : aI) (k : aL → List Value → aM → Option β) (L : aL) (st : List Value) (M : aM) : Option β :=
  match i.1 with
  | .iconst _ => k L (i.2.2.2 :: st) M
  | .bipush _ => k L (i.2.2.2 :: st) M
  | .sipush _ => k L (i.2.2.2 :: st) M
  | .lconst _ => k L (i.2.2.2 :: st) M
  | .ldc_w _ => k L (i.2.2.2 :: st) M
  | .ldc2_w _ => k L (i.2.2.2 :: st) M
  | .iload_n _ => am_lI (am_ld L (i.2.2.1.headD 0)) fun x => k L (.int x :: st) M
  | .iload _ => am_lI (am_ld L (i.2.2.1.headD 0)) fun x => k L (.int x :: st) M
  | .lload_n _ => am_lJ (am_ld L (i.2.2.1.headD 0)) fun x => k L (.long x :: st) M
  | .lload _ => am_lJ (am_ld L (i.2.2.1.headD 0)) fun x => k L (.long x :: st) M
  | .aload_n _ => am_lA (am_ld L (i.2.2.1.headD 0)) fun x => k L (.ref x :: st) M
  | .aload _ => am_lA (am_ld L (i.2.2.1.headD 0)) fun x => k L (.ref x :: st) M
  | .istore_n _ => am_I1 st fun x r => k (am_s1 L (i.2.2.1.headD 0) (.int x)) r M
  | .istore _ => am_I1 st fun x r => k (am_s1 L (i.2.2.1.headD 0) (.int x)) r M
  | .lstore_n _ => am_J1 st fun x r => k (am_s2 L (i.2.2.1.headD 0) (.long x)) r M
  | .lstore _ => am_J1 st fun x r => k (am_s2 L (i.2.2.1.headD 0) (.long x)) r M
  | .astore_n _ => am_A1 st fun x r => k (am_s1 L (i.2.2.1.headD 0) (.ref x)) r M
  | .astore _ => am_A1 st fun x r => k (am_s1 L (i.2.2.1.headD 0) (.ref x)) r M
  | .iinc _ _ => am_lI (am_ld L (i.2.2.1.headD 0)) fun x => am_lI (some i.2.2.2) fun y => k (am_s1 L (i.2.2.1.headD 0) (.int (x + y))) st M
  | .iadd => am_I2 st fun x y r => k L (.int (x + y) :: r) M
  | .isub => am_I2 st fun x y r => k L (.int (x - y) :: r) M
  | .imul => am_I2 st fun x y r => k L (.int (x * y) :: r) M
  | .idiv => am_I2 st fun x y r => if y = 0 then none else k L (.int (x / y) :: r) M
  | .irem => am_I2 st fun x y r => if y = 0 then none else k L (.int (x - x / y * y) :: r) M
  | .ineg => am_I1 st fun x r => k L (.int (0 - x) :: r) M
  | .iand => am_I2 st fun x y r => k L (.int (x &&& y) :: r) M
  | .ior => am_I2 st fun x y r => k L (.int (x ||| y) :: r) M
  | .ixor => am_I2 st fun x y r => k L (.int (x ^^^ y) :: r) M
  | .ishl => am_I2 st fun x y r => k L (.int (x <<< (y &&& 31)) :: r) M
  | .ishr => am_I2 st fun x y r => k L (.int (x >>> (y &&& 31)) :: r) M
  | .iushr => am_I2 st fun x y r => k L (.int (x.toUInt32 >>> (y.toUInt32 &&& Int32.toUInt32 31)).toInt32 :: r) M
  | .ladd => am_J2 st fun x y r => k L (.long (x + y) :: r) M
  | .lsub => am_J2 st fun x y r => k L (.long (x - y) :: r) M
  | .land => am_J2 st fun x y r => k L (.long (x &&& y) :: r) M
  | .lor => am_J2 st fun x y r => k L (.long (x ||| y) :: r) M
  | .lshl => am_JI st fun x y r => k L (.long (x <<< (y.toInt64 &&& 63)) :: r) M
  | .lshr => am_JI st fun x y r => k L (.long (x >>> (y.toInt64 &&& 63)) :: r) M
  | .lushr => am_JI st fun x y r => k L (.long (x.toUInt64 >>> (y.toInt64.toUInt64 &&& Int64.toUInt64 63)).toInt64 :: r) M
  | .i2l => am_I1 st fun x r => k L (.long x.toInt64 :: r) M
  | .l2i => am_J1 st fun x r => k L (.int x.toInt32 :: r) M
  | .i2c => am_I1 st fun x r => k L (.int (x.toUInt32 % 65536).toInt32 :: r) M
  | .lcmp => am_J2 st fun x y r => k L (.int (lg_cmp x y) :: r) M
  | .dup => am_dp st fun v r => k L (v :: v :: r) M
  | .dup2 => am_dp st fun v r => am_dp r fun w z => k L (v :: w :: v :: w :: z) M
  | .pop => am_dp st fun _ r => k L r M
  | .pop2 => am_J1 st fun _ r => k L r M
  | .ifCond c _ => am_I1 st fun x r => match c with
    | .eq => if x = 0 then am_jp J i.2.2.1 L r M else k L r M
    | .ne => if ¬ x = 0 then am_jp J i.2.2.1 L r M else k L r M
    | .lt => if x < 0 then am_jp J i.2.2.1 L r M else k L r M
    | .ge => if 0 ≤ x then am_jp J i.2.2.1 L r M else k L r M
    | .gt => if 0 < x then am_jp J i.2.2.1 L r M else k L r M
    | .le => if x ≤ 0 then am_jp J i.2.2.1 L r M else k L r M
  | .if_icmp c _ => am_I2 st fun x y r => match c with
    | .eq => if x = y then am_jp J i.2.2.1 L r M else k L r M
    | .ne => if ¬ x = y then am_jp J i.2.2.1 L r M else k L r M
    | .lt => if x < y then am_jp J i.2.2.1 L r M else k L r M
    | .ge => if y ≤ x then am_jp J i.2.2.1 L r M else k L r M
    | .gt => if y < x then am_jp J i.2.2.1 L r M else k L r M
    | .le => if x ≤ y then am_jp J i.2.2.1 L r M else k L r M
  | .goto _ => am_jp J i.2.2.1 L st M
  | .nop => am_jp J i.2.2.1 L st M
  | .tableswitch _ _ _ _ => am_I1 st fun x r => match i.2.2.1 with
    | n :: d :: m :: q => am_sw J x d (q.take m) L r M n (q.drop m)
    | _ => none
  | .getstatic _ => k L (.ref (i.2.2.1.headD 0) :: st) M
  | .getfield _ => am_A1 st fun a r => match i.2.2.1 with
    | ci :: f :: ty :: _ => match ty with
      | 1 => (am_rJ M a ci f).bind fun x => k L (.long x :: r) M
      | 2 => (am_rA M a ci f).bind fun x => k L (.ref x :: r) M
      | _ => (am_rI M a ci f).bind fun x => k L (.int x :: r) M
    | _ => none
  | .putfield _ => match i.2.2.1 with
    | ci :: f :: ty :: _ => match st with
      | v :: .ref a :: r => bif am_ft ty v then (am_wr M a ci f v).bind fun M' => k L r M' else none
      | _ => none
    | _ => none
  | .iaload => am_I1 st fun x r => am_A1 r fun a r => (am_ix x).bind fun j => (am_rI M a 10 j).bind fun v => k L (.int v :: r) M
  | .laload => am_I1 st fun x r => am_A1 r fun a r => (am_ix x).bind fun j => (am_rJ M a 11 j).bind fun v => k L (.long v :: r) M
  | .baload => am_I1 st fun x r => am_A1 r fun a r => (am_ix x).bind fun j => (am_rI M a 12 j).bind fun v => k L (.int v :: r) M
  | .caload => am_I1 st fun x r => am_A1 r fun a r => (am_ix x).bind fun j => (am_rI M a 13 j).bind fun v => k L (.int v :: r) M
  | .aaload => am_I1 st fun x r => am_A1 r fun a r => (am_ix x).bind fun j => (am_rA M a (i.2.2.1.headD 0) j).bind fun v => k L (.ref v :: r) M
  | .iastore => am_I1 st fun v r => am_I1 r fun x r => am_A1 r fun a r => (am_ix x).bind fun j => (am_wr M a 10 j (.int v)).bind fun M' => k L r M'
  | .lastore => am_J1 st fun v r => am_I1 r fun x r => am_A1 r fun a r => (am_ix x).bind fun j => (am_wr M a 11 j (.long v)).bind fun M' => k L r M'
  | .bastore => am_I1 st fun v r => am_I1 r fun x r => am_A1 r fun a r => (am_ix x).bind fun j => (am_wr M a 12 j (.int (v &&& 1))).bind fun M' => k L r M'
  | .castore => am_I1 st fun v r => am_I1 r fun x r => am_A1 r fun a r => (am_ix x).bind fun j => (am_wr M a 13 j (.int (vp_nar .char v))).bind fun M' => k L r M'
  | .aastore => am_A1 st fun v r => am_I1 r fun x r => am_A1 r fun a r => (am_ln M v (i.2.2.1.getD 1 0)).bind fun _ => (am_ix x).bind fun j => (am_wr M a (i.2.2.1.headD 0) j (.ref v)).bind fun M' => k L r M'
  | .arraylength => am_A1 st fun a r => (am_ln M a (i.2.2.1.headD 0)).bind fun n => k L (.int (nI n) :: r) M
  | .newarray _ => am_I1 st fun x r => (am_ix x).bind fun j => bif Nat.ble j 1000 then k L (.ref M.1.length :: r) (am_nw M (i.2.2.1.headD 0) (List.replicate j (am_dv (i.2.2.1.headD 0)))) else none
  | .anewarray _ => am_I1 st fun x r => (am_ix x).bind fun j => bif Nat.ble j 1000 then k L (.ref M.1.length :: r) (am_nw M (i.2.2.1.headD 0) (List.replicate j .null)) else none
  | .new _ => match i.2.2.1 with
    | ci :: e :: _ => bif Nat.beq ci 999 then (bif Nat.beq (am_cs st) 0 then R (.inr e, am_tk M 1 6) else none) else k L (.ref M.1.length :: st) (am_nw M ci (am_df ci))
    | _ => none
  | .invokevirtual _ => match i.2.2.1 with
    | m :: n :: rk :: h :: ci :: _ => match (st.take n).reverse with
      | .ref a :: _ => (am_ln M a ci).bind fun _ => am_iv cal hs J R [m, n, rk, h] k L st M
      | _ => none
    | _ => none
  | .invokestatic _ => match i.2.2.1 with
    | 1001 :: _ => am_I1 st fun n r => am_I1 r fun dp r => am_A1 r fun b r => am_I1 r fun sp r => am_A1 r fun a r => bif Nat.ble (am_cs r) 100 then (if sp = 0 ∧ dp = 0 then (am_ix n).bind fun j => (am_cp M 13 a b j).bind fun M' => k L r M' else none) else none
    | 1003 :: _ => am_I1 st fun x r => bif Nat.ble (am_cs r) 100 then k L (.int (if 0 ≤ x then x else 0 - x) :: r) M else none
    | o => am_iv cal hs J R o k L st M
  | .invokespecial _ => match i.2.2.1 with
    | 1002 :: _ => am_A1 st fun _ r => bif Nat.ble (am_cs r) 100 then k L r M else none
    | m :: n :: _ => match (st.take n).reverse with
      | .ref a :: as => bif Nat.ble n st.length && Nat.ble (am_cs (st.drop n)) 8 then am_cV (cal m (.ref a :: as) M) (fun M' => k L (st.drop n) M') (fun _ _ => none) else none
      | _ => none
    | _ => none
  | .ireturn => match st with
    | [.int x] => bif am_ft (i.2.2.1.headD 0) (.int x) then R (.inl (some (.int x)), M) else none
    | _ => none
  | .lreturn => match st with
    | [.long x] => R (.inl (some (.long x)), M)
    | _ => none
  | .areturn => match st with
    | [.ref x] => R (.inl (some (.ref x)), M)
    | _ => none
  | .return_ => match st with
    | [] => R (.inl none, M)
    | _ => none
  | _ => none
def am_go (cal : aY) (hs : List aH) (J : Nat → aL → List Value → aM → Option β) (R : aR → Option β) : List aI → aL → List Value → aM → Option β
  | [] => fun _ _ _ => none
  | i :: r => am_1 cal hs J R i (am_go cal hs J R r)
end
def am_bk : List (Nat × List aI) → Nat → List aI
  | [], _ => []
  | q :: r, pc => bif Nat.beq q.1 pc then q.2 else am_bk r pc
def am_ex (cal : aY) (K : aK) : Nat → Nat → aL → List Value → aM → Option aR
  | 0, _, _, _, _ => none
  | n + 1, pc, L, st, M => am_go cal K.2.1 (am_ex cal K n) some (am_bk K.1 pc) L st M
