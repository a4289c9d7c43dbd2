section
/-! THE ABSTRACT MACHINE: a plain reading of the bytecode over a plain memory; an address is a place in a list -/
abbrev aC : Type := Nat × List Value
abbrev aM : Type := List aC × Nat × Nat
abbrev aL : Type := List (Nat × Value)
abbrev aR : Type := (Option Value ⊕ Nat) × aM
abbrev aO : Type := (Nat × aL × List Value × aM) ⊕ aR
/-- an instruction, its length, numbers that a program has resolved, a constant -/
abbrev aI : Type := Instr × Nat × List Nat × Value
abbrev aH : Type := List (Nat × Nat × List Nat)
/-- a method: its blocks by their places; its handler rows; its live locals at the entry -/
abbrev aK : Type := List (Nat × List aI) × List aH × List Nat
abbrev aY : Type := Nat → List Value → aM → Option aR
def am_ro : Nat := 3
def am_ld : aL → Nat → Option Value
  | [], _ => none
  | q :: r, i => bif Nat.beq q.1 i then some q.2 else am_ld r i
def am_pj : List Nat → aL → aL
  | [], _ => []
  | i :: r, L => match am_ld L i with
    | some v => (i, v) :: am_pj r L
    | none => am_pj r L
def am_s1 (L : aL) (i : Nat) (v : Value) : aL := (i, v) :: L.filter (fun q => !(q.1 == i) && !(q.1 + 1 == i && q.2.category == 2))
def am_s2 (L : aL) (i : Nat) (v : Value) : aL := (i, v) :: L.filter (fun q => !(q.1 == i) && (!(q.1 == i + 1) && !(q.1 + 1 == i && q.2.category == 2)))
def am_ar : Nat → List Value → aL
  | _, [] => []
  | i, v :: r => (i, v) :: am_ar (i + v.category) r
def am_rd (M : aM) (a ci k : Nat) : Option Value := (M.1[a]?).bind fun c => bif Nat.beq c.1 ci then c.2[k]? else none
def am_vI : Value → Option Int32
  | .int x => some x
  | _ => none
def am_vJ : Value → Option Int64
  | .long x => some x
  | _ => none
def am_vA : Value → Option Nat
  | .ref x => some x
  | _ => none
def am_rI (M : aM) (a ci k : Nat) : Option Int32 := (am_rd M a ci k).bind am_vI
def am_rJ (M : aM) (a ci k : Nat) : Option Int64 := (am_rd M a ci k).bind am_vJ
def am_rA (M : aM) (a ci k : Nat) : Option Nat := (am_rd M a ci k).bind am_vA
def am_wr (M : aM) (a ci k : Nat) (v : Value) : Option aM := (M.1[a]?).bind fun c => bif Nat.beq c.1 ci && (Nat.ble am_ro a && Nat.blt k c.2.length) then some (M.1.set a (c.1, c.2.set k v), M.2) else none
def am_ln (M : aM) (a ci : Nat) : Option Nat := (M.1[a]?).bind fun c => bif Nat.beq c.1 ci then some c.2.length else none
def am_ix (i : Int32) : Option Nat := if i < 0 then none else some i.toNatClampNeg
def am_nw (M : aM) (ci : Nat) (fs : List Value) : aM := (M.1 ++ [(ci, fs)], M.2.1 + 1, M.2.2 + fs.length)
def am_tk (M : aM) (c s : Nat) : aM := (M.1, M.2.1 + c, M.2.2 + s)
def am_ft (ty : Nat) (v : Value) : Bool := match v with
  | .int x => match ty with
    | 0 => true
    | 3 => x == 0 || x == 1
    | 4 => decide (0 ≤ x) && decide (x ≤ 65535)
    | _ => false
  | .long _ => Nat.beq ty 1
  | .ref _ => Nat.beq ty 2
  | _ => false
/-- a copy of n places from the beginning of one array to that of another -/
def am_cp (M : aM) (ci a b n : Nat) : Option aM := (M.1[a]?).bind fun c => (M.1[b]?).bind fun d => bif Nat.beq c.1 ci && (Nat.beq d.1 ci && (Nat.ble am_ro b && (Nat.ble n c.2.length && Nat.ble n d.2.length))) then some (M.1.set b (d.1, c.2.take n ++ d.2.drop n), M.2) else none
section
variable {β : Type}
def am_I1 (st : List Value) (f : Int32 → List Value → Option β) : Option β := match st with
  | .int x :: r => f x r
  | _ => none
def am_I2 (st : List Value) (f : Int32 → Int32 → List Value → Option β) : Option β := match st with
  | .int y :: .int x :: r => f x y r
  | _ => none
def am_J1 (st : List Value) (f : Int64 → List Value → Option β) : Option β := match st with
  | .long x :: r => f x r
  | _ => none
def am_J2 (st : List Value) (f : Int64 → Int64 → List Value → Option β) : Option β := match st with
  | .long y :: .long x :: r => f x y r
  | _ => none
def am_JI (st : List Value) (f : Int64 → Int32 → List Value → Option β) : Option β := match st with
  | .int y :: .long x :: r => f x y r
  | _ => none
def am_A1 (st : List Value) (f : Nat → List Value → Option β) : Option β := match st with
  | .ref x :: r => f x r
  | _ => none
def am_lI (o : Option Value) (f : Int32 → Option β) : Option β := match o with
  | some (.int x) => f x
  | _ => none
def am_lJ (o : Option Value) (f : Int64 → Option β) : Option β := match o with
  | some (.long x) => f x
  | _ => none
def am_lA (o : Option Value) (f : Nat → Option β) : Option β := match o with
  | some (.ref x) => f x
  | _ => none
def am_dp (st : List Value) (f : Value → List Value → Option β) : Option β := match st with
  | v :: r => bif Nat.beq v.category 1 then f v r else none
  | _ => none
def am_ct (J : Nat → aL → List Value → aM → Option β) (R : aR → Option β) : aH → Nat → aL → aM → Option β
  | [], e, _, M => R (.inr e, M)
  | h :: r, e, L, M => bif Nat.beq e h.1 then J h.2.1 (am_pj h.2.2 L) [] M else am_ct J R r e L M
/-- behind a call: what came back -/
def am_cV (o : Option aR) (k : aM → Option β) (x : Nat → aM → Option β) : Option β := match o with
  | some (.inl none, M) => k M
  | some (.inr e, M) => x e M
  | _ => none
def am_cI (o : Option aR) (k : Int32 → aM → Option β) (x : Nat → aM → Option β) : Option β := match o with
  | some (.inl (some (.int v)), M) => k v M
  | some (.inr e, M) => x e M
  | _ => none
def am_cJ (o : Option aR) (k : Int64 → aM → Option β) (x : Nat → aM → Option β) : Option β := match o with
  | some (.inl (some (.long v)), M) => k v M
  | some (.inr e, M) => x e M
  | _ => none
def am_cA (o : Option aR) (k : Nat → aM → Option β) (x : Nat → aM → Option β) : Option β := match o with
  | some (.inl (some (.ref v)), M) => k v M
  | some (.inr e, M) => x e M
  | _ => none
def am_jp (J : Nat → aL → List Value → aM → Option β) (ops : List Nat) (L : aL) (st : List Value) (M : aM) : Option β := match ops with
  | t :: lv => J t (am_pj lv L) st M
  | [] => none
def am_sw (J : Nat → aL → List Value → aM → Option β) (x : Int32) (d : Nat) (lv : List Nat) (L : aL) (st : List Value) (M : aM) : Nat → List Nat → Option β
  | _, [] => J d (am_pj lv L) st M
  | n, t :: r => if x = nI n then J t (am_pj lv L) st M else am_sw J x d lv L st M (n + 1) r
end
def am_cs (st : List Value) : Nat := (st.map fun v => v.category).sum
def am_df (ci : Nat) : List Value := match ci with
  | 0 => [.null, .null, .int 0, .long 0, .int 0, .int 0, .int 0]
  | 1 => [.null, .null, .int 0, .int 0]
  | 2 => [.null]
  | 3 => [.null, .int 0]
  | 4 => [.null, .int 0]
  | 5 => [.null, .null, .int 0, .long 0, .int 0]
  | 6 => [.null, .int 0]
  | 7 => [.null, .null, .null, .null]
  | 8 => [.null, .null, .null]
  | 9 => [.null, .null, .null, .null, .null, .null, .null, .null, .null, .null, .null, .null, .null, .null, .null, .int 0, .int 0, .int 0, .null, .int 0, .int 0, .int 0]
  | _ => []
def am_dv (kd : Nat) : Value := match kd with
  | 10 => .int 0
  | 11 => .long 0
  | 12 => .int 0
  | 13 => .int 0
  | _ => .null
section
variable {β : Type}
/-- a call: number of the method, how many arguments, what it answers (0 int, 1 long, 2 reference, 9 nothing), its handler rows -/
def am_iv (cal : aY) (hs : List aH) (J : Nat → aL → List Value → aM → Option β) (R : aR → Option β) (o : List Nat) (k : aL → List Value → aM → Option β) (L : aL) (st : List Value) (M : aM) : Option β := match o with
  | m :: n :: rk :: h :: _ => bif Nat.ble (am_cs (st.drop n)) 8 then (match rk with
    | 0 => am_cI (cal m (st.take n).reverse M) (fun v M' => k L (.int v :: st.drop n) M') (fun e M' => am_ct J R (hs.getD h []) e L M')
    | 1 => am_cJ (cal m (st.take n).reverse M) (fun v M' => k L (.long v :: st.drop n) M') (fun e M' => am_ct J R (hs.getD h []) e L M')
    | 2 => am_cA (cal m (st.take n).reverse M) (fun v M' => k L (.ref v :: st.drop n) M') (fun e M' => am_ct J R (hs.getD h []) e L M')
    | _ => am_cV (cal m (st.take n).reverse M) (fun M' => k L (st.drop n) M') (fun e M' => am_ct J R (hs.getD h []) e L M')) else none
  | _ => none
end
section
variable {β : Type}
def am_1 (cal : aY) (hs : List aH) (J : Nat → aL → List Value → aM → Option β) (R : aR → Option β) (i : aI) (k : aL → List Value → aM → Option β) (L : aL) (st : List Value) (M : aM) : Option β :=
  match i.1 with
  | .iconst _ => k L (i.2.2.2 :: st) M
  | .bipush _ => k L (i.2.2.2 :: st) M
  | .sipush _ => k L (i.2.2.2 :: st) M
  | .lconst _ => k L (i.2.2.2 :: st) M
  | .ldc_w _ => k L (i.2.2.2 :: st) M
  | .ldc2_w _ => k L (i.2.2.2 :: st) M
  | .iload_n _ => am_lI (am_ld L (i.2.2.1.headD 0)) fun x => k L (.int x :: st) M
  | .iload _ => am_lI (am_ld L (i.2.2.1.headD 0)) fun x => k L (.int x :: st) M
  | .lload_n _ => am_lJ (am_ld L (i.2.2.1.headD 0)) fun x => k L (.long x :: st) M
  | .lload _ => am_lJ (am_ld L (i.2.2.1.headD 0)) fun x => k L (.long x :: st) M
  | .aload_n _ => am_lA (am_ld L (i.2.2.1.headD 0)) fun x => k L (.ref x :: st) M
  | .aload _ => am_lA (am_ld L (i.2.2.1.headD 0)) fun x => k L (.ref x :: st) M
  | .istore_n _ => am_I1 st fun x r => k (am_s1 L (i.2.2.1.headD 0) (.int x)) r M
  | .istore _ => am_I1 st fun x r => k (am_s1 L (i.2.2.1.headD 0) (.int x)) r M
  | .lstore_n _ => am_J1 st fun x r => k (am_s2 L (i.2.2.1.headD 0) (.long x)) r M
  | .lstore _ => am_J1 st fun x r => k (am_s2 L (i.2.2.1.headD 0) (.long x)) r M
  | .astore_n _ => am_A1 st fun x r => k (am_s1 L (i.2.2.1.headD 0) (.ref x)) r M
  | .astore _ => am_A1 st fun x r => k (am_s1 L (i.2.2.1.headD 0) (.ref x)) r M
  | .iinc _ _ => am_lI (am_ld L (i.2.2.1.headD 0)) fun x => am_lI (some i.2.2.2) fun y => k (am_s1 L (i.2.2.1.headD 0) (.int (x + y))) st M
  | .iadd => am_I2 st fun x y r => k L (.int (x + y) :: r) M
  | .isub => am_I2 st fun x y r => k L (.int (x - y) :: r) M
  | .imul => am_I2 st fun x y r => k L (.int (x * y) :: r) M
  | .idiv => am_I2 st fun x y r => if y = 0 then none else k L (.int (x / y) :: r) M
  | .irem => am_I2 st fun x y r => if y = 0 then none else k L (.int (x - x / y * y) :: r) M
  | .ineg => am_I1 st fun x r => k L (.int (0 - x) :: r) M
  | .iand => am_I2 st fun x y r => k L (.int (x &&& y) :: r) M
  | .ior => am_I2 st fun x y r => k L (.int (x ||| y) :: r) M
  | .ixor => am_I2 st fun x y r => k L (.int (x ^^^ y) :: r) M
  | .ishl => am_I2 st fun x y r => k L (.int (x <<< (y &&& 31)) :: r) M
  | .ishr => am_I2 st fun x y r => k L (.int (x >>> (y &&& 31)) :: r) M
  | .iushr => am_I2 st fun x y r => k L (.int (x.toUInt32 >>> (y.toUInt32 &&& Int32.toUInt32 31)).toInt32 :: r) M
  | .ladd => am_J2 st fun x y r => k L (.long (x + y) :: r) M
  | .lsub => am_J2 st fun x y r => k L (.long (x - y) :: r) M
  | .land => am_J2 st fun x y r => k L (.long (x &&& y) :: r) M
  | .lor => am_J2 st fun x y r => k L (.long (x ||| y) :: r) M
  | .lshl => am_JI st fun x y r => k L (.long (x <<< (y.toInt64 &&& 63)) :: r) M
  | .lshr => am_JI st fun x y r => k L (.long (x >>> (y.toInt64 &&& 63)) :: r) M
  | .lushr => am_JI st fun x y r => k L (.long (x.toUInt64 >>> (y.toInt64.toUInt64 &&& Int64.toUInt64 63)).toInt64 :: r) M
  | .i2l => am_I1 st fun x r => k L (.long x.toInt64 :: r) M
  | .l2i => am_J1 st fun x r => k L (.int x.toInt32 :: r) M
  | .i2c => am_I1 st fun x r => k L (.int (x.toUInt32 % 65536).toInt32 :: r) M
  | .lcmp => am_J2 st fun x y r => k L (.int (lg_cmp x y) :: r) M
  | .dup => am_dp st fun v r => k L (v :: v :: r) M
  | .dup2 => am_dp st fun v r => am_dp r fun w z => k L (v :: w :: v :: w :: z) M
  | .pop => am_dp st fun _ r => k L r M
  | .pop2 => am_J1 st fun _ r => k L r M
  | .ifCond c _ => am_I1 st fun x r => match c with
    | .eq => if x = 0 then am_jp J i.2.2.1 L r M else k L r M
    | .ne => if ¬ x = 0 then am_jp J i.2.2.1 L r M else k L r M
    | .lt => if x < 0 then am_jp J i.2.2.1 L r M else k L r M
    | .ge => if 0 ≤ x then am_jp J i.2.2.1 L r M else k L r M
    | .gt => if 0 < x then am_jp J i.2.2.1 L r M else k L r M
    | .le => if x ≤ 0 then am_jp J i.2.2.1 L r M else k L r M
  | .if_icmp c _ => am_I2 st fun x y r => match c with
    | .eq => if x = y then am_jp J i.2.2.1 L r M else k L r M
    | .ne => if ¬ x = y then am_jp J i.2.2.1 L r M else k L r M
    | .lt => if x < y then am_jp J i.2.2.1 L r M else k L r M
    | .ge => if y ≤ x then am_jp J i.2.2.1 L r M else k L r M
    | .gt => if y < x then am_jp J i.2.2.1 L r M else k L r M
    | .le => if x ≤ y then am_jp J i.2.2.1 L r M else k L r M
  | .goto _ => am_jp J i.2.2.1 L st M
  | .nop => am_jp J i.2.2.1 L st M
  | .tableswitch _ _ _ _ => am_I1 st fun x r => match i.2.2.1 with
    | n :: d :: m :: q => am_sw J x d (q.take m) L r M n (q.drop m)
    | _ => none
  | .getstatic _ => k L (.ref (i.2.2.1.headD 0) :: st) M
  | .getfield _ => am_A1 st fun a r => match i.2.2.1 with
    | ci :: f :: ty :: _ => match ty with
      | 1 => (am_rJ M a ci f).bind fun x => k L (.long x :: r) M
      | 2 => (am_rA M a ci f).bind fun x => k L (.ref x :: r) M
      | _ => (am_rI M a ci f).bind fun x => k L (.int x :: r) M
    | _ => none
  | .putfield _ => match i.2.2.1 with
    | ci :: f :: ty :: _ => match st with
      | v :: .ref a :: r => bif am_ft ty v then (am_wr M a ci f v).bind fun M' => k L r M' else none
      | _ => none
    | _ => none
  | .iaload => am_I1 st fun x r => am_A1 r fun a r => (am_ix x).bind fun j => (am_rI M a 10 j).bind fun v => k L (.int v :: r) M
  | .laload => am_I1 st fun x r => am_A1 r fun a r => (am_ix x).bind fun j => (am_rJ M a 11 j).bind fun v => k L (.long v :: r) M
  | .baload => am_I1 st fun x r => am_A1 r fun a r => (am_ix x).bind fun j => (am_rI M a 12 j).bind fun v => k L (.int v :: r) M
  | .caload => am_I1 st fun x r => am_A1 r fun a r => (am_ix x).bind fun j => (am_rI M a 13 j).bind fun v => k L (.int v :: r) M
  | .aaload => am_I1 st fun x r => am_A1 r fun a r => (am_ix x).bind fun j => (am_rA M a (i.2.2.1.headD 0) j).bind fun v => k L (.ref v :: r) M
  | .iastore => am_I1 st fun v r => am_I1 r fun x r => am_A1 r fun a r => (am_ix x).bind fun j => (am_wr M a 10 j (.int v)).bind fun M' => k L r M'
  | .lastore => am_J1 st fun v r => am_I1 r fun x r => am_A1 r fun a r => (am_ix x).bind fun j => (am_wr M a 11 j (.long v)).bind fun M' => k L r M'
  | .bastore => am_I1 st fun v r => am_I1 r fun x r => am_A1 r fun a r => (am_ix x).bind fun j => (am_wr M a 12 j (.int (v &&& 1))).bind fun M' => k L r M'
  | .castore => am_I1 st fun v r => am_I1 r fun x r => am_A1 r fun a r => (am_ix x).bind fun j => (am_wr M a 13 j (.int (vp_nar .char v))).bind fun M' => k L r M'
  | .aastore => am_A1 st fun v r => am_I1 r fun x r => am_A1 r fun a r => (am_ln M v (i.2.2.1.getD 1 0)).bind fun _ => (am_ix x).bind fun j => (am_wr M a (i.2.2.1.headD 0) j (.ref v)).bind fun M' => k L r M'
  | .arraylength => am_A1 st fun a r => (am_ln M a (i.2.2.1.headD 0)).bind fun n => k L (.int (nI n) :: r) M
  | .newarray _ => am_I1 st fun x r => (am_ix x).bind fun j => bif Nat.ble j 1000 then k L (.ref M.1.length :: r) (am_nw M (i.2.2.1.headD 0) (List.replicate j (am_dv (i.2.2.1.headD 0)))) else none
  | .anewarray _ => am_I1 st fun x r => (am_ix x).bind fun j => bif Nat.ble j 1000 then k L (.ref M.1.length :: r) (am_nw M (i.2.2.1.headD 0) (List.replicate j .null)) else none
  | .new _ => match i.2.2.1 with
    | ci :: e :: _ => bif Nat.beq ci 999 then R (.inr e, am_tk M 1 6) else k L (.ref M.1.length :: st) (am_nw M ci (am_df ci))
    | _ => none
  | .invokevirtual _ => am_iv cal hs J R i.2.2.1 k L st M
  | .invokestatic _ => match i.2.2.1 with
    | 1001 :: _ => am_I1 st fun n r => am_I1 r fun dp r => am_A1 r fun b r => am_I1 r fun sp r => am_A1 r fun a r => if sp = 0 ∧ dp = 0 then (am_ix n).bind fun j => (am_cp M 13 a b j).bind fun M' => k L r M' else none
    | o => am_iv cal hs J R o k L st M
  | .invokespecial _ => match i.2.2.1 with
    | 1002 :: _ => am_A1 st fun _ r => k L r M
    | o => am_iv cal hs J R o k L st M
  | .ireturn => match st with
    | [.int x] => bif am_ft (i.2.2.1.headD 0) (.int x) then R (.inl (some (.int x)), M) else none
    | _ => none
  | .lreturn => match st with
    | [.long x] => R (.inl (some (.long x)), M)
    | _ => none
  | .areturn => match st with
    | [.ref x] => R (.inl (some (.ref x)), M)
    | _ => none
  | .return_ => match st with
    | [] => R (.inl none, M)
    | _ => none
  | _ => none
def am_go (cal : aY) (hs : List aH) (J : Nat → aL → List Value → aM → Option β) (R : aR → Option β) : List aI → aL → List Value → aM → Option β
  | [] => fun _ _ _ => none
  | i :: r => am_1 cal hs J R i (am_go cal hs J R r)
end
def am_bk : List (Nat × List aI) → Nat → List aI
  | [], _ => []
  | q :: r, pc => bif Nat.beq q.1 pc then q.2 else am_bk r pc
def am_ex (cal : aY) (K : aK) : Nat → Nat → aL → List Value → aM → Option aR
  | 0, _, _, _, _ => none
  | n + 1, pc, L, st, M => am_go cal K.2.1 (am_ex cal K n) some (am_bk K.1 pc) L st M
end
section
/-! runs without a counter: the limit of the counted ones -/
section
variable {β γ : Type}
theorem an_I1 (f : β → Option γ) (st : List Value) (g : Int32 → List Value → Option β) : (am_I1 st g).bind f = am_I1 st (fun x r => (g x r).bind f) := by
  unfold am_I1; split <;> rfl
theorem an_I2 (f : β → Option γ) (st : List Value) (g : Int32 → Int32 → List Value → Option β) : (am_I2 st g).bind f = am_I2 st (fun x y r => (g x y r).bind f) := by
  unfold am_I2; split <;> rfl
theorem an_J1 (f : β → Option γ) (st : List Value) (g : Int64 → List Value → Option β) : (am_J1 st g).bind f = am_J1 st (fun x r => (g x r).bind f) := by
  unfold am_J1; split <;> rfl
theorem an_J2 (f : β → Option γ) (st : List Value) (g : Int64 → Int64 → List Value → Option β) : (am_J2 st g).bind f = am_J2 st (fun x y r => (g x y r).bind f) := by
  unfold am_J2; split <;> rfl
theorem an_JI (f : β → Option γ) (st : List Value) (g : Int64 → Int32 → List Value → Option β) : (am_JI st g).bind f = am_JI st (fun x y r => (g x y r).bind f) := by
  unfold am_JI; split <;> rfl
theorem an_A1 (f : β → Option γ) (st : List Value) (g : Nat → List Value → Option β) : (am_A1 st g).bind f = am_A1 st (fun x r => (g x r).bind f) := by
  unfold am_A1; split <;> rfl
theorem an_lI (f : β → Option γ) (o : Option Value) (g : Int32 → Option β) : (am_lI o g).bind f = am_lI o (fun x => (g x).bind f) := by
  unfold am_lI; split <;> rfl
theorem an_lJ (f : β → Option γ) (o : Option Value) (g : Int64 → Option β) : (am_lJ o g).bind f = am_lJ o (fun x => (g x).bind f) := by
  unfold am_lJ; split <;> rfl
theorem an_lA (f : β → Option γ) (o : Option Value) (g : Nat → Option β) : (am_lA o g).bind f = am_lA o (fun x => (g x).bind f) := by
  unfold am_lA; split <;> rfl
theorem an_if (f : β → Option γ) (b : Bool) (x : Option β) : (cond b x none).bind f = cond b (x.bind f) none := by cases b <;> rfl
theorem an_if2 (f : β → Option γ) (b : Bool) (x y : Option β) : (cond b x y).bind f = cond b (x.bind f) (y.bind f) := by cases b <;> rfl
theorem an_ite (f : β → Option γ) (p : Prop) [Decidable p] (x y : Option β) : (if p then x else y).bind f = if p then x.bind f else y.bind f := by split <;> rfl
theorem an_dp (f : β → Option γ) (st : List Value) (g : Value → List Value → Option β) : (am_dp st g).bind f = am_dp st (fun x r => (g x r).bind f) := by
  unfold am_dp; split
  · exact an_if f _ _
  · rfl
theorem an_jp (f : β → Option γ) (J : Nat → aL → List Value → aM → Option β) (o : List Nat) (L : aL) (st : List Value) (M : aM) : (am_jp J o L st M).bind f = am_jp (fun a b c d => (J a b c d).bind f) o L st M := by
  unfold am_jp; split <;> rfl
theorem an_sw (f : β → Option γ) (J : Nat → aL → List Value → aM → Option β) (x : Int32) (d : Nat) (lv : List Nat) (L : aL) (st : List Value) (M : aM) (q : List Nat) : ∀ n, (am_sw J x d lv L st M n q).bind f = am_sw (fun a b c d => (J a b c d).bind f) x d lv L st M n q := by
  induction q with
  | nil => intro n; rfl
  | cons t r ih => intro n; simp only [am_sw, an_ite, ih]
theorem an_ct (f : β → Option γ) (J : Nat → aL → List Value → aM → Option β) (R : aR → Option β) (h : aH) (e : Nat) (L : aL) (M : aM) : (am_ct J R h e L M).bind f = am_ct (fun a b c d => (J a b c d).bind f) (fun r => (R r).bind f) h e L M := by
  induction h with
  | nil => rfl
  | cons t r ih => simp only [am_ct, an_if2, ih]
theorem an_cV (f : β → Option γ) (o : Option aR) (k : aM → Option β) (x : Nat → aM → Option β) : (am_cV o k x).bind f = am_cV o (fun a => (k a).bind f) (fun a b => (x a b).bind f) := by
  unfold am_cV; split <;> rfl
theorem an_cI (f : β → Option γ) (o : Option aR) (k : Int32 → aM → Option β) (x : Nat → aM → Option β) : (am_cI o k x).bind f = am_cI o (fun a b => (k a b).bind f) (fun a b => (x a b).bind f) := by
  unfold am_cI; split <;> rfl
theorem an_cJ (f : β → Option γ) (o : Option aR) (k : Int64 → aM → Option β) (x : Nat → aM → Option β) : (am_cJ o k x).bind f = am_cJ o (fun a b => (k a b).bind f) (fun a b => (x a b).bind f) := by
  unfold am_cJ; split <;> rfl
theorem an_cA (f : β → Option γ) (o : Option aR) (k : Nat → aM → Option β) (x : Nat → aM → Option β) : (am_cA o k x).bind f = am_cA o (fun a b => (k a b).bind f) (fun a b => (x a b).bind f) := by
  unfold am_cA; split <;> rfl
theorem an_iv (f : β → Option γ) (cal : aY) (hs : List aH) (J : Nat → aL → List Value → aM → Option β) (R : aR → Option β) (o : List Nat) (k : aL → List Value → aM → Option β) (L : aL) (st : List Value) (M : aM) :
    (am_iv cal hs J R o k L st M).bind f = am_iv cal hs (fun a b c d => (J a b c d).bind f) (fun r => (R r).bind f) o (fun a b c => (k a b c).bind f) L st M := by
  unfold am_iv
  split
  · rw [an_if]
    congr 1
    split <;> simp only [an_cI, an_cJ, an_cA, an_cV, an_ct]
  · rfl
set_option maxHeartbeats 4000000 in
theorem an_1 (f : β → Option γ) (cal : aY) (hs : List aH) (J : Nat → aL → List Value → aM → Option β) (R : aR → Option β) (i : aI) (k : aL → List Value → aM → Option β) (L : aL) (st : List Value) (M : aM) :
    (am_1 cal hs J R i k L st M).bind f = am_1 cal hs (fun a b c d => (J a b c d).bind f) (fun r => (R r).bind f) i (fun a b c => (k a b c).bind f) L st M := by
  obtain ⟨ins, len, ops, v⟩ := i
  cases ins
  case ifCond c off => cases c <;> simp only [am_1, an_I1, an_ite, an_jp]
  case if_icmp c off => cases c <;> simp only [am_1, an_I2, an_ite, an_jp]
  case tableswitch =>
    simp only [am_1, an_I1]
    congr 1; funext x r
    split <;> simp only [an_sw, Option.bind_none]
  case getfield =>
    simp only [am_1, an_A1]
    congr 1; funext x r
    split
    · split <;> simp only [Option.bind_assoc]
    · rfl
  case putfield =>
    simp only [am_1]
    split
    · split
      · simp only [an_if, Option.bind_assoc]
      · rfl
    · rfl
  case new =>
    simp only [am_1]
    split
    · simp only [an_if2]
    · rfl
  case invokestatic =>
    simp only [am_1]
    split
    · simp only [an_I1, an_A1, an_ite, Option.bind_assoc, Option.bind_none]
    · exact an_iv f cal hs J R _ k L st M
  case invokespecial =>
    simp only [am_1]
    split
    · simp only [an_A1]
    · exact an_iv f cal hs J R _ k L st M
  case invokevirtual => exact an_iv f cal hs J R _ k L st M
  case ireturn =>
    simp only [am_1]
    split
    · rw [an_if]
    · rfl
  case lreturn => simp only [am_1]; split <;> rfl
  case areturn => simp only [am_1]; split <;> rfl
  case return_ => simp only [am_1]; split <;> rfl
  all_goals first
    | rfl
    | (simp only [am_1, an_I1, an_I2, an_J1, an_J2, an_JI, an_A1, an_lI, an_lJ, an_lA, an_dp, an_jp, an_ite, an_if, Option.bind_assoc, Option.bind_none]; done)
theorem an_go (f : β → Option γ) (cal : aY) (hs : List aH) (J : Nat → aL → List Value → aM → Option β) (R : aR → Option β) (is : List aI) : ∀ (L : aL) (st : List Value) (M : aM),
    (am_go cal hs J R is L st M).bind f = am_go cal hs (fun a b c d => (J a b c d).bind f) (fun r => (R r).bind f) is L st M := by
  induction is with
  | nil => intro L st M; rfl
  | cons i r ih =>
    intro L st M
    show (am_1 cal hs J R i (am_go cal hs J R r) L st M).bind f = am_1 cal hs _ _ i (am_go cal hs _ _ r) L st M
    rw [an_1]
    congr 1
    funext a b c
    exact ih a b c
end
def am_oo (cal : aY) (hs : List aH) (is : List aI) (L : aL) (st : List Value) (M : aM) : Option aO := am_go cal hs (fun pc L st M => some (.inl (pc, L, st, M))) (fun r => some (.inr r)) is L st M
def am_nx (J : Nat → aL → List Value → aM → Option aR) : aO → Option aR
  | .inl q => J q.1 q.2.1 q.2.2.1 q.2.2.2
  | .inr r => some r
theorem am_oo_eq (cal : aY) (hs : List aH) (J : Nat → aL → List Value → aM → Option aR) (is : List aI) (L : aL) (st : List Value) (M : aM) : am_go cal hs J some is L st M = (am_oo cal hs is L st M).bind (am_nx J) := by
  unfold am_oo
  rw [an_go]
  rfl
theorem am_ex_mono {cal : aY} {K : aK} : ∀ (n : Nat) (pc : Nat) (L : aL) (st : List Value) (M : aM) (r : aR), am_ex cal K n pc L st M = some r → am_ex cal K (n + 1) pc L st M = some r := by
  intro n
  induction n with
  | zero => intro pc L st M r h; exact nomatch h
  | succ n ih =>
    intro pc L st M r h
    have h1 : am_go cal K.2.1 (am_ex cal K n) some (am_bk K.1 pc) L st M = some r := h
    show am_go cal K.2.1 (am_ex cal K (n + 1)) some (am_bk K.1 pc) L st M = some r
    rw [am_oo_eq] at h1 ⊢
    cases ho : am_oo cal K.2.1 (am_bk K.1 pc) L st M with
    | none => rw [ho] at h1; exact nomatch h1
    | some o =>
      rw [ho] at h1
      cases o with
      | inl q => exact ih _ _ _ _ _ h1
      | inr q => exact h1
theorem am_ex_le {cal : aY} {K : aK} {n n' pc : Nat} {L : aL} {st : List Value} {M : aM} {r : aR} (h : am_ex cal K n pc L st M = some r) (hn : n ≤ n') : am_ex cal K n' pc L st M = some r := by
  induction hn with
  | refl => exact h
  | step _ ih => exact am_ex_mono _ _ _ _ _ _ ih
noncomputable def am_X (cal : aY) (K : aK) (pc : Nat) (L : aL) (st : List Value) (M : aM) : Option aR := @dite _ (∃ r, ∃ n, am_ex cal K n pc L st M = some r) (Classical.propDecidable _) (fun h => some h.choose) (fun _ => none)
theorem am_X_iff {cal : aY} {K : aK} {pc : Nat} {L : aL} {st : List Value} {M : aM} {r : aR} : am_X cal K pc L st M = some r ↔ ∃ n, am_ex cal K n pc L st M = some r := by
  unfold am_X
  by_cases h : ∃ r, ∃ n, am_ex cal K n pc L st M = some r
  · rw [dif_pos h]
    obtain ⟨n, hn⟩ := h.choose_spec
    constructor
    · intro e; exact ⟨n, by rw [hn]; exact e⟩
    · rintro ⟨n', hn'⟩
      have h1 := am_ex_le hn (Nat.le_max_left n n')
      have h2 := am_ex_le hn' (Nat.le_max_right n n')
      rw [h1] at h2
      exact h2
  · rw [dif_neg h]
    constructor
    · intro e; exact nomatch e
    · rintro ⟨n', hn'⟩; exact absurd ⟨r, n', hn'⟩ h
theorem am_X_eq (cal : aY) (K : aK) (pc : Nat) (L : aL) (st : List Value) (M : aM) : am_X cal K pc L st M = am_go cal K.2.1 (am_X cal K) some (am_bk K.1 pc) L st M := by
  apply Option.ext
  intro r
  rw [am_oo_eq]
  constructor
  · intro h
    obtain ⟨n, hn⟩ := am_X_iff.mp h
    cases n with
    | zero => exact nomatch hn
    | succ n =>
      have h1 : am_go cal K.2.1 (am_ex cal K n) some (am_bk K.1 pc) L st M = some r := hn
      rw [am_oo_eq] at h1
      cases ho : am_oo cal K.2.1 (am_bk K.1 pc) L st M with
      | none => rw [ho] at h1; exact nomatch h1
      | some o =>
        rw [ho] at h1
        cases o with
        | inl q => exact am_X_iff.mpr ⟨n, h1⟩
        | inr q => exact h1
  · intro h
    cases ho : am_oo cal K.2.1 (am_bk K.1 pc) L st M with
    | none => rw [ho] at h; exact nomatch h
    | some o =>
      rw [ho] at h
      cases o with
      | inl q =>
        obtain ⟨n, hn⟩ := am_X_iff.mp (show am_X cal K q.1 q.2.1 q.2.2.1 q.2.2.2 = some r from h)
        refine am_X_iff.mpr ⟨n + 1, ?_⟩
        show am_go cal K.2.1 (am_ex cal K n) some (am_bk K.1 pc) L st M = some r
        rw [am_oo_eq, ho]
        exact hn
      | inr q =>
        refine am_X_iff.mpr ⟨1, ?_⟩
        show am_go cal K.2.1 (am_ex cal K 0) some (am_bk K.1 pc) L st M = some r
        rw [am_oo_eq, ho]
        exact h
end
section
/-! the methods as tables: written by a program out of the bytes -/
def k_Actor_init : aK := ([(0, [(.aload_n 0, 1, [0], .null), (.invokespecial 3, 3, [1002], .null), (.aload_n 0, 1, [0], .null), (.new 9, 3, [6, 0], .null), (.dup, 1, [], .null), (.invokespecial 11, 3, [56, 1, 9, 0], .null), (.putfield 12, 3, [0, 0, 2], .null), (.aload_n 0, 1, [0], .null), (.new 18, 3, [4, 0], .null), (.dup, 1, [], .null), (.bipush 6, 2, [], .int 6), (.invokespecial 20, 3, [30, 2, 9, 0], .null), (.putfield 23, 3, [0, 1, 2], .null), (.aload_n 0, 1, [0], .null), (.iconst 0, 1, [], .int 0), (.putfield 27, 3, [0, 2, 0], .null), (.aload_n 0, 1, [0], .null), (.lconst 0, 1, [], .long 0), (.putfield 33, 3, [0, 3, 1], .null), (.aload_n 0, 1, [0], .null), (.sipush (-5000), 3, [], .int (-5000)), (.putfield 37, 3, [0, 6, 0], .null), (.return_, 1, [], .null)])], [[]], [0])
def k_Actor_begin : aK := ([(0, [(.aload_n 0, 1, [0], .null), (.getfield 12, 3, [0, 0, 2], .null), (.aload_n 1, 1, [1], .null), (.invokevirtual 40, 3, [59, 2, 9, 0], .null), (.aload_n 0, 1, [0], .null), (.iconst 1, 1, [], .int 1), (.putfield 27, 3, [0, 2, 0], .null), (.aload_n 0, 1, [0], .null), (.lload_n 2, 1, [2], .null), (.putfield 33, 3, [0, 3, 1], .null), (.return_, 1, [], .null)])], [[]], [0, 1, 2])
def k_Actor_finish : aK := ([(0, [(.aload_n 0, 1, [0], .null), (.iconst 2, 1, [], .int 2), (.putfield 27, 3, [0, 2, 0], .null), (.aload_n 0, 1, [0], .null), (.iload_n 1, 1, [1], .null), (.putfield 37, 3, [0, 6, 0], .null), (.aload_n 0, 1, [0], .null), (.lconst 0, 1, [], .long 0), (.putfield 33, 3, [0, 3, 1], .null), (.aload_n 0, 1, [0], .null), (.getfield 23, 3, [0, 1, 2], .null), (.iconst 0, 1, [], .int 0), (.putfield 44, 3, [4, 1, 0], .null), (.aload_n 0, 1, [0], .null), (.iconst 0, 1, [], .int 0), (.putfield 47, 3, [0, 4, 3], .null), (.aload_n 0, 1, [0], .null), (.iconst 0, 1, [], .int 0), (.putfield 51, 3, [0, 5, 0], .null), (.return_, 1, [], .null)])], [[]], [0, 1])
def k_Evaluator_init : aK := ([(0, [(.aload_n 0, 1, [0], .null), (.invokespecial 3, 3, [1002], .null), (.aload_n 0, 1, [0], .null), (.new 9, 3, [3, 0], .null), (.dup, 1, [], .null), (.invokespecial 11, 3, [22, 1, 9, 0], .null), (.putfield 12, 3, [1, 0, 2], .null), (.aload_n 0, 1, [0], .null), (.bipush 6, 2, [], .int 6), (.newarray .long, 2, [11], .null), (.putfield 18, 3, [1, 1, 2], .null), (.return_, 1, [], .null)])], [[]], [0])
def k_Evaluator_begin : aK := ([(0, [(.aload_n 0, 1, [0], .null), (.iload_n 1, 1, [1], .null), (.putfield 22, 3, [1, 2, 0], .null), (.aload_n 0, 1, [0], .null), (.iconst 0, 1, [], .int 0), (.putfield 26, 3, [1, 3, 0], .null), (.iconst 0, 1, [], .int 0), (.istore 4, 2, [4], .null), (.nop, 0, [13, 0, 2, 4], .null)]),
  (13, [(.iload 4, 2, [4], .null), (.bipush 6, 2, [], .int 6), (.if_icmp .ge 27, 3, [44], .null), (.aload_n 0, 1, [0], .null), (.getfield 18, 3, [1, 1, 2], .null), (.iload 4, 2, [4], .null), (.iload 4, 2, [4], .null), (.iconst 5, 1, [], .int 5), (.if_icmp .ne 7, 3, [36, 0, 2, 4], .null), (.lload_n 2, 1, [2], .null), (.goto 4, 3, [37, 0, 2, 4], .null)]),
  (36, [(.lconst 0, 1, [], .long 0), (.nop, 0, [37, 0, 2, 4], .null)]),
  (37, [(.lastore, 1, [], .null), (.iinc 4 1, 3, [4], .int 1), (.goto (-28), 3, [13, 0, 2, 4], .null)]),
  (44, [(.return_, 1, [], .null)])], [[]], [0, 1, 2])
def k_Evaluator_fits : aK := ([(0, [(.aload_n 0, 1, [0], .null), (.getfield 12, 3, [1, 0, 2], .null), (.invokevirtual 31, 3, [28, 1, 0, 0], .null), (.istore 4, 2, [4], .null), (.iload 4, 2, [4], .null), (.bipush 95, 2, [], .int 95), (.if_icmp .ne 5, 3, [18, 0, 1, 3, 4], .null), (.iconst 1, 1, [], .int 1), (.ireturn, 1, [3], .null)]),
  (18, [(.iload 4, 2, [4], .null), (.bipush 40, 2, [], .int 40), (.if_icmp .ne 73, 3, [95, 0, 1, 4], .null), (.iload_n 3, 1, [3], .null), (.iconst 4, 1, [], .int 4), (.if_icmp .ge 66, 3, [93], .null), (.lload_n 1, 1, [1], .null), (.invokestatic 35, 3, [50, 1, 0, 0], .null), (.ifCond .eq 59, 3, [93], .null), (.aload_n 0, 1, [0], .null), (.lload_n 1, 1, [1], .null), (.invokestatic 39, 3, [51, 1, 1, 0], .null), (.iload_n 3, 1, [3], .null), (.iconst 1, 1, [], .int 1), (.iadd, 1, [], .null), (.invokevirtual 43, 3, [5, 3, 0, 0], .null), (.ifCond .eq 45, 3, [93], .null), (.aload_n 0, 1, [0], .null), (.getfield 12, 3, [1, 0, 2], .null), (.bipush 44, 2, [], .int 44), (.invokevirtual 47, 3, [26, 2, 0, 0], .null), (.ifCond .eq 33, 3, [93], .null), (.aload_n 0, 1, [0], .null), (.lload_n 1, 1, [1], .null), (.invokestatic 51, 3, [53, 1, 1, 0], .null), (.iload_n 3, 1, [3], .null), (.iconst 1, 1, [], .int 1), (.iadd, 1, [], .null), (.invokevirtual 43, 3, [5, 3, 0, 0], .null), (.ifCond .eq 19, 3, [93], .null), (.aload_n 0, 1, [0], .null), (.getfield 12, 3, [1, 0, 2], .null), (.bipush 41, 2, [], .int 41), (.invokevirtual 47, 3, [26, 2, 0, 0], .null), (.ifCond .eq 7, 3, [93], .null), (.iconst 1, 1, [], .int 1), (.goto 4, 3, [94], .null)]),
  (93, [(.iconst 0, 1, [], .int 0), (.nop, 0, [94], .null)]),
  (94, [(.ireturn, 1, [3], .null)]),
  (95, [(.iload 4, 2, [4], .null), (.invokestatic 54, 3, [6, 1, 0, 0], .null), (.istore 5, 2, [5], .null), (.iload 5, 2, [5], .null), (.ifCond .ge 20, 3, [124, 0, 1, 5], .null), (.aload_n 0, 1, [0], .null), (.iload 4, 2, [4], .null), (.invokevirtual 58, 3, [7, 2, 1, 0], .null), (.lload_n 1, 1, [1], .null), (.lcmp, 1, [], .null), (.ifCond .ne 7, 3, [122], .null), (.iconst 1, 1, [], .int 1), (.goto 4, 3, [123], .null)]),
  (122, [(.iconst 0, 1, [], .int 0), (.nop, 0, [123], .null)]),
  (123, [(.ireturn, 1, [3], .null)]),
  (124, [(.aload_n 0, 1, [0], .null), (.getfield 18, 3, [1, 1, 2], .null), (.iload 5, 2, [5], .null), (.laload, 1, [], .null), (.lconst 0, 1, [], .long 0), (.lcmp, 1, [], .null), (.ifCond .ne 11, 3, [144, 0, 1, 5], .null), (.aload_n 0, 1, [0], .null), (.getfield 18, 3, [1, 1, 2], .null), (.iload 5, 2, [5], .null), (.lload_n 1, 1, [1], .null), (.lastore, 1, [], .null), (.nop, 0, [144, 0, 1, 5], .null)]),
  (144, [(.aload_n 0, 1, [0], .null), (.getfield 18, 3, [1, 1, 2], .null), (.iload 5, 2, [5], .null), (.laload, 1, [], .null), (.lload_n 1, 1, [1], .null), (.lcmp, 1, [], .null), (.ifCond .ne 7, 3, [160], .null), (.iconst 1, 1, [], .int 1), (.goto 4, 3, [161], .null)]),
  (160, [(.iconst 0, 1, [], .int 0), (.nop, 0, [161], .null)]),
  (161, [(.ireturn, 1, [3], .null)])], [[]], [0, 1, 3])
def k_Evaluator_variableOf : aK := ([(0, [(.iload_n 0, 1, [0], .null), (.bipush 83, 2, [], .int 83), (.if_icmp .ne 5, 3, [8, 0], .null), (.iconst 5, 1, [], .int 5), (.ireturn, 1, [0], .null)]),
  (8, [(.iload_n 0, 1, [0], .null), (.bipush 65, 2, [], .int 65), (.if_icmp .lt 16, 3, [27], .null), (.iload_n 0, 1, [0], .null), (.bipush 69, 2, [], .int 69), (.if_icmp .gt 10, 3, [27], .null), (.iload_n 0, 1, [0], .null), (.bipush 65, 2, [], .int 65), (.isub, 1, [], .null), (.goto 4, 3, [28], .null)]),
  (27, [(.iconst (-1), 1, [], .int (-1)), (.nop, 0, [28], .null)]),
  (28, [(.ireturn, 1, [0], .null)])], [[]], [0])
def k_Evaluator_constant : aK := ([(0, [(.iload_n 1, 1, [1], .null), (.bipush 97, 2, [], .int 97), (.if_icmp .lt 21, 3, [24, 0, 1], .null), (.iload_n 1, 1, [1], .null), (.bipush 104, 2, [], .int 104), (.if_icmp .gt 15, 3, [24, 0, 1], .null), (.sipush 2000, 3, [], .int 2000), (.iload_n 1, 1, [1], .null), (.iadd, 1, [], .null), (.bipush 97, 2, [], .int 97), (.isub, 1, [], .null), (.invokestatic 73, 3, [42, 1, 1, 0], .null), (.lreturn, 1, [], .null)]),
  (24, [(.iload_n 1, 1, [1], .null), (.bipush 39, 2, [], .int 39), (.if_icmp .ne 33, 3, [60, 1], .null), (.aload_n 0, 1, [0], .null), (.getfield 12, 3, [1, 0, 2], .null), (.invokevirtual 31, 3, [28, 1, 0, 0], .null), (.bipush 48, 2, [], .int 48), (.isub, 1, [], .null), (.istore_n 2, 1, [2], .null), (.iload_n 2, 1, [2], .null), (.bipush 10, 2, [], .int 10), (.imul, 1, [], .null), (.aload_n 0, 1, [0], .null), (.getfield 12, 3, [1, 0, 2], .null), (.invokevirtual 31, 3, [28, 1, 0, 0], .null), (.iadd, 1, [], .null), (.bipush 48, 2, [], .int 48), (.isub, 1, [], .null), (.invokestatic 73, 3, [42, 1, 1, 0], .null), (.lreturn, 1, [], .null)]),
  (60, [(.iload_n 1, 1, [1], .null), (.bipush 48, 2, [], .int 48), (.isub, 1, [], .null), (.invokestatic 73, 3, [42, 1, 1, 0], .null), (.lreturn, 1, [], .null)])], [[]], [0, 1])
def k_Evaluator_guardHolds : aK := ([(0, [(.aload_n 0, 1, [0], .null), (.getfield 12, 3, [1, 0, 2], .null), (.bipush 63, 2, [], .int 63), (.invokevirtual 47, 3, [26, 2, 0, 0], .null), (.ifCond .ne 5, 3, [14, 0], .null), (.iconst 1, 1, [], .int 1), (.ireturn, 1, [3], .null)]),
  (14, [(.aload_n 0, 1, [0], .null), (.iconst 0, 1, [], .int 0), (.invokevirtual 62, 3, [9, 2, 1, 0], .null), (.lstore_n 1, 1, [1], .null), (.lload_n 1, 1, [1], .null), (.lconst 0, 1, [], .long 0), (.lcmp, 1, [], .null), (.ifCond .ne 5, 3, [28, 0, 1], .null), (.iconst 0, 1, [], .int 0), (.ireturn, 1, [3], .null)]),
  (28, [(.aload_n 0, 1, [0], .null), (.getfield 12, 3, [1, 0, 2], .null), (.invokevirtual 31, 3, [28, 1, 0, 0], .null), (.istore_n 3, 1, [3], .null), (.aload_n 0, 1, [0], .null), (.iconst 0, 1, [], .int 0), (.invokevirtual 62, 3, [9, 2, 1, 0], .null), (.lstore 4, 2, [4], .null), (.lload 4, 2, [4], .null), (.lconst 0, 1, [], .long 0), (.lcmp, 1, [], .null), (.ifCond .ne 5, 3, [52, 1, 3, 4], .null), (.iconst 0, 1, [], .int 0), (.ireturn, 1, [3], .null)]),
  (52, [(.iload_n 3, 1, [3], .null), (.bipush 61, 2, [], .int 61), (.if_icmp .ne 16, 3, [71, 1, 4], .null), (.lload_n 1, 1, [1], .null), (.lload 4, 2, [4], .null), (.lcmp, 1, [], .null), (.ifCond .ne 7, 3, [69], .null), (.iconst 1, 1, [], .int 1), (.goto 4, 3, [70], .null)]),
  (69, [(.iconst 0, 1, [], .int 0), (.nop, 0, [70], .null)]),
  (70, [(.ireturn, 1, [3], .null)]),
  (71, [(.lload_n 1, 1, [1], .null), (.invokestatic 66, 3, [54, 1, 0, 0], .null), (.ifCond .eq 22, 3, [97], .null), (.lload 4, 2, [4], .null), (.invokestatic 66, 3, [54, 1, 0, 0], .null), (.ifCond .eq 14, 3, [97], .null), (.lload_n 1, 1, [1], .null), (.lload 4, 2, [4], .null), (.lcmp, 1, [], .null), (.ifCond .ge 7, 3, [97], .null), (.iconst 1, 1, [], .int 1), (.goto 4, 3, [98], .null)]),
  (97, [(.iconst 0, 1, [], .int 0), (.nop, 0, [98], .null)]),
  (98, [(.ireturn, 1, [3], .null)])], [[]], [0])
def k_Evaluator_evaluate : aK := ([(0, [(.aload_n 0, 1, [0], .null), (.getfield 12, 3, [1, 0, 2], .null), (.invokevirtual 31, 3, [28, 1, 0, 0], .null), (.istore_n 2, 1, [2], .null), (.iload_n 2, 1, [2], .null), (.bipush 40, 2, [], .int 40), (.if_icmp .eq 21, 3, [32, 0, 1, 2], .null), (.iload_n 2, 1, [2], .null), (.bipush 43, 2, [], .int 43), (.if_icmp .eq 15, 3, [32, 0, 1, 2], .null), (.iload_n 2, 1, [2], .null), (.bipush 45, 2, [], .int 45), (.if_icmp .eq 9, 3, [32, 0, 1, 2], .null), (.iload_n 2, 1, [2], .null), (.bipush 47, 2, [], .int 47), (.if_icmp .ne 10, 3, [39, 0, 2], .null), (.nop, 0, [32, 0, 1, 2], .null)]),
  (32, [(.aload_n 0, 1, [0], .null), (.iload_n 2, 1, [2], .null), (.iload_n 1, 1, [1], .null), (.invokevirtual 69, 3, [10, 3, 1, 0], .null), (.lreturn, 1, [], .null)]),
  (39, [(.iload_n 2, 1, [2], .null), (.bipush 35, 2, [], .int 35), (.if_icmp .ne 15, 3, [57, 0, 2], .null), (.sipush 3000, 3, [], .int 3000), (.aload_n 0, 1, [0], .null), (.getfield 22, 3, [1, 2, 0], .null), (.iadd, 1, [], .null), (.invokestatic 73, 3, [42, 1, 1, 0], .null), (.lreturn, 1, [], .null)]),
  (57, [(.iload_n 2, 1, [2], .null), (.invokestatic 54, 3, [6, 1, 0, 0], .null), (.istore_n 3, 1, [3], .null), (.iload_n 3, 1, [3], .null), (.ifCond .ge 9, 3, [72, 0, 3], .null), (.aload_n 0, 1, [0], .null), (.iload_n 2, 1, [2], .null), (.invokevirtual 58, 3, [7, 2, 1, 0], .null), (.lreturn, 1, [], .null)]),
  (72, [(.aload_n 0, 1, [0], .null), (.getfield 18, 3, [1, 1, 2], .null), (.iload_n 3, 1, [3], .null), (.laload, 1, [], .null), (.lconst 0, 1, [], .long 0), (.lcmp, 1, [], .null), (.ifCond .ne 11, 3, [91, 0, 3], .null), (.aload_n 0, 1, [0], .null), (.iconst 1, 1, [], .int 1), (.invokevirtual 76, 3, [11, 2, 1, 0], .null), (.goto 9, 3, [97], .null)]),
  (91, [(.aload_n 0, 1, [0], .null), (.getfield 18, 3, [1, 1, 2], .null), (.iload_n 3, 1, [3], .null), (.laload, 1, [], .null), (.nop, 0, [97], .null)]),
  (97, [(.lreturn, 1, [], .null)])], [[]], [0, 1])
def k_Evaluator_evaluateTwo : aK := ([(0, [(.iload_n 2, 1, [2], .null), (.iconst 4, 1, [], .int 4), (.if_icmp .lt 9, 3, [11, 0, 1, 2], .null), (.aload_n 0, 1, [0], .null), (.iconst 1, 1, [], .int 1), (.invokevirtual 76, 3, [11, 2, 1, 0], .null), (.lreturn, 1, [], .null)]),
  (11, [(.aload_n 0, 1, [0], .null), (.iload_n 2, 1, [2], .null), (.iconst 1, 1, [], .int 1), (.iadd, 1, [], .null), (.invokevirtual 62, 3, [9, 2, 1, 0], .null), (.lstore_n 3, 1, [3], .null), (.lload_n 3, 1, [3], .null), (.lconst 0, 1, [], .long 0), (.lcmp, 1, [], .null), (.ifCond .ne 5, 3, [27, 0, 1, 2, 3], .null), (.lconst 0, 1, [], .long 0), (.lreturn, 1, [], .null)]),
  (27, [(.iload_n 1, 1, [1], .null), (.bipush 40, 2, [], .int 40), (.if_icmp .ne 13, 3, [43, 0, 1, 2, 3], .null), (.aload_n 0, 1, [0], .null), (.getfield 12, 3, [1, 0, 2], .null), (.bipush 44, 2, [], .int 44), (.invokevirtual 47, 3, [26, 2, 0, 0], .null), (.pop, 1, [], .null), (.nop, 0, [43, 0, 1, 2, 3], .null)]),
  (43, [(.aload_n 0, 1, [0], .null), (.iload_n 2, 1, [2], .null), (.iconst 1, 1, [], .int 1), (.iadd, 1, [], .null), (.invokevirtual 62, 3, [9, 2, 1, 0], .null), (.lstore 5, 2, [5], .null), (.lload 5, 2, [5], .null), (.lconst 0, 1, [], .long 0), (.lcmp, 1, [], .null), (.ifCond .ne 5, 3, [61, 0, 1, 3, 5], .null), (.lconst 0, 1, [], .long 0), (.lreturn, 1, [], .null)]),
  (61, [(.iload_n 1, 1, [1], .null), (.bipush 40, 2, [], .int 40), (.if_icmp .eq 12, 3, [76, 0, 3, 5], .null), (.aload_n 0, 1, [0], .null), (.iload_n 1, 1, [1], .null), (.lload_n 3, 1, [3], .null), (.lload 5, 2, [5], .null), (.invokevirtual 79, 3, [12, 4, 1, 0], .null), (.lreturn, 1, [], .null)]),
  (76, [(.aload_n 0, 1, [0], .null), (.getfield 12, 3, [1, 0, 2], .null), (.bipush 41, 2, [], .int 41), (.invokevirtual 47, 3, [26, 2, 0, 0], .null), (.pop, 1, [], .null), (.lload_n 3, 1, [3], .null), (.lload 5, 2, [5], .null), (.invokestatic 83, 3, [43, 2, 1, 0], .null), (.lstore 7, 2, [7], .null), (.lload 7, 2, [7], .null), (.lconst 0, 1, [], .long 0), (.lcmp, 1, [], .null), (.ifCond .ne 11, 3, [109, 7], .null), (.aload_n 0, 1, [0], .null), (.iconst 1, 1, [], .int 1), (.invokevirtual 76, 3, [11, 2, 1, 0], .null), (.goto 5, 3, [111], .null)]),
  (109, [(.lload 7, 2, [7], .null), (.nop, 0, [111], .null)]),
  (111, [(.lreturn, 1, [], .null)])], [[]], [0, 1, 2])
def k_Evaluator_failed : aK := ([(0, [(.aload_n 0, 1, [0], .null), (.iload_n 1, 1, [1], .null), (.putfield 26, 3, [1, 3, 0], .null), (.lconst 0, 1, [], .long 0), (.lreturn, 1, [], .null)])], [[]], [0, 1])
def k_Evaluator_calculate : aK := ([(0, [(.lload_n 2, 1, [2], .null), (.invokestatic 66, 3, [54, 1, 0, 0], .null), (.ifCond .eq 11, 3, [15, 0], .null), (.lload 4, 2, [4], .null), (.invokestatic 66, 3, [54, 1, 0, 0], .null), (.ifCond .ne 9, 3, [21, 0, 1, 2, 4], .null), (.nop, 0, [15, 0], .null)]),
  (15, [(.aload_n 0, 1, [0], .null), (.iconst 1, 1, [], .int 1), (.invokevirtual 76, 3, [11, 2, 1, 0], .null), (.lreturn, 1, [], .null)]),
  (21, [(.lload_n 2, 1, [2], .null), (.iconst 0, 1, [], .int 0), (.invokestatic 87, 3, [48, 2, 0, 0], .null), (.istore 6, 2, [6], .null), (.lload 4, 2, [4], .null), (.iconst 0, 1, [], .int 0), (.invokestatic 87, 3, [48, 2, 0, 0], .null), (.istore 7, 2, [7], .null), (.iload_n 1, 1, [1], .null), (.bipush 47, 2, [], .int 47), (.if_icmp .ne 14, 3, [53, 0, 1, 6, 7], .null), (.iload 7, 2, [7], .null), (.ifCond .ne 9, 3, [53, 0, 1, 6, 7], .null), (.aload_n 0, 1, [0], .null), (.iconst 2, 1, [], .int 2), (.invokevirtual 76, 3, [11, 2, 1, 0], .null), (.lreturn, 1, [], .null)]),
  (53, [(.iload_n 1, 1, [1], .null), (.bipush 43, 2, [], .int 43), (.if_icmp .ne 11, 3, [67, 0, 1, 6, 7], .null), (.iload 6, 2, [6], .null), (.iload 7, 2, [7], .null), (.iadd, 1, [], .null), (.goto 22, 3, [86, 0], .null)]),
  (67, [(.iload_n 1, 1, [1], .null), (.bipush 45, 2, [], .int 45), (.if_icmp .ne 11, 3, [81, 0, 6, 7], .null), (.iload 6, 2, [6], .null), (.iload 7, 2, [7], .null), (.isub, 1, [], .null), (.goto 8, 3, [86, 0], .null)]),
  (81, [(.iload 6, 2, [6], .null), (.iload 7, 2, [7], .null), (.idiv, 1, [], .null), (.nop, 0, [86, 0], .null)]),
  (86, [(.istore 8, 2, [8], .null), (.iload 8, 2, [8], .null), (.invokestatic 91, 3, [157, 1, 0, 0], .null), (.sipush 999, 3, [], .int 999), (.if_icmp .le 11, 3, [107, 8], .null), (.aload_n 0, 1, [0], .null), (.iconst 1, 1, [], .int 1), (.invokevirtual 76, 3, [11, 2, 1, 0], .null), (.goto 8, 3, [112], .null)]),
  (107, [(.iload 8, 2, [8], .null), (.invokestatic 73, 3, [42, 1, 1, 0], .null), (.nop, 0, [112], .null)]),
  (112, [(.lreturn, 1, [], .null)])], [[]], [0, 1, 2, 4])
def k_Grammar_init : aK := ([(0, [(.aload_n 0, 1, [0], .null), (.invokespecial 3, 3, [1002], .null), (.aload_n 0, 1, [0], .null), (.new 9, 3, [3, 0], .null), (.dup, 1, [], .null), (.invokespecial 11, 3, [22, 1, 9, 0], .null), (.putfield 12, 3, [2, 0, 2], .null), (.return_, 1, [], .null)])], [[]], [0])
def k_Grammar_placeOfFault : aK := ([(0, [(.aload_n 0, 1, [0], .null), (.getfield 12, 3, [2, 0, 2], .null), (.aload_n 1, 1, [1], .null), (.invokevirtual 18, 3, [23, 2, 9, 0], .null), (.iconst 0, 1, [], .int 0), (.istore_n 2, 1, [2], .null), (.nop, 0, [10, 0, 2], .null)]),
  (10, [(.iload_n 2, 1, [2], .null), (.bipush 60, 2, [], .int 60), (.if_icmp .ge 71, 3, [84], .null), (.aload_n 0, 1, [0], .null), (.getfield 12, 3, [2, 0, 2], .null), (.invokevirtual 22, 3, [24, 1, 0, 0], .null), (.ifCond .ne 61, 3, [84], .null), (.aload_n 0, 1, [0], .null), (.iconst 0, 1, [], .int 0), (.invokevirtual 26, 3, [15, 2, 0, 0], .null), (.ifCond .eq 33, 3, [64, 0, 2], .null), (.aload_n 0, 1, [0], .null), (.invokevirtual 30, 3, [18, 1, 0, 0], .null), (.ifCond .eq 26, 3, [64, 0, 2], .null), (.aload_n 0, 1, [0], .null), (.getfield 12, 3, [2, 0, 2], .null), (.bipush 58, 2, [], .int 58), (.invokevirtual 33, 3, [26, 2, 0, 0], .null), (.ifCond .eq 14, 3, [64, 0, 2], .null), (.aload_n 0, 1, [0], .null), (.invokevirtual 37, 3, [20, 1, 0, 0], .null), (.ifCond .eq 7, 3, [64, 0, 2], .null), (.iconst 1, 1, [], .int 1), (.goto 4, 3, [65, 0, 2], .null)]),
  (64, [(.iconst 0, 1, [], .int 0), (.nop, 0, [65, 0, 2], .null)]),
  (65, [(.istore_n 3, 1, [3], .null), (.iload_n 3, 1, [3], .null), (.ifCond .ne 11, 3, [78, 0, 2], .null), (.aload_n 0, 1, [0], .null), (.getfield 12, 3, [2, 0, 2], .null), (.getfield 40, 3, [3, 1, 0], .null), (.ireturn, 1, [0], .null)]),
  (78, [(.iinc 2 1, 3, [2], .int 1), (.goto (-71), 3, [10, 0, 2], .null)]),
  (84, [(.bipush (-2), 2, [], .int (-2)), (.ireturn, 1, [0], .null)])], [[]], [0, 1])
def k_Grammar_readPattern : aK := ([(0, [(.aload_n 0, 1, [0], .null), (.getfield 12, 3, [2, 0, 2], .null), (.invokevirtual 44, 3, [25, 1, 0, 0], .null), (.bipush 40, 2, [], .int 40), (.if_icmp .ne 70, 3, [79, 0], .null), (.iload_n 1, 1, [1], .null), (.iconst 4, 1, [], .int 4), (.if_icmp .ge 63, 3, [77], .null), (.aload_n 0, 1, [0], .null), (.getfield 12, 3, [2, 0, 2], .null), (.bipush 40, 2, [], .int 40), (.invokevirtual 33, 3, [26, 2, 0, 0], .null), (.ifCond .eq 51, 3, [77], .null), (.aload_n 0, 1, [0], .null), (.iload_n 1, 1, [1], .null), (.iconst 1, 1, [], .int 1), (.iadd, 1, [], .null), (.invokevirtual 26, 3, [15, 2, 0, 0], .null), (.ifCond .eq 41, 3, [77], .null), (.aload_n 0, 1, [0], .null), (.getfield 12, 3, [2, 0, 2], .null), (.bipush 44, 2, [], .int 44), (.invokevirtual 33, 3, [26, 2, 0, 0], .null), (.ifCond .eq 29, 3, [77], .null), (.aload_n 0, 1, [0], .null), (.iload_n 1, 1, [1], .null), (.iconst 1, 1, [], .int 1), (.iadd, 1, [], .null), (.invokevirtual 26, 3, [15, 2, 0, 0], .null), (.ifCond .eq 19, 3, [77], .null), (.aload_n 0, 1, [0], .null), (.getfield 12, 3, [2, 0, 2], .null), (.bipush 41, 2, [], .int 41), (.invokevirtual 33, 3, [26, 2, 0, 0], .null), (.ifCond .eq 7, 3, [77], .null), (.iconst 1, 1, [], .int 1), (.goto 4, 3, [78], .null)]),
  (77, [(.iconst 0, 1, [], .int 0), (.nop, 0, [78], .null)]),
  (78, [(.ireturn, 1, [3], .null)]),
  (79, [(.aload_n 0, 1, [0], .null), (.getfield 12, 3, [2, 0, 2], .null), (.bipush 95, 2, [], .int 95), (.invokevirtual 33, 3, [26, 2, 0, 0], .null), (.ifCond .ne 10, 3, [98], .null), (.aload_n 0, 1, [0], .null), (.invokevirtual 48, 3, [16, 1, 0, 0], .null), (.ifCond .eq 7, 3, [102], .null), (.nop, 0, [98], .null)]),
  (98, [(.iconst 1, 1, [], .int 1), (.goto 4, 3, [103], .null)]),
  (102, [(.iconst 0, 1, [], .int 0), (.nop, 0, [103], .null)]),
  (103, [(.ireturn, 1, [3], .null)])], [[]], [0, 1])
def k_Grammar_readSimple : aK := ([(0, [(.aload_n 0, 1, [0], .null), (.getfield 12, 3, [2, 0, 2], .null), (.bipush 39, 2, [], .int 39), (.invokevirtual 33, 3, [26, 2, 0, 0], .null), (.ifCond .eq 37, 3, [46, 0], .null), (.aload_n 0, 1, [0], .null), (.getfield 12, 3, [2, 0, 2], .null), (.bipush 48, 2, [], .int 48), (.bipush 57, 2, [], .int 57), (.invokevirtual 57, 3, [27, 3, 0, 0], .null), (.ifCond .eq 21, 3, [44], .null), (.aload_n 0, 1, [0], .null), (.getfield 12, 3, [2, 0, 2], .null), (.bipush 48, 2, [], .int 48), (.bipush 57, 2, [], .int 57), (.invokevirtual 57, 3, [27, 3, 0, 0], .null), (.ifCond .eq 7, 3, [44], .null), (.iconst 1, 1, [], .int 1), (.goto 4, 3, [45], .null)]),
  (44, [(.iconst 0, 1, [], .int 0), (.nop, 0, [45], .null)]),
  (45, [(.ireturn, 1, [3], .null)]),
  (46, [(.aload_n 0, 1, [0], .null), (.getfield 12, 3, [2, 0, 2], .null), (.bipush 48, 2, [], .int 48), (.bipush 57, 2, [], .int 57), (.invokevirtual 57, 3, [27, 3, 0, 0], .null), (.ifCond .ne 24, 3, [81], .null), (.aload_n 0, 1, [0], .null), (.getfield 12, 3, [2, 0, 2], .null), (.bipush 97, 2, [], .int 97), (.bipush 104, 2, [], .int 104), (.invokevirtual 57, 3, [27, 3, 0, 0], .null), (.ifCond .ne 10, 3, [81], .null), (.aload_n 0, 1, [0], .null), (.invokevirtual 61, 3, [17, 1, 0, 0], .null), (.ifCond .eq 7, 3, [85], .null), (.nop, 0, [81], .null)]),
  (81, [(.iconst 1, 1, [], .int 1), (.goto 4, 3, [86], .null)]),
  (85, [(.iconst 0, 1, [], .int 0), (.nop, 0, [86], .null)]),
  (86, [(.ireturn, 1, [3], .null)])], [[]], [0])
def k_Grammar_readVariable : aK := ([(0, [(.aload_n 0, 1, [0], .null), (.getfield 12, 3, [2, 0, 2], .null), (.bipush 65, 2, [], .int 65), (.bipush 69, 2, [], .int 69), (.invokevirtual 57, 3, [27, 3, 0, 0], .null), (.ifCond .ne 15, 3, [26], .null), (.aload_n 0, 1, [0], .null), (.getfield 12, 3, [2, 0, 2], .null), (.bipush 83, 2, [], .int 83), (.invokevirtual 33, 3, [26, 2, 0, 0], .null), (.ifCond .eq 7, 3, [30], .null), (.nop, 0, [26], .null)]),
  (26, [(.iconst 1, 1, [], .int 1), (.goto 4, 3, [31], .null)]),
  (30, [(.iconst 0, 1, [], .int 0), (.nop, 0, [31], .null)]),
  (31, [(.ireturn, 1, [3], .null)])], [[]], [0])
def k_Grammar_readGuard : aK := ([(0, [(.aload_n 0, 1, [0], .null), (.getfield 12, 3, [2, 0, 2], .null), (.bipush 63, 2, [], .int 63), (.invokevirtual 33, 3, [26, 2, 0, 0], .null), (.ifCond .ne 5, 3, [14, 0], .null), (.iconst 1, 1, [], .int 1), (.ireturn, 1, [3], .null)]),
  (14, [(.aload_n 0, 1, [0], .null), (.iconst 0, 1, [], .int 0), (.invokevirtual 51, 3, [19, 2, 0, 0], .null), (.ifCond .eq 39, 3, [58], .null), (.aload_n 0, 1, [0], .null), (.getfield 12, 3, [2, 0, 2], .null), (.bipush 60, 2, [], .int 60), (.invokevirtual 33, 3, [26, 2, 0, 0], .null), (.ifCond .ne 15, 3, [46, 0], .null), (.aload_n 0, 1, [0], .null), (.getfield 12, 3, [2, 0, 2], .null), (.bipush 61, 2, [], .int 61), (.invokevirtual 33, 3, [26, 2, 0, 0], .null), (.ifCond .eq 15, 3, [58], .null), (.nop, 0, [46, 0], .null)]),
  (46, [(.aload_n 0, 1, [0], .null), (.iconst 0, 1, [], .int 0), (.invokevirtual 51, 3, [19, 2, 0, 0], .null), (.ifCond .eq 7, 3, [58], .null), (.iconst 1, 1, [], .int 1), (.goto 4, 3, [59], .null)]),
  (58, [(.iconst 0, 1, [], .int 0), (.nop, 0, [59], .null)]),
  (59, [(.ireturn, 1, [3], .null)])], [[]], [0])
def k_Grammar_readExpression : aK := ([(0, [(.aload_n 0, 1, [0], .null), (.getfield 12, 3, [2, 0, 2], .null), (.invokevirtual 44, 3, [25, 1, 0, 0], .null), (.istore_n 2, 1, [2], .null), (.iload_n 2, 1, [2], .null), (.bipush 40, 2, [], .int 40), (.if_icmp .ne 70, 3, [81, 0, 1, 2], .null), (.iload_n 1, 1, [1], .null), (.iconst 4, 1, [], .int 4), (.if_icmp .ge 63, 3, [79], .null), (.aload_n 0, 1, [0], .null), (.getfield 12, 3, [2, 0, 2], .null), (.bipush 40, 2, [], .int 40), (.invokevirtual 33, 3, [26, 2, 0, 0], .null), (.ifCond .eq 51, 3, [79], .null), (.aload_n 0, 1, [0], .null), (.iload_n 1, 1, [1], .null), (.iconst 1, 1, [], .int 1), (.iadd, 1, [], .null), (.invokevirtual 51, 3, [19, 2, 0, 0], .null), (.ifCond .eq 41, 3, [79], .null), (.aload_n 0, 1, [0], .null), (.getfield 12, 3, [2, 0, 2], .null), (.bipush 44, 2, [], .int 44), (.invokevirtual 33, 3, [26, 2, 0, 0], .null), (.ifCond .eq 29, 3, [79], .null), (.aload_n 0, 1, [0], .null), (.iload_n 1, 1, [1], .null), (.iconst 1, 1, [], .int 1), (.iadd, 1, [], .null), (.invokevirtual 51, 3, [19, 2, 0, 0], .null), (.ifCond .eq 19, 3, [79], .null), (.aload_n 0, 1, [0], .null), (.getfield 12, 3, [2, 0, 2], .null), (.bipush 41, 2, [], .int 41), (.invokevirtual 33, 3, [26, 2, 0, 0], .null), (.ifCond .eq 7, 3, [79], .null), (.iconst 1, 1, [], .int 1), (.goto 4, 3, [80], .null)]),
  (79, [(.iconst 0, 1, [], .int 0), (.nop, 0, [80], .null)]),
  (80, [(.ireturn, 1, [3], .null)]),
  (81, [(.iload_n 2, 1, [2], .null), (.bipush 43, 2, [], .int 43), (.if_icmp .eq 15, 3, [99, 0, 1, 2], .null), (.iload_n 2, 1, [2], .null), (.bipush 45, 2, [], .int 45), (.if_icmp .eq 9, 3, [99, 0, 1, 2], .null), (.iload_n 2, 1, [2], .null), (.bipush 47, 2, [], .int 47), (.if_icmp .ne 45, 3, [141, 0], .null), (.nop, 0, [99, 0, 1, 2], .null)]),
  (99, [(.iload_n 1, 1, [1], .null), (.iconst 4, 1, [], .int 4), (.if_icmp .ge 38, 3, [139], .null), (.aload_n 0, 1, [0], .null), (.getfield 12, 3, [2, 0, 2], .null), (.iload_n 2, 1, [2], .null), (.invokevirtual 33, 3, [26, 2, 0, 0], .null), (.ifCond .eq 27, 3, [139], .null), (.aload_n 0, 1, [0], .null), (.iload_n 1, 1, [1], .null), (.iconst 1, 1, [], .int 1), (.iadd, 1, [], .null), (.invokevirtual 51, 3, [19, 2, 0, 0], .null), (.ifCond .eq 17, 3, [139], .null), (.aload_n 0, 1, [0], .null), (.iload_n 1, 1, [1], .null), (.iconst 1, 1, [], .int 1), (.iadd, 1, [], .null), (.invokevirtual 51, 3, [19, 2, 0, 0], .null), (.ifCond .eq 7, 3, [139], .null), (.iconst 1, 1, [], .int 1), (.goto 4, 3, [140], .null)]),
  (139, [(.iconst 0, 1, [], .int 0), (.nop, 0, [140], .null)]),
  (140, [(.ireturn, 1, [3], .null)]),
  (141, [(.aload_n 0, 1, [0], .null), (.getfield 12, 3, [2, 0, 2], .null), (.bipush 35, 2, [], .int 35), (.invokevirtual 33, 3, [26, 2, 0, 0], .null), (.ifCond .ne 10, 3, [160], .null), (.aload_n 0, 1, [0], .null), (.invokevirtual 48, 3, [16, 1, 0, 0], .null), (.ifCond .eq 7, 3, [164], .null), (.nop, 0, [160], .null)]),
  (160, [(.iconst 1, 1, [], .int 1), (.goto 4, 3, [165], .null)]),
  (164, [(.iconst 0, 1, [], .int 0), (.nop, 0, [165], .null)]),
  (165, [(.ireturn, 1, [3], .null)])], [[]], [0, 1])
def k_Grammar_readActions : aK := ([(0, [(.iconst 0, 1, [], .int 0), (.istore_n 1, 1, [1], .null), (.nop, 0, [2, 0, 1], .null)]),
  (2, [(.iload_n 1, 1, [1], .null), (.bipush 60, 2, [], .int 60), (.if_icmp .ge 32, 3, [37], .null), (.aload_n 0, 1, [0], .null), (.getfield 12, 3, [2, 0, 2], .null), (.bipush 59, 2, [], .int 59), (.invokevirtual 33, 3, [26, 2, 0, 0], .null), (.ifCond .eq 5, 3, [22, 0, 1], .null), (.iconst 1, 1, [], .int 1), (.ireturn, 1, [3], .null)]),
  (22, [(.aload_n 0, 1, [0], .null), (.invokevirtual 54, 3, [21, 1, 0, 0], .null), (.ifCond .ne 5, 3, [31, 0, 1], .null), (.iconst 0, 1, [], .int 0), (.ireturn, 1, [3], .null)]),
  (31, [(.iinc 1 1, 3, [1], .int 1), (.goto (-32), 3, [2, 0, 1], .null)]),
  (37, [(.iconst 0, 1, [], .int 0), (.ireturn, 1, [3], .null)])], [[]], [0])
def k_Grammar_readAction : aK := ([(0, [(.aload_n 0, 1, [0], .null), (.getfield 12, 3, [2, 0, 2], .null), (.bipush 33, 2, [], .int 33), (.invokevirtual 33, 3, [26, 2, 0, 0], .null), (.ifCond .eq 25, 3, [34, 0], .null), (.aload_n 0, 1, [0], .null), (.iconst 0, 1, [], .int 0), (.invokevirtual 51, 3, [19, 2, 0, 0], .null), (.ifCond .eq 15, 3, [32], .null), (.aload_n 0, 1, [0], .null), (.iconst 0, 1, [], .int 0), (.invokevirtual 51, 3, [19, 2, 0, 0], .null), (.ifCond .eq 7, 3, [32], .null), (.iconst 1, 1, [], .int 1), (.goto 4, 3, [33], .null)]),
  (32, [(.iconst 0, 1, [], .int 0), (.nop, 0, [33], .null)]),
  (33, [(.ireturn, 1, [3], .null)]),
  (34, [(.aload_n 0, 1, [0], .null), (.getfield 12, 3, [2, 0, 2], .null), (.bipush 126, 2, [], .int 126), (.invokevirtual 33, 3, [26, 2, 0, 0], .null), (.ifCond .ne 27, 3, [70, 0], .null), (.aload_n 0, 1, [0], .null), (.getfield 12, 3, [2, 0, 2], .null), (.bipush 38, 2, [], .int 38), (.invokevirtual 33, 3, [26, 2, 0, 0], .null), (.ifCond .ne 15, 3, [70, 0], .null), (.aload_n 0, 1, [0], .null), (.getfield 12, 3, [2, 0, 2], .null), (.bipush 36, 2, [], .int 36), (.invokevirtual 33, 3, [26, 2, 0, 0], .null), (.ifCond .eq 9, 3, [76, 0], .null), (.nop, 0, [70, 0], .null)]),
  (70, [(.aload_n 0, 1, [0], .null), (.iconst 0, 1, [], .int 0), (.invokevirtual 51, 3, [19, 2, 0, 0], .null), (.ireturn, 1, [3], .null)]),
  (76, [(.aload_n 0, 1, [0], .null), (.getfield 12, 3, [2, 0, 2], .null), (.bipush 64, 2, [], .int 64), (.invokevirtual 33, 3, [26, 2, 0, 0], .null), (.ifCond .eq 30, 3, [115, 0], .null), (.aload_n 0, 1, [0], .null), (.getfield 12, 3, [2, 0, 2], .null), (.bipush 48, 2, [], .int 48), (.bipush 50, 2, [], .int 50), (.invokevirtual 57, 3, [27, 3, 0, 0], .null), (.ifCond .eq 14, 3, [113], .null), (.aload_n 0, 1, [0], .null), (.invokevirtual 61, 3, [17, 1, 0, 0], .null), (.ifCond .eq 7, 3, [113], .null), (.iconst 1, 1, [], .int 1), (.goto 4, 3, [114], .null)]),
  (113, [(.iconst 0, 1, [], .int 0), (.nop, 0, [114], .null)]),
  (114, [(.ireturn, 1, [3], .null)]),
  (115, [(.aload_n 0, 1, [0], .null), (.getfield 12, 3, [2, 0, 2], .null), (.bipush 42, 2, [], .int 42), (.invokevirtual 33, 3, [26, 2, 0, 0], .null), (.ifCond .eq 21, 3, [145], .null), (.aload_n 0, 1, [0], .null), (.getfield 12, 3, [2, 0, 2], .null), (.bipush 48, 2, [], .int 48), (.bipush 49, 2, [], .int 49), (.invokevirtual 57, 3, [27, 3, 0, 0], .null), (.ifCond .eq 7, 3, [145], .null), (.iconst 1, 1, [], .int 1), (.goto 4, 3, [146], .null)]),
  (145, [(.iconst 0, 1, [], .int 0), (.nop, 0, [146], .null)]),
  (146, [(.ireturn, 1, [3], .null)])], [[]], [0])
def k_Reader_init : aK := ([(0, [(.aload_n 0, 1, [0], .null), (.invokespecial 3, 3, [1002], .null), (.aload_n 0, 1, [0], .null), (.new 9, 3, [6, 0], .null), (.dup, 1, [], .null), (.invokespecial 11, 3, [56, 1, 9, 0], .null), (.putfield 12, 3, [3, 0, 2], .null), (.return_, 1, [], .null)])], [[]], [0])
def k_Reader_open : aK := ([(0, [(.aload_n 0, 1, [0], .null), (.aload_n 1, 1, [1], .null), (.putfield 12, 3, [3, 0, 2], .null), (.aload_n 0, 1, [0], .null), (.iconst 0, 1, [], .int 0), (.putfield 18, 3, [3, 1, 0], .null), (.return_, 1, [], .null)])], [[]], [0, 1])
def k_Reader_isAtEnd : aK := ([(0, [(.aload_n 0, 1, [0], .null), (.getfield 18, 3, [3, 1, 0], .null), (.aload_n 0, 1, [0], .null), (.getfield 12, 3, [3, 0, 2], .null), (.getfield 22, 3, [6, 1, 0], .null), (.if_icmp .lt 7, 3, [18], .null), (.iconst 1, 1, [], .int 1), (.goto 4, 3, [19], .null)]),
  (18, [(.iconst 0, 1, [], .int 0), (.nop, 0, [19], .null)]),
  (19, [(.ireturn, 1, [3], .null)])], [[]], [0])
def k_Reader_sign : aK := ([(0, [(.aload_n 0, 1, [0], .null), (.getfield 18, 3, [3, 1, 0], .null), (.aload_n 0, 1, [0], .null), (.getfield 12, 3, [3, 0, 2], .null), (.getfield 22, 3, [6, 1, 0], .null), (.if_icmp .ge 18, 3, [29], .null), (.aload_n 0, 1, [0], .null), (.getfield 12, 3, [3, 0, 2], .null), (.getfield 25, 3, [6, 0, 2], .null), (.aload_n 0, 1, [0], .null), (.getfield 18, 3, [3, 1, 0], .null), (.caload, 1, [], .null), (.goto 4, 3, [30], .null)]),
  (29, [(.iconst 0, 1, [], .int 0), (.nop, 0, [30], .null)]),
  (30, [(.ireturn, 1, [4], .null)])], [[]], [0])
def k_Reader_accept : aK := ([(0, [(.aload_n 0, 1, [0], .null), (.getfield 18, 3, [3, 1, 0], .null), (.aload_n 0, 1, [0], .null), (.getfield 12, 3, [3, 0, 2], .null), (.getfield 22, 3, [6, 1, 0], .null), (.if_icmp .ge 23, 3, [34, 0], .null), (.aload_n 0, 1, [0], .null), (.getfield 12, 3, [3, 0, 2], .null), (.getfield 25, 3, [6, 0, 2], .null), (.aload_n 0, 1, [0], .null), (.getfield 18, 3, [3, 1, 0], .null), (.caload, 1, [], .null), (.iload_n 1, 1, [1], .null), (.if_icmp .ne 7, 3, [34, 0], .null), (.iconst 1, 1, [], .int 1), (.goto 4, 3, [35, 0], .null)]),
  (34, [(.iconst 0, 1, [], .int 0), (.nop, 0, [35, 0], .null)]),
  (35, [(.istore_n 2, 1, [2], .null), (.aload_n 0, 1, [0], .null), (.dup, 1, [], .null), (.getfield 18, 3, [3, 1, 0], .null), (.iload_n 2, 1, [2], .null), (.ifCond .eq 7, 3, [49, 2], .null), (.iconst 1, 1, [], .int 1), (.goto 4, 3, [50, 2], .null)]),
  (49, [(.iconst 0, 1, [], .int 0), (.nop, 0, [50, 2], .null)]),
  (50, [(.iadd, 1, [], .null), (.putfield 18, 3, [3, 1, 0], .null), (.iload_n 2, 1, [2], .null), (.ireturn, 1, [3], .null)])], [[]], [0, 1])
def k_Reader_acceptFrom : aK := ([(0, [(.aload_n 0, 1, [0], .null), (.getfield 18, 3, [3, 1, 0], .null), (.aload_n 0, 1, [0], .null), (.getfield 12, 3, [3, 0, 2], .null), (.getfield 22, 3, [6, 1, 0], .null), (.if_icmp .ge 39, 3, [50, 0], .null), (.aload_n 0, 1, [0], .null), (.getfield 12, 3, [3, 0, 2], .null), (.getfield 25, 3, [6, 0, 2], .null), (.aload_n 0, 1, [0], .null), (.getfield 18, 3, [3, 1, 0], .null), (.caload, 1, [], .null), (.iload_n 1, 1, [1], .null), (.if_icmp .lt 23, 3, [50, 0], .null), (.aload_n 0, 1, [0], .null), (.getfield 12, 3, [3, 0, 2], .null), (.getfield 25, 3, [6, 0, 2], .null), (.aload_n 0, 1, [0], .null), (.getfield 18, 3, [3, 1, 0], .null), (.caload, 1, [], .null), (.iload_n 2, 1, [2], .null), (.if_icmp .gt 7, 3, [50, 0], .null), (.iconst 1, 1, [], .int 1), (.goto 4, 3, [51, 0], .null)]),
  (50, [(.iconst 0, 1, [], .int 0), (.nop, 0, [51, 0], .null)]),
  (51, [(.istore_n 3, 1, [3], .null), (.aload_n 0, 1, [0], .null), (.dup, 1, [], .null), (.getfield 18, 3, [3, 1, 0], .null), (.iload_n 3, 1, [3], .null), (.ifCond .eq 7, 3, [65, 3], .null), (.iconst 1, 1, [], .int 1), (.goto 4, 3, [66, 3], .null)]),
  (65, [(.iconst 0, 1, [], .int 0), (.nop, 0, [66, 3], .null)]),
  (66, [(.iadd, 1, [], .null), (.putfield 18, 3, [3, 1, 0], .null), (.iload_n 3, 1, [3], .null), (.ireturn, 1, [3], .null)])], [[]], [0, 1, 2])
def k_Reader_next : aK := ([(0, [(.aload_n 0, 1, [0], .null), (.getfield 18, 3, [3, 1, 0], .null), (.aload_n 0, 1, [0], .null), (.getfield 12, 3, [3, 0, 2], .null), (.getfield 22, 3, [6, 1, 0], .null), (.if_icmp .lt 5, 3, [16, 0], .null), (.iconst 0, 1, [], .int 0), (.ireturn, 1, [4], .null)]),
  (16, [(.aload_n 0, 1, [0], .null), (.dup, 1, [], .null), (.getfield 18, 3, [3, 1, 0], .null), (.iconst 1, 1, [], .int 1), (.iadd, 1, [], .null), (.putfield 18, 3, [3, 1, 0], .null), (.aload_n 0, 1, [0], .null), (.getfield 12, 3, [3, 0, 2], .null), (.getfield 25, 3, [6, 0, 2], .null), (.aload_n 0, 1, [0], .null), (.getfield 18, 3, [3, 1, 0], .null), (.iconst 1, 1, [], .int 1), (.isub, 1, [], .null), (.caload, 1, [], .null), (.ireturn, 1, [4], .null)])], [[]], [0])
def k_Reader_skipPast : aK := ([(0, [(.iconst 0, 1, [], .int 0), (.istore_n 2, 1, [2], .null), (.nop, 0, [2, 0, 1, 2], .null)]),
  (2, [(.iload_n 2, 1, [2], .null), (.bipush 60, 2, [], .int 60), (.if_icmp .ge 18, 3, [23], .null), (.aload_n 0, 1, [0], .null), (.invokevirtual 29, 3, [28, 1, 0, 0], .null), (.iload_n 1, 1, [1], .null), (.if_icmp .ne 4, 3, [17, 0, 1, 2], .null), (.return_, 1, [], .null)]),
  (17, [(.iinc 2 1, 3, [2], .int 1), (.goto (-18), 3, [2, 0, 1, 2], .null)]),
  (23, [(.return_, 1, [], .null)])], [[]], [0, 1])
def k_Row_init : aK := ([(0, [(.aload_n 0, 1, [0], .null), (.invokespecial 1, 3, [1002], .null), (.aload_n 0, 1, [0], .null), (.iload_n 1, 1, [1], .null), (.newarray .long, 2, [11], .null), (.putfield 7, 3, [4, 0, 2], .null), (.return_, 1, [], .null)])], [[]], [0, 1])
def k_Row_put : aK := ([(0, [(.aload_n 0, 1, [0], .null), (.getfield 13, 3, [4, 1, 0], .null), (.aload_n 0, 1, [0], .null), (.getfield 7, 3, [4, 0, 2], .null), (.arraylength, 1, [11], .null), (.if_icmp .ge 23, 3, [32], .null), (.aload_n 0, 1, [0], .null), (.getfield 7, 3, [4, 0, 2], .null), (.aload_n 0, 1, [0], .null), (.getfield 13, 3, [4, 1, 0], .null), (.lload_n 1, 1, [1], .null), (.lastore, 1, [], .null), (.aload_n 0, 1, [0], .null), (.dup, 1, [], .null), (.getfield 13, 3, [4, 1, 0], .null), (.iconst 1, 1, [], .int 1), (.iadd, 1, [], .null), (.putfield 13, 3, [4, 1, 0], .null), (.nop, 0, [32], .null)]),
  (32, [(.return_, 1, [], .null)])], [[]], [0, 1])
def k_Row_at : aK := ([(0, [(.iload_n 1, 1, [1], .null), (.ifCond .lt 11, 3, [12], .null), (.iload_n 1, 1, [1], .null), (.aload_n 0, 1, [0], .null), (.getfield 13, 3, [4, 1, 0], .null), (.if_icmp .lt 7, 3, [16, 0, 1], .null), (.nop, 0, [12], .null)]),
  (12, [(.lconst 0, 1, [], .long 0), (.goto 9, 3, [22], .null)]),
  (16, [(.aload_n 0, 1, [0], .null), (.getfield 7, 3, [4, 0, 2], .null), (.iload_n 1, 1, [1], .null), (.laload, 1, [], .null), (.nop, 0, [22], .null)]),
  (22, [(.lreturn, 1, [], .null)])], [[]], [0, 1])
def k_Row_take : aK := ([(0, [(.iload_n 1, 1, [1], .null), (.ifCond .lt 11, 3, [12], .null), (.iload_n 1, 1, [1], .null), (.aload_n 0, 1, [0], .null), (.getfield 13, 3, [4, 1, 0], .null), (.if_icmp .lt 4, 3, [13, 0, 1], .null), (.nop, 0, [12], .null)]),
  (12, [(.return_, 1, [], .null)]),
  (13, [(.iload_n 1, 1, [1], .null), (.iconst 1, 1, [], .int 1), (.iadd, 1, [], .null), (.istore_n 2, 1, [2], .null), (.nop, 0, [17, 0, 2], .null)]),
  (17, [(.iload_n 2, 1, [2], .null), (.aload_n 0, 1, [0], .null), (.getfield 13, 3, [4, 1, 0], .null), (.if_icmp .ge 23, 3, [45, 0], .null), (.aload_n 0, 1, [0], .null), (.getfield 7, 3, [4, 0, 2], .null), (.iload_n 2, 1, [2], .null), (.iconst 1, 1, [], .int 1), (.isub, 1, [], .null), (.aload_n 0, 1, [0], .null), (.getfield 7, 3, [4, 0, 2], .null), (.iload_n 2, 1, [2], .null), (.laload, 1, [], .null), (.lastore, 1, [], .null), (.iinc 2 1, 3, [2], .int 1), (.goto (-25), 3, [17, 0, 2], .null)]),
  (45, [(.aload_n 0, 1, [0], .null), (.dup, 1, [], .null), (.getfield 13, 3, [4, 1, 0], .null), (.iconst 1, 1, [], .int 1), (.isub, 1, [], .null), (.putfield 13, 3, [4, 1, 0], .null), (.return_, 1, [], .null)])], [[]], [0, 1])
def k_Stepper_init : aK := ([(0, [(.aload_n 0, 1, [0], .null), (.invokespecial 3, 3, [1002], .null), (.aload_n 0, 1, [0], .null), (.aload_n 1, 1, [1], .null), (.putfield 9, 3, [5, 0, 2], .null), (.aload_n 0, 1, [0], .null), (.new 15, 3, [1, 0], .null), (.dup, 1, [], .null), (.invokespecial 17, 3, [3, 1, 9, 0], .null), (.putfield 18, 3, [5, 1, 2], .null), (.return_, 1, [], .null)])], [[]], [0, 1])
def k_Stepper_find : aK := ([(0, [(.aload_n 0, 1, [0], .null), (.iload_n 1, 1, [1], .null), (.putfield 22, 3, [5, 2, 0], .null), (.aload_n 0, 1, [0], .null), (.getfield 9, 3, [5, 0, 2], .null), (.getfield 26, 3, [7, 2, 2], .null), (.iload_n 1, 1, [1], .null), (.aaload, 1, [15], .null), (.getfield 32, 3, [0, 1, 2], .null), (.astore_n 2, 1, [2], .null), (.iconst 0, 1, [], .int 0), (.istore_n 3, 1, [3], .null), (.nop, 0, [20, 0, 2, 3], .null)]),
  (20, [(.iload_n 3, 1, [3], .null), (.aload_n 2, 1, [2], .null), (.getfield 38, 3, [4, 1, 0], .null), (.if_icmp .ge 33, 3, [58], .null), (.aload_n 0, 1, [0], .null), (.aload_n 2, 1, [2], .null), (.iload_n 3, 1, [3], .null), (.invokevirtual 43, 3, [32, 2, 1, 0], .null), (.invokevirtual 47, 3, [36, 2, 0, 0], .null), (.istore 4, 2, [4], .null), (.iload 4, 2, [4], .null), (.ifCond .lt 11, 3, [52, 0, 2, 3], .null), (.iload_n 3, 1, [3], .null), (.bipush 100, 2, [], .int 100), (.imul, 1, [], .null), (.iload 4, 2, [4], .null), (.iadd, 1, [], .null), (.ireturn, 1, [0], .null)]),
  (52, [(.iinc 3 1, 3, [3], .int 1), (.goto (-35), 3, [20, 0, 2, 3], .null)]),
  (58, [(.iconst (-1), 1, [], .int (-1)), (.ireturn, 1, [0], .null)])], [[]], [0, 1])
def k_Stepper_findClause : aK := ([(0, [(.aload_n 0, 1, [0], .null), (.getfield 9, 3, [5, 0, 2], .null), (.getfield 26, 3, [7, 2, 2], .null), (.aload_n 0, 1, [0], .null), (.getfield 22, 3, [5, 2, 0], .null), (.aaload, 1, [15], .null), (.astore_n 3, 1, [3], .null), (.aload_n 0, 1, [0], .null), (.getfield 18, 3, [5, 1, 2], .null), (.getfield 51, 3, [1, 0, 2], .null), (.aload_n 3, 1, [3], .null), (.getfield 55, 3, [0, 0, 2], .null), (.invokevirtual 59, 3, [23, 2, 9, 0], .null), (.iconst 0, 1, [], .int 0), (.istore 4, 2, [4], .null), (.nop, 0, [30, 0, 1, 3, 4], .null)]),
  (30, [(.iload 4, 2, [4], .null), (.bipush 60, 2, [], .int 60), (.if_icmp .ge 74, 3, [108], .null), (.aload_n 0, 1, [0], .null), (.getfield 18, 3, [5, 1, 2], .null), (.getfield 51, 3, [1, 0, 2], .null), (.invokevirtual 65, 3, [24, 1, 0, 0], .null), (.ifCond .ne 61, 3, [108], .null), (.aload_n 0, 1, [0], .null), (.getfield 18, 3, [5, 1, 2], .null), (.aload_n 0, 1, [0], .null), (.getfield 22, 3, [5, 2, 0], .null), (.aload_n 3, 1, [3], .null), (.getfield 69, 3, [0, 3, 1], .null), (.invokevirtual 73, 3, [4, 3, 9, 0], .null), (.aload_n 0, 1, [0], .null), (.getfield 18, 3, [5, 1, 2], .null), (.lload_n 1, 1, [1], .null), (.iconst 0, 1, [], .int 0), (.invokevirtual 77, 3, [5, 3, 0, 0], .null), (.ifCond .eq 16, 3, [90, 0, 1, 3, 4], .null), (.aload_n 0, 1, [0], .null), (.getfield 18, 3, [5, 1, 2], .null), (.invokevirtual 81, 3, [8, 1, 0, 0], .null), (.ifCond .eq 6, 3, [90, 0, 1, 3, 4], .null), (.iload 4, 2, [4], .null), (.ireturn, 1, [0], .null)]),
  (90, [(.aload_n 0, 1, [0], .null), (.getfield 18, 3, [5, 1, 2], .null), (.getfield 51, 3, [1, 0, 2], .null), (.bipush 59, 2, [], .int 59), (.invokevirtual 84, 3, [29, 2, 9, 0], .null), (.iinc 4 1, 3, [4], .int 1), (.goto (-75), 3, [30, 0, 1, 3, 4], .null)]),
  (108, [(.iconst (-1), 1, [], .int (-1)), (.ireturn, 1, [0], .null)])], [[]], [0, 1])
def k_Stepper_perform : aK := ([(0, [(.aload_n 0, 1, [0], .null), (.getfield 9, 3, [5, 0, 2], .null), (.getfield 26, 3, [7, 2, 2], .null), (.aload_n 0, 1, [0], .null), (.getfield 22, 3, [5, 2, 0], .null), (.aaload, 1, [15], .null), (.astore_n 2, 1, [2], .null), (.aload_n 2, 1, [2], .null), (.getfield 32, 3, [0, 1, 2], .null), (.iload_n 1, 1, [1], .null), (.invokevirtual 88, 3, [33, 2, 9, 0], .null), (.aload_n 0, 1, [0], .null), (.aload_n 2, 1, [2], .null), (.getfield 69, 3, [0, 3, 1], .null), (.putfield 92, 3, [5, 3, 1], .null), (.aload_n 0, 1, [0], .null), (.sipush (-5000), 3, [], .int (-5000)), (.putfield 95, 3, [5, 4, 0], .null), (.aload_n 0, 1, [0], .null), (.getfield 18, 3, [5, 1, 2], .null), (.getfield 51, 3, [1, 0, 2], .null), (.bipush 58, 2, [], .int 58), (.invokevirtual 98, 3, [26, 2, 0, 0], .null), (.pop, 1, [], .null), (.iconst 0, 1, [], .int 0), (.istore_n 3, 1, [3], .null), (.nop, 0, [51, 0, 2, 3], .null)]),
  (51, [(.iload_n 3, 1, [3], .null), (.bipush 60, 2, [], .int 60), (.if_icmp .ge 82, 3, [136, 0, 2], .null), (.aload_n 0, 1, [0], .null), (.getfield 95, 3, [5, 4, 0], .null), (.sipush (-5000), 3, [], .int (-5000)), (.if_icmp .ne 72, 3, [136, 0, 2], .null), (.aload_n 0, 1, [0], .null), (.getfield 18, 3, [5, 1, 2], .null), (.getfield 51, 3, [1, 0, 2], .null), (.bipush 59, 2, [], .int 59), (.invokevirtual 98, 3, [26, 2, 0, 0], .null), (.ifCond .ne 57, 3, [136, 0, 2], .null), (.aload_n 0, 1, [0], .null), (.aload_n 0, 1, [0], .null), (.getfield 18, 3, [5, 1, 2], .null), (.getfield 51, 3, [1, 0, 2], .null), (.invokevirtual 102, 3, [28, 1, 0, 0], .null), (.invokevirtual 106, 3, [38, 2, 9, 0], .null), (.aload_n 0, 1, [0], .null), (.getfield 18, 3, [5, 1, 2], .null), (.getfield 109, 3, [1, 3, 0], .null), (.ifCond .eq 27, 3, [130, 0, 2, 3], .null), (.aload_n 0, 1, [0], .null), (.aload_n 0, 1, [0], .null), (.getfield 18, 3, [5, 1, 2], .null), (.getfield 109, 3, [1, 3, 0], .null), (.iconst 1, 1, [], .int 1), (.if_icmp .ne 9, 3, [124, 0, 2, 3], .null), (.sipush 2005, 3, [], .int 2005), (.goto 6, 3, [127, 0, 2, 3], .null)]),
  (124, [(.sipush 2003, 3, [], .int 2003), (.nop, 0, [127, 0, 2, 3], .null)]),
  (127, [(.putfield 95, 3, [5, 4, 0], .null), (.nop, 0, [130, 0, 2, 3], .null)]),
  (130, [(.iinc 3 1, 3, [3], .int 1), (.goto (-82), 3, [51, 0, 2, 3], .null)]),
  (136, [(.aload_n 0, 1, [0], .null), (.getfield 95, 3, [5, 4, 0], .null), (.sipush (-5000), 3, [], .int (-5000)), (.if_icmp .ne 14, 3, [157, 0], .null), (.aload_n 2, 1, [2], .null), (.aload_n 0, 1, [0], .null), (.getfield 92, 3, [5, 3, 1], .null), (.putfield 69, 3, [0, 3, 1], .null), (.goto 18, 3, [172, 0], .null)]),
  (157, [(.aload_n 0, 1, [0], .null), (.getfield 9, 3, [5, 0, 2], .null), (.aload_n 0, 1, [0], .null), (.getfield 22, 3, [5, 2, 0], .null), (.aload_n 0, 1, [0], .null), (.getfield 95, 3, [5, 4, 0], .null), (.invokevirtual 112, 3, [63, 3, 9, 0], .null), (.nop, 0, [172, 0], .null)]),
  (172, [(.aload_n 0, 1, [0], .null), (.getfield 18, 3, [5, 1, 2], .null), (.getfield 109, 3, [1, 3, 0], .null), (.ireturn, 1, [0], .null)])], [[]], [0, 1])
def k_Stepper_act : aK := ([(0, [(.iload_n 1, 1, [1], .null), (.bipush 33, 2, [], .int 33), (.if_icmp .ne 10, 3, [13, 0, 1], .null), (.aload_n 0, 1, [0], .null), (.invokevirtual 116, 3, [39, 1, 9, 0], .null), (.goto 81, 3, [91], .null)]),
  (13, [(.iload_n 1, 1, [1], .null), (.bipush 64, 2, [], .int 64), (.if_icmp .ne 10, 3, [26, 0, 1], .null), (.aload_n 0, 1, [0], .null), (.invokevirtual 119, 3, [40, 1, 9, 0], .null), (.goto 68, 3, [91], .null)]),
  (26, [(.iload_n 1, 1, [1], .null), (.bipush 42, 2, [], .int 42), (.if_icmp .ne 41, 3, [70, 0, 1], .null), (.aload_n 0, 1, [0], .null), (.getfield 9, 3, [5, 0, 2], .null), (.getfield 26, 3, [7, 2, 2], .null), (.aload_n 0, 1, [0], .null), (.getfield 22, 3, [5, 2, 0], .null), (.aaload, 1, [15], .null), (.aload_n 0, 1, [0], .null), (.getfield 18, 3, [5, 1, 2], .null), (.getfield 51, 3, [1, 0, 2], .null), (.invokevirtual 102, 3, [28, 1, 0, 0], .null), (.bipush 49, 2, [], .int 49), (.if_icmp .ne 7, 3, [63], .null), (.iconst 1, 1, [], .int 1), (.goto 4, 3, [64], .null)]),
  (63, [(.iconst 0, 1, [], .int 0), (.nop, 0, [64], .null)]),
  (64, [(.putfield 122, 3, [0, 4, 3], .null), (.goto 24, 3, [91], .null)]),
  (70, [(.aload_n 0, 1, [0], .null), (.getfield 18, 3, [5, 1, 2], .null), (.iconst 0, 1, [], .int 0), (.invokevirtual 126, 3, [9, 2, 1, 0], .null), (.lstore_n 2, 1, [2], .null), (.lload_n 2, 1, [2], .null), (.lconst 0, 1, [], .long 0), (.lcmp, 1, [], .null), (.ifCond .eq 9, 3, [91], .null), (.aload_n 0, 1, [0], .null), (.iload_n 1, 1, [1], .null), (.lload_n 2, 1, [2], .null), (.invokevirtual 131, 3, [41, 3, 9, 0], .null), (.nop, 0, [91], .null)]),
  (91, [(.return_, 1, [], .null)])], [[]], [0, 1])
def k_Stepper_putUnderWay : aK := ([(0, [(.aload_n 0, 1, [0], .null), (.getfield 18, 3, [5, 1, 2], .null), (.iconst 0, 1, [], .int 0), (.invokevirtual 126, 3, [9, 2, 1, 0], .null), (.lstore_n 1, 1, [1], .null), (.lload_n 1, 1, [1], .null), (.lconst 0, 1, [], .long 0), (.lcmp, 1, [], .null), (.ifCond .ne 4, 3, [16, 0, 1], .null), (.return_, 1, [], .null)]),
  (16, [(.aload_n 0, 1, [0], .null), (.getfield 18, 3, [5, 1, 2], .null), (.iconst 0, 1, [], .int 0), (.invokevirtual 126, 3, [9, 2, 1, 0], .null), (.lstore_n 3, 1, [3], .null), (.lload_n 3, 1, [3], .null), (.lconst 0, 1, [], .long 0), (.lcmp, 1, [], .null), (.ifCond .ne 4, 3, [32, 0, 1, 3], .null), (.return_, 1, [], .null)]),
  (32, [(.lload_n 1, 1, [1], .null), (.invokestatic 139, 3, [55, 1, 0, 0], .null), (.ifCond .ne 13, 3, [49, 0, 1, 3], .null), (.aload_n 0, 1, [0], .null), (.getfield 18, 3, [5, 1, 2], .null), (.iconst 1, 1, [], .int 1), (.invokevirtual 146, 3, [11, 2, 1, 0], .null), (.pop2, 1, [], .null), (.return_, 1, [], .null)]),
  (49, [(.aload_n 0, 1, [0], .null), (.getfield 9, 3, [5, 0, 2], .null), (.aload_n 0, 1, [0], .null), (.getfield 22, 3, [5, 2, 0], .null), (.lload_n 1, 1, [1], .null), (.iconst 0, 1, [], .int 0), (.invokestatic 135, 3, [48, 2, 0, 0], .null), (.sipush 3000, 3, [], .int 3000), (.isub, 1, [], .null), (.invokevirtual 149, 3, [62, 3, 2, 0], .null), (.astore 5, 2, [5], .null), (.aload 5, 2, [5], .null), (.getfield 38, 3, [4, 1, 0], .null), (.iconst 4, 1, [], .int 4), (.if_icmp .lt 13, 3, [90, 3, 5], .null), (.aload_n 0, 1, [0], .null), (.getfield 18, 3, [5, 1, 2], .null), (.iconst 1, 1, [], .int 1), (.invokevirtual 146, 3, [11, 2, 1, 0], .null), (.pop2, 1, [], .null), (.return_, 1, [], .null)]),
  (90, [(.aload 5, 2, [5], .null), (.lload_n 3, 1, [3], .null), (.invokevirtual 153, 3, [31, 2, 9, 0], .null), (.return_, 1, [], .null)])], [[]], [0])
def k_Stepper_makeLinked : aK := ([(0, [(.aload_n 0, 1, [0], .null), (.getfield 18, 3, [5, 1, 2], .null), (.getfield 51, 3, [1, 0, 2], .null), (.invokevirtual 102, 3, [28, 1, 0, 0], .null), (.bipush 48, 2, [], .int 48), (.isub, 1, [], .null), (.istore_n 1, 1, [1], .null), (.aload_n 0, 1, [0], .null), (.getfield 18, 3, [5, 1, 2], .null), (.getfield 51, 3, [1, 0, 2], .null), (.invokevirtual 102, 3, [28, 1, 0, 0], .null), (.invokestatic 157, 3, [6, 1, 0, 0], .null), (.istore_n 2, 1, [2], .null), (.iload_n 1, 1, [1], .null), (.ifCond .lt 12, 3, [41, 0], .null), (.iload_n 1, 1, [1], .null), (.iconst 3, 1, [], .int 3), (.if_icmp .ge 7, 3, [41, 0], .null), (.iload_n 2, 1, [2], .null), (.ifCond .ge 13, 3, [51, 0, 1, 2], .null), (.nop, 0, [41, 0], .null)]),
  (41, [(.aload_n 0, 1, [0], .null), (.getfield 18, 3, [5, 1, 2], .null), (.iconst 1, 1, [], .int 1), (.invokevirtual 146, 3, [11, 2, 1, 0], .null), (.pop2, 1, [], .null), (.return_, 1, [], .null)]),
  (51, [(.aload_n 0, 1, [0], .null), (.getfield 9, 3, [5, 0, 2], .null), (.iload_n 1, 1, [1], .null), (.iconst 0, 1, [], .int 0), (.invokestatic 161, 3, [42, 1, 1, 0], .null), (.invokevirtual 164, 3, [61, 3, 0, 0], .null), (.istore_n 3, 1, [3], .null), (.iload_n 3, 1, [3], .null), (.ifCond .ge 13, 3, [78, 0, 2, 3], .null), (.aload_n 0, 1, [0], .null), (.getfield 18, 3, [5, 1, 2], .null), (.iconst 1, 1, [], .int 1), (.invokevirtual 146, 3, [11, 2, 1, 0], .null), (.pop2, 1, [], .null), (.return_, 1, [], .null)]),
  (78, [(.aload_n 0, 1, [0], .null), (.getfield 9, 3, [5, 0, 2], .null), (.aload_n 0, 1, [0], .null), (.getfield 22, 3, [5, 2, 0], .null), (.iload_n 3, 1, [3], .null), (.invokevirtual 143, 3, [64, 3, 9, 0], .null), (.aload_n 0, 1, [0], .null), (.getfield 18, 3, [5, 1, 2], .null), (.getfield 168, 3, [1, 1, 2], .null), (.iload_n 2, 1, [2], .null), (.sipush 3000, 3, [], .int 3000), (.iload_n 3, 1, [3], .null), (.iadd, 1, [], .null), (.invokestatic 161, 3, [42, 1, 1, 0], .null), (.lastore, 1, [], .null), (.return_, 1, [], .null)])], [[]], [0])
def k_Stepper_use : aK := ([(0, [(.iload_n 1, 1, [1], .null), (.bipush 126, 2, [], .int 126), (.if_icmp .ne 11, 3, [14, 0, 1, 2], .null), (.aload_n 0, 1, [0], .null), (.lload_n 2, 1, [2], .null), (.putfield 92, 3, [5, 3, 1], .null), (.goto 60, 3, [71], .null)]),
  (14, [(.iload_n 1, 1, [1], .null), (.bipush 36, 2, [], .int 36), (.if_icmp .ne 15, 3, [32, 0, 2], .null), (.aload_n 0, 1, [0], .null), (.lload_n 2, 1, [2], .null), (.iconst 0, 1, [], .int 0), (.invokestatic 135, 3, [48, 2, 0, 0], .null), (.putfield 95, 3, [5, 4, 0], .null), (.goto 42, 3, [71], .null)]),
  (32, [(.lload_n 2, 1, [2], .null), (.invokestatic 139, 3, [55, 1, 0, 0], .null), (.ifCond .eq 26, 3, [62, 0], .null), (.aload_n 0, 1, [0], .null), (.getfield 9, 3, [5, 0, 2], .null), (.aload_n 0, 1, [0], .null), (.getfield 22, 3, [5, 2, 0], .null), (.lload_n 2, 1, [2], .null), (.iconst 0, 1, [], .int 0), (.invokestatic 135, 3, [48, 2, 0, 0], .null), (.sipush 3000, 3, [], .int 3000), (.isub, 1, [], .null), (.invokevirtual 143, 3, [64, 3, 9, 0], .null), (.goto 12, 3, [71], .null)]),
  (62, [(.aload_n 0, 1, [0], .null), (.getfield 18, 3, [5, 1, 2], .null), (.iconst 1, 1, [], .int 1), (.invokevirtual 146, 3, [11, 2, 1, 0], .null), (.pop2, 1, [], .null), (.nop, 0, [71], .null)]),
  (71, [(.return_, 1, [], .null)])], [[]], [0, 1, 2])
def k_Term_ofLeaf : aK := ([(0, [(.iload_n 0, 1, [0], .null), (.sipush 1000, 3, [], .int 1000), (.iadd, 1, [], .null), (.i2l, 1, [], .null), (.lreturn, 1, [], .null)])], [[]], [0])
def k_Term_pair : aK := ([(0, [(.lload_n 0, 1, [0], .null), (.invokestatic 23, 3, [44, 1, 0, 0], .null), (.istore 4, 2, [4], .null), (.lload_n 2, 1, [2], .null), (.invokestatic 23, 3, [44, 1, 0, 0], .null), (.istore 5, 2, [5], .null), (.iload 4, 2, [4], .null), (.iload 5, 2, [5], .null), (.iadd, 1, [], .null), (.iconst 4, 1, [], .int 4), (.if_icmp .le 5, 3, [23, 0, 2, 4, 5], .null), (.lconst 0, 1, [], .long 0), (.lreturn, 1, [], .null)]),
  (23, [(.lload_n 0, 1, [0], .null), (.invokestatic 27, 3, [45, 1, 0, 0], .null), (.getstatic 30, 3, [2], .null), (.iload 4, 2, [4], .null), (.iaload, 1, [], .null), (.iadd, 1, [], .null), (.istore 6, 2, [6], .null), (.lload_n 2, 1, [2], .null), (.invokestatic 27, 3, [45, 1, 0, 0], .null), (.getstatic 30, 3, [2], .null), (.iload 5, 2, [5], .null), (.iaload, 1, [], .null), (.iadd, 1, [], .null), (.istore 7, 2, [7], .null), (.lload_n 0, 1, [0], .null), (.ldc2_w 34, 3, [], .long 281474976710655), (.land, 1, [], .null), (.lload_n 2, 1, [2], .null), (.ldc2_w 34, 3, [], .long 281474976710655), (.land, 1, [], .null), (.iload 4, 2, [4], .null), (.bipush 12, 2, [], .int 12), (.imul, 1, [], .null), (.lshl, 1, [], .null), (.lor, 1, [], .null), (.lstore 8, 2, [8], .null), (.lload 8, 2, [8], .null), (.iload 6, 2, [6], .null), (.getstatic 36, 3, [1], .null), (.iload 5, 2, [5], .null), (.iaload, 1, [], .null), (.imul, 1, [], .null), (.iload 7, 2, [7], .null), (.iadd, 1, [], .null), (.invokestatic 39, 3, [46, 2, 1, 0], .null), (.lreturn, 1, [], .null)])], [[]], [0, 2])
def k_Term_countLeaves : aK := ([(0, [(.iconst 0, 1, [], .int 0), (.istore_n 2, 1, [2], .null), (.iconst 0, 1, [], .int 0), (.istore_n 3, 1, [3], .null), (.nop, 0, [4, 0, 2, 3], .null)]),
  (4, [(.iload_n 3, 1, [3], .null), (.iconst 4, 1, [], .int 4), (.if_icmp .ge 32, 3, [38, 2], .null), (.iload_n 2, 1, [2], .null), (.lload_n 0, 1, [0], .null), (.iload_n 3, 1, [3], .null), (.bipush 12, 2, [], .int 12), (.imul, 1, [], .null), (.lushr, 1, [], .null), (.ldc2_w 17, 3, [], .long 4095), (.land, 1, [], .null), (.lconst 0, 1, [], .long 0), (.lcmp, 1, [], .null), (.ifCond .ne 7, 3, [29, 0, 3], .null), (.iconst 0, 1, [], .int 0), (.goto 4, 3, [30, 0, 3], .null)]),
  (29, [(.iconst 1, 1, [], .int 1), (.nop, 0, [30, 0, 3], .null)]),
  (30, [(.iadd, 1, [], .null), (.istore_n 2, 1, [2], .null), (.iinc 3 1, 3, [3], .int 1), (.goto (-31), 3, [4, 0, 2, 3], .null)]),
  (38, [(.iload_n 2, 1, [2], .null), (.ireturn, 1, [0], .null)])], [[]], [0])
def k_Term_shapeOf : aK := ([(0, [(.lload_n 0, 1, [0], .null), (.bipush 48, 2, [], .int 48), (.lushr, 1, [], .null), (.l2i, 1, [], .null), (.sipush 4095, 3, [], .int 4095), (.iand, 1, [], .null), (.ireturn, 1, [0], .null)])], [[]], [0])
def k_Term_build : aK := ([(0, [(.lload_n 0, 1, [0], .null), (.iload_n 2, 1, [2], .null), (.i2l, 1, [], .null), (.bipush 48, 2, [], .int 48), (.lshl, 1, [], .null), (.lor, 1, [], .null), (.lreturn, 1, [], .null)])], [[]], [0, 2])
def k_Term_isSignal : aK := ([(0, [(.lload_n 0, 1, [0], .null), (.ldc2_w 11, 3, [], .long 4611686018427387904), (.land, 1, [], .null), (.lconst 0, 1, [], .long 0), (.lcmp, 1, [], .null), (.ifCond .eq 7, 3, [14], .null), (.iconst 1, 1, [], .int 1), (.goto 4, 3, [15], .null)]),
  (14, [(.iconst 0, 1, [], .int 0), (.nop, 0, [15], .null)]),
  (15, [(.ireturn, 1, [3], .null)])], [[]], [0])
def k_Term_leafAt : aK := ([(0, [(.lload_n 0, 1, [0], .null), (.iload_n 2, 1, [2], .null), (.bipush 12, 2, [], .int 12), (.imul, 1, [], .null), (.lushr, 1, [], .null), (.l2i, 1, [], .null), (.sipush 4095, 3, [], .int 4095), (.iand, 1, [], .null), (.istore_n 3, 1, [3], .null), (.iload_n 3, 1, [3], .null), (.ifCond .ne 9, 3, [22, 3], .null), (.sipush (-5000), 3, [], .int (-5000)), (.goto 8, 3, [27], .null)]),
  (22, [(.iload_n 3, 1, [3], .null), (.sipush 1000, 3, [], .int 1000), (.isub, 1, [], .null), (.nop, 0, [27], .null)]),
  (27, [(.ireturn, 1, [0], .null)])], [[]], [0, 2])
def k_Term_signal : aK := ([(0, [(.ldc2_w 11, 3, [], .long 4611686018427387904), (.iload_n 0, 1, [0], .null), (.invokestatic 13, 3, [42, 1, 1, 0], .null), (.lor, 1, [], .null), (.lreturn, 1, [], .null)])], [[]], [0])
def k_Term_isPair : aK := ([(0, [(.lload_n 0, 1, [0], .null), (.ldc2_w 17, 3, [], .long 4095), (.lcmp, 1, [], .null), (.ifCond .le 7, 3, [12], .null), (.iconst 1, 1, [], .int 1), (.goto 4, 3, [13], .null)]),
  (12, [(.iconst 0, 1, [], .int 0), (.nop, 0, [13], .null)]),
  (13, [(.ireturn, 1, [3], .null)])], [[]], [0])
def k_Term_left : aK := ([(0, [(.lload_n 0, 1, [0], .null), (.invokestatic 43, 3, [52, 1, 0, 0], .null), (.istore_n 2, 1, [2], .null), (.lload_n 0, 1, [0], .null), (.invokestatic 23, 3, [44, 1, 0, 0], .null), (.iload_n 2, 1, [2], .null), (.isub, 1, [], .null), (.istore_n 3, 1, [3], .null), (.lload_n 0, 1, [0], .null), (.lconst 1, 1, [], .long 1), (.iload_n 2, 1, [2], .null), (.bipush 12, 2, [], .int 12), (.imul, 1, [], .null), (.lshl, 1, [], .null), (.lconst 1, 1, [], .long 1), (.lsub, 1, [], .null), (.land, 1, [], .null), (.lstore 4, 2, [4], .null), (.lload 4, 2, [4], .null), (.lload_n 0, 1, [0], .null), (.invokestatic 27, 3, [45, 1, 0, 0], .null), (.getstatic 36, 3, [1], .null), (.iload_n 3, 1, [3], .null), (.iaload, 1, [], .null), (.idiv, 1, [], .null), (.getstatic 30, 3, [2], .null), (.iload_n 2, 1, [2], .null), (.iaload, 1, [], .null), (.isub, 1, [], .null), (.invokestatic 39, 3, [46, 2, 1, 0], .null), (.lreturn, 1, [], .null)])], [[]], [0])
def k_Term_countLeftLeaves : aK := ([(0, [(.lload_n 0, 1, [0], .null), (.invokestatic 23, 3, [44, 1, 0, 0], .null), (.istore_n 2, 1, [2], .null), (.iconst 0, 1, [], .int 0), (.istore_n 3, 1, [3], .null), (.iconst 1, 1, [], .int 1), (.istore 4, 2, [4], .null), (.nop, 0, [10, 0, 2, 3, 4], .null)]),
  (10, [(.iload 4, 2, [4], .null), (.iload_n 2, 1, [2], .null), (.if_icmp .ge 43, 3, [56, 2], .null), (.lload_n 0, 1, [0], .null), (.invokestatic 27, 3, [45, 1, 0, 0], .null), (.getstatic 36, 3, [1], .null), (.iload_n 2, 1, [2], .null), (.iload 4, 2, [4], .null), (.isub, 1, [], .null), (.iaload, 1, [], .null), (.idiv, 1, [], .null), (.bipush 10, 2, [], .int 10), (.irem, 1, [], .null), (.istore 5, 2, [5], .null), (.iload_n 3, 1, [3], .null), (.bipush 8, 2, [], .int 8), (.iload 5, 2, [5], .null), (.ishr, 1, [], .null), (.iadd, 1, [], .null), (.istore_n 3, 1, [3], .null), (.iload_n 3, 1, [3], .null), (.iconst 4, 1, [], .int 4), (.if_icmp .lt 6, 3, [50, 0, 2, 3, 4], .null), (.iload 4, 2, [4], .null), (.ireturn, 1, [0], .null)]),
  (50, [(.iinc 4 1, 3, [4], .int 1), (.goto (-43), 3, [10, 0, 2, 3, 4], .null)]),
  (56, [(.iload_n 2, 1, [2], .null), (.ireturn, 1, [0], .null)])], [[]], [0])
def k_Term_right : aK := ([(0, [(.lload_n 0, 1, [0], .null), (.invokestatic 43, 3, [52, 1, 0, 0], .null), (.istore_n 2, 1, [2], .null), (.lload_n 0, 1, [0], .null), (.invokestatic 23, 3, [44, 1, 0, 0], .null), (.iload_n 2, 1, [2], .null), (.isub, 1, [], .null), (.istore_n 3, 1, [3], .null), (.lload_n 0, 1, [0], .null), (.ldc2_w 34, 3, [], .long 281474976710655), (.land, 1, [], .null), (.iload_n 2, 1, [2], .null), (.bipush 12, 2, [], .int 12), (.imul, 1, [], .null), (.lushr, 1, [], .null), (.lstore 4, 2, [4], .null), (.lload 4, 2, [4], .null), (.lload_n 0, 1, [0], .null), (.invokestatic 27, 3, [45, 1, 0, 0], .null), (.getstatic 36, 3, [1], .null), (.iload_n 3, 1, [3], .null), (.iaload, 1, [], .null), (.irem, 1, [], .null), (.getstatic 30, 3, [2], .null), (.iload_n 3, 1, [3], .null), (.iaload, 1, [], .null), (.isub, 1, [], .null), (.invokestatic 39, 3, [46, 2, 1, 0], .null), (.lreturn, 1, [], .null)])], [[]], [0])
def k_Term_isInt : aK := ([(0, [(.lload_n 0, 1, [0], .null), (.ldc2_w 19, 3, [], .long 1999), (.lcmp, 1, [], .null), (.ifCond .gt 7, 3, [12], .null), (.iconst 1, 1, [], .int 1), (.goto 4, 3, [13], .null)]),
  (12, [(.iconst 0, 1, [], .int 0), (.nop, 0, [13], .null)]),
  (13, [(.ireturn, 1, [3], .null)])], [[]], [0])
def k_Term_isActor : aK := ([(0, [(.lload_n 0, 1, [0], .null), (.ldc2_w 21, 3, [], .long 4000), (.lcmp, 1, [], .null), (.ifCond .lt 15, 3, [20], .null), (.lload_n 0, 1, [0], .null), (.ldc2_w 17, 3, [], .long 4095), (.lcmp, 1, [], .null), (.ifCond .gt 7, 3, [20], .null), (.iconst 1, 1, [], .int 1), (.goto 4, 3, [21], .null)]),
  (20, [(.iconst 0, 1, [], .int 0), (.nop, 0, [21], .null)]),
  (21, [(.ireturn, 1, [3], .null)])], [[]], [0])
def k_Text_init : aK := ([(0, [(.aload_n 0, 1, [0], .null), (.invokespecial 3, 3, [1002], .null), (.aload_n 0, 1, [0], .null), (.bipush 60, 2, [], .int 60), (.newarray .char, 2, [13], .null), (.putfield 9, 3, [6, 0, 2], .null), (.return_, 1, [], .null)])], [[]], [0])
def k_Text_append : aK := ([(0, [(.aload_n 0, 1, [0], .null), (.getfield 15, 3, [6, 1, 0], .null), (.bipush 60, 2, [], .int 60), (.if_icmp .ge 23, 3, [29], .null), (.aload_n 0, 1, [0], .null), (.getfield 9, 3, [6, 0, 2], .null), (.aload_n 0, 1, [0], .null), (.getfield 15, 3, [6, 1, 0], .null), (.iload_n 1, 1, [1], .null), (.castore, 1, [], .null), (.aload_n 0, 1, [0], .null), (.dup, 1, [], .null), (.getfield 15, 3, [6, 1, 0], .null), (.iconst 1, 1, [], .int 1), (.iadd, 1, [], .null), (.putfield 15, 3, [6, 1, 0], .null), (.nop, 0, [29], .null)]),
  (29, [(.return_, 1, [], .null)])], [[]], [0, 1])
def k_Text_countClauses : aK := ([(0, [(.iconst 0, 1, [], .int 0), (.istore_n 1, 1, [1], .null), (.iconst 0, 1, [], .int 0), (.istore_n 2, 1, [2], .null), (.nop, 0, [4, 0, 1, 2], .null)]),
  (4, [(.iload_n 2, 1, [2], .null), (.aload_n 0, 1, [0], .null), (.getfield 15, 3, [6, 1, 0], .null), (.if_icmp .ge 28, 3, [37, 1], .null), (.iload_n 1, 1, [1], .null), (.aload_n 0, 1, [0], .null), (.getfield 9, 3, [6, 0, 2], .null), (.iload_n 2, 1, [2], .null), (.caload, 1, [], .null), (.bipush 59, 2, [], .int 59), (.if_icmp .ne 7, 3, [28, 0, 2], .null), (.iconst 1, 1, [], .int 1), (.goto 4, 3, [29, 0, 2], .null)]),
  (28, [(.iconst 0, 1, [], .int 0), (.nop, 0, [29, 0, 2], .null)]),
  (29, [(.iadd, 1, [], .null), (.istore_n 1, 1, [1], .null), (.iinc 2 1, 3, [2], .int 1), (.goto (-30), 3, [4, 0, 1, 2], .null)]),
  (37, [(.iload_n 1, 1, [1], .null), (.ireturn, 1, [0], .null)])], [[]], [0])
def k_Text_copyFrom : aK := ([(0, [(.aload_n 1, 1, [1], .null), (.getfield 9, 3, [6, 0, 2], .null), (.iconst 0, 1, [], .int 0), (.aload_n 0, 1, [0], .null), (.getfield 9, 3, [6, 0, 2], .null), (.iconst 0, 1, [], .int 0), (.bipush 60, 2, [], .int 60), (.invokestatic 19, 3, [1001], .null), (.aload_n 0, 1, [0], .null), (.aload_n 1, 1, [1], .null), (.getfield 15, 3, [6, 1, 0], .null), (.putfield 15, 3, [6, 1, 0], .null), (.return_, 1, [], .null)])], [[]], [0, 1])
def k_World_init : aK := ([(0, [(.aload_n 0, 1, [0], .null), (.invokespecial 3, 3, [1002], .null), (.aload_n 0, 1, [0], .null), (.iconst 3, 1, [], .int 3), (.anewarray 9, 3, [14], .null), (.putfield 11, 3, [7, 0, 2], .null), (.aload_n 0, 1, [0], .null), (.iconst 3, 1, [], .int 3), (.newarray .boolean, 2, [12], .null), (.putfield 17, 3, [7, 1, 2], .null), (.iconst 0, 1, [], .int 0), (.istore_n 1, 1, [1], .null), (.nop, 0, [21, 0, 1], .null)]),
  (21, [(.iload_n 1, 1, [1], .null), (.iconst 3, 1, [], .int 3), (.if_icmp .ge 29, 3, [52, 0], .null), (.aload_n 0, 1, [0], .null), (.getfield 11, 3, [7, 0, 2], .null), (.iload_n 1, 1, [1], .null), (.new 9, 3, [6, 0], .null), (.dup, 1, [], .null), (.invokespecial 21, 3, [56, 1, 9, 0], .null), (.aastore, 1, [14, 6], .null), (.aload_n 0, 1, [0], .null), (.getfield 17, 3, [7, 1, 2], .null), (.iload_n 1, 1, [1], .null), (.iconst 1, 1, [], .int 1), (.bastore, 1, [], .null), (.iinc 1 1, 3, [1], .int 1), (.goto (-28), 3, [21, 0, 1], .null)]),
  (52, [(.aload_n 0, 1, [0], .null), (.bipush 6, 2, [], .int 6), (.anewarray 22, 3, [15], .null), (.putfield 24, 3, [7, 2, 2], .null), (.iconst 0, 1, [], .int 0), (.istore_n 1, 1, [1], .null), (.nop, 0, [63, 0, 1], .null)]),
  (63, [(.iload_n 1, 1, [1], .null), (.bipush 6, 2, [], .int 6), (.if_icmp .ge 22, 3, [88, 0], .null), (.aload_n 0, 1, [0], .null), (.getfield 24, 3, [7, 2, 2], .null), (.iload_n 1, 1, [1], .null), (.new 22, 3, [0, 0], .null), (.dup, 1, [], .null), (.invokespecial 28, 3, [0, 1, 9, 0], .null), (.aastore, 1, [15, 0], .null), (.iinc 1 1, 3, [1], .int 1), (.goto (-22), 3, [63, 0, 1], .null)]),
  (88, [(.aload_n 0, 1, [0], .null), (.bipush 42, 2, [], .int 42), (.anewarray 29, 3, [16], .null), (.putfield 31, 3, [7, 3, 2], .null), (.iconst 0, 1, [], .int 0), (.istore_n 1, 1, [1], .null), (.nop, 0, [99, 0, 1], .null)]),
  (99, [(.iload_n 1, 1, [1], .null), (.aload_n 0, 1, [0], .null), (.getfield 31, 3, [7, 3, 2], .null), (.arraylength, 1, [16], .null), (.if_icmp .ge 24, 3, [129], .null), (.aload_n 0, 1, [0], .null), (.getfield 31, 3, [7, 3, 2], .null), (.iload_n 1, 1, [1], .null), (.new 29, 3, [4, 0], .null), (.dup, 1, [], .null), (.bipush 8, 2, [], .int 8), (.invokespecial 35, 3, [30, 2, 9, 0], .null), (.aastore, 1, [16, 4], .null), (.iinc 1 1, 3, [1], .int 1), (.goto (-27), 3, [99, 0, 1], .null)]),
  (129, [(.return_, 1, [], .null)])], [[]], [0])
def k_World_make : aK := ([(0, [(.aload_n 0, 1, [0], .null), (.getfield 17, 3, [7, 1, 2], .null), (.iload_n 1, 1, [1], .null), (.baload, 1, [], .null), (.ifCond .ne 5, 3, [11, 0, 1, 2], .null), (.iconst (-1), 1, [], .int (-1)), (.ireturn, 1, [0], .null)]),
  (11, [(.iconst 0, 1, [], .int 0), (.istore 4, 2, [4], .null), (.nop, 0, [14, 0, 1, 2, 4], .null)]),
  (14, [(.iload 4, 2, [4], .null), (.bipush 6, 2, [], .int 6), (.if_icmp .ge 42, 3, [60], .null), (.aload_n 0, 1, [0], .null), (.getfield 24, 3, [7, 2, 2], .null), (.iload 4, 2, [4], .null), (.aaload, 1, [15], .null), (.getfield 38, 3, [0, 2, 0], .null), (.ifCond .ne 23, 3, [54, 0, 1, 2, 4], .null), (.aload_n 0, 1, [0], .null), (.getfield 24, 3, [7, 2, 2], .null), (.iload 4, 2, [4], .null), (.aaload, 1, [15], .null), (.aload_n 0, 1, [0], .null), (.getfield 11, 3, [7, 0, 2], .null), (.iload_n 1, 1, [1], .null), (.aaload, 1, [14], .null), (.lload_n 2, 1, [2], .null), (.invokevirtual 42, 3, [1, 3, 9, 0], .null), (.iload 4, 2, [4], .null), (.ireturn, 1, [0], .null)]),
  (54, [(.iinc 4 1, 3, [4], .int 1), (.goto (-43), 3, [14, 0, 1, 2, 4], .null)]),
  (60, [(.iconst (-1), 1, [], .int (-1)), (.ireturn, 1, [0], .null)])], [[]], [0, 1, 2])
def k_World_way : aK := ([(0, [(.aload_n 0, 1, [0], .null), (.getfield 31, 3, [7, 3, 2], .null), (.iload_n 1, 1, [1], .null), (.bipush 6, 2, [], .int 6), (.imul, 1, [], .null), (.iload_n 2, 1, [2], .null), (.iadd, 1, [], .null), (.aaload, 1, [16], .null), (.areturn, 1, [], .null)])], [[]], [0, 1, 2])
def k_World_end : aK := ([(0, [(.aload_n 0, 1, [0], .null), (.getfield 24, 3, [7, 2, 2], .null), (.iload_n 1, 1, [1], .null), (.aaload, 1, [15], .null), (.getfield 46, 3, [0, 5, 0], .null), (.istore_n 3, 1, [3], .null), (.aload_n 0, 1, [0], .null), (.getfield 24, 3, [7, 2, 2], .null), (.iload_n 1, 1, [1], .null), (.aaload, 1, [15], .null), (.iload_n 2, 1, [2], .null), (.invokevirtual 49, 3, [2, 2, 9, 0], .null), (.iconst 0, 1, [], .int 0), (.istore 4, 2, [4], .null), (.nop, 0, [23, 0, 1, 2, 3, 4], .null)]),
  (23, [(.iload 4, 2, [4], .null), (.bipush 6, 2, [], .int 6), (.if_icmp .ge 52, 3, [79], .null), (.iload_n 3, 1, [3], .null), (.iload 4, 2, [4], .null), (.ishr, 1, [], .null), (.iconst 1, 1, [], .int 1), (.iand, 1, [], .null), (.ifCond .eq 37, 3, [73, 0, 1, 2, 3, 4], .null), (.aload_n 0, 1, [0], .null), (.iload_n 1, 1, [1], .null), (.iload 4, 2, [4], .null), (.invokevirtual 52, 3, [62, 3, 2, 0], .null), (.iload_n 2, 1, [2], .null), (.invokestatic 56, 3, [49, 1, 1, 0], .null), (.invokevirtual 62, 3, [31, 2, 9, 0], .null), (.aload_n 0, 1, [0], .null), (.getfield 24, 3, [7, 2, 2], .null), (.iload 4, 2, [4], .null), (.aaload, 1, [15], .null), (.dup, 1, [], .null), (.getfield 46, 3, [0, 5, 0], .null), (.iconst 1, 1, [], .int 1), (.iload_n 1, 1, [1], .null), (.ishl, 1, [], .null), (.iconst (-1), 1, [], .int (-1)), (.ixor, 1, [], .null), (.iand, 1, [], .null), (.putfield 46, 3, [0, 5, 0], .null), (.nop, 0, [73, 0, 1, 2, 3, 4], .null)]),
  (73, [(.iinc 4 1, 3, [4], .int 1), (.goto (-53), 3, [23, 0, 1, 2, 3, 4], .null)]),
  (79, [(.return_, 1, [], .null)])], [[]], [0, 1, 2])
def k_World_link : aK := ([(0, [(.iload_n 1, 1, [1], .null), (.iload_n 2, 1, [2], .null), (.if_icmp .eq 50, 3, [52], .null), (.aload_n 0, 1, [0], .null), (.getfield 24, 3, [7, 2, 2], .null), (.iload_n 2, 1, [2], .null), (.aaload, 1, [15], .null), (.getfield 38, 3, [0, 2, 0], .null), (.iconst 1, 1, [], .int 1), (.if_icmp .ne 37, 3, [52], .null), (.aload_n 0, 1, [0], .null), (.getfield 24, 3, [7, 2, 2], .null), (.iload_n 1, 1, [1], .null), (.aaload, 1, [15], .null), (.dup, 1, [], .null), (.getfield 46, 3, [0, 5, 0], .null), (.iconst 1, 1, [], .int 1), (.iload_n 2, 1, [2], .null), (.ishl, 1, [], .null), (.ior, 1, [], .null), (.putfield 46, 3, [0, 5, 0], .null), (.aload_n 0, 1, [0], .null), (.getfield 24, 3, [7, 2, 2], .null), (.iload_n 2, 1, [2], .null), (.aaload, 1, [15], .null), (.dup, 1, [], .null), (.getfield 46, 3, [0, 5, 0], .null), (.iconst 1, 1, [], .int 1), (.iload_n 1, 1, [1], .null), (.ishl, 1, [], .null), (.ior, 1, [], .null), (.putfield 46, 3, [0, 5, 0], .null), (.nop, 0, [52], .null)]),
  (52, [(.return_, 1, [], .null)])], [[]], [0, 1, 2])
def k_World_countFree : aK := ([(0, [(.iconst 0, 1, [], .int 0), (.istore_n 1, 1, [1], .null), (.iconst 0, 1, [], .int 0), (.istore_n 2, 1, [2], .null), (.nop, 0, [4, 0, 1, 2], .null)]),
  (4, [(.iload_n 2, 1, [2], .null), (.bipush 6, 2, [], .int 6), (.if_icmp .ge 29, 3, [36, 1], .null), (.iload_n 1, 1, [1], .null), (.aload_n 0, 1, [0], .null), (.getfield 24, 3, [7, 2, 2], .null), (.iload_n 2, 1, [2], .null), (.aaload, 1, [15], .null), (.getfield 38, 3, [0, 2, 0], .null), (.ifCond .ne 7, 3, [27, 0, 2], .null), (.iconst 1, 1, [], .int 1), (.goto 4, 3, [28, 0, 2], .null)]),
  (27, [(.iconst 0, 1, [], .int 0), (.nop, 0, [28, 0, 2], .null)]),
  (28, [(.iadd, 1, [], .null), (.istore_n 1, 1, [1], .null), (.iinc 2 1, 3, [2], .int 1), (.goto (-29), 3, [4, 0, 1, 2], .null)]),
  (36, [(.iload_n 1, 1, [1], .null), (.ireturn, 1, [0], .null)])], [[]], [0])
def k_AM_init : aK := ([(0, [(.aload_n 0, 1, [0], .null), (.invokespecial 3, 3, [1002], .null), (.aload_n 0, 1, [0], .null), (.new 9, 3, [7, 0], .null), (.dup, 1, [], .null), (.invokespecial 11, 3, [60, 1, 9, 0], .null), (.putfield 12, 3, [8, 0, 2], .null), (.aload_n 0, 1, [0], .null), (.new 16, 3, [2, 0], .null), (.dup, 1, [], .null), (.invokespecial 18, 3, [13, 1, 9, 0], .null), (.putfield 19, 3, [8, 1, 2], .null), (.aload_n 0, 1, [0], .null), (.new 23, 3, [5, 0], .null), (.dup, 1, [], .null), (.aload_n 0, 1, [0], .null), (.getfield 12, 3, [8, 0, 2], .null), (.invokespecial 25, 3, [34, 2, 9, 0], .null), (.putfield 28, 3, [8, 2, 2], .null), (.return_, 1, [], .null)])], [[]], [0])
def k_AM_type : aK := ([(0, [(.iload_n 1, 1, [1], .null), (.iconst 0, 1, [], .int 0), (.iconst 2, 1, [], .int 2), (.invokestatic 32, 3, [68, 3, 9, 0], .null), (.lload_n 2, 1, [2], .null), (.invokestatic 36, 3, [69, 1, 0, 0], .null), (.istore 4, 2, [4], .null), (.iload 4, 2, [4], .null), (.iconst 0, 1, [], .int 0), (.bipush 8, 2, [], .int 8), (.invokestatic 32, 3, [68, 3, 9, 0], .null), (.aload_n 0, 1, [0], .null), (.getfield 12, 3, [8, 0, 2], .null), (.getfield 40, 3, [7, 0, 2], .null), (.iload_n 1, 1, [1], .null), (.aaload, 1, [14], .null), (.astore 5, 2, [5], .null), (.aload 5, 2, [5], .null), (.getfield 44, 3, [6, 1, 0], .null), (.iload 4, 2, [4], .null), (.iadd, 1, [], .null), (.bipush 60, 2, [], .int 60), (.if_icmp .le 13, 3, [54, 0, 1, 2, 5], .null), (.new 50, 3, [999, 0], .null)]),
  (54, [(.iconst 0, 1, [], .int 0), (.istore 6, 2, [6], .null), (.nop, 0, [57, 0, 1, 2, 5, 6], .null)]),
  (57, [(.iload 6, 2, [6], .null), (.bipush 8, 2, [], .int 8), (.if_icmp .ge 30, 3, [91, 0, 1, 5], .null), (.lload_n 2, 1, [2], .null), (.iload 6, 2, [6], .null), (.invokestatic 57, 3, [70, 2, 0, 0], .null), (.istore 7, 2, [7], .null), (.iload 7, 2, [7], .null), (.ifCond .eq 11, 3, [85, 0, 1, 2, 5, 6], .null), (.aload 5, 2, [5], .null), (.iload 7, 2, [7], .null), (.i2c, 1, [], .null), (.invokevirtual 61, 3, [57, 2, 9, 0], .null), (.nop, 0, [85, 0, 1, 2, 5, 6], .null)]),
  (85, [(.iinc 6 1, 3, [6], .int 1), (.goto (-31), 3, [57, 0, 1, 2, 5, 6], .null)]),
  (91, [(.aload_n 0, 1, [0], .null), (.getfield 12, 3, [8, 0, 2], .null), (.getfield 65, 3, [7, 1, 2], .null), (.iload_n 1, 1, [1], .null), (.iconst 0, 1, [], .int 0), (.bastore, 1, [], .null), (.aload 5, 2, [5], .null), (.getfield 44, 3, [6, 1, 0], .null), (.ireturn, 1, [0], .null)])], [[]], [0, 1, 2])
def k_AM_needRange : aK := ([(0, [(.iload_n 0, 1, [0], .null), (.iload_n 1, 1, [1], .null), (.if_icmp .lt 8, 3, [10], .null), (.iload_n 0, 1, [0], .null), (.iload_n 2, 1, [2], .null), (.if_icmp .le 13, 3, [20], .null), (.nop, 0, [10], .null)]),
  (10, [(.new 207, 3, [999, 1], .null)]),
  (20, [(.return_, 1, [], .null)])], [[]], [0, 1, 2])
def k_AM_countSigns : aK := ([(0, [(.iconst 0, 1, [], .int 0), (.istore_n 2, 1, [2], .null), (.iconst 0, 1, [], .int 0), (.istore_n 3, 1, [3], .null), (.nop, 0, [4, 0, 2, 3], .null)]),
  (4, [(.iload_n 3, 1, [3], .null), (.bipush 8, 2, [], .int 8), (.if_icmp .ge 50, 3, [57, 2], .null), (.lload_n 0, 1, [0], .null), (.iload_n 3, 1, [3], .null), (.invokestatic 57, 3, [70, 2, 0, 0], .null), (.istore 4, 2, [4], .null), (.iload 4, 2, [4], .null), (.ifCond .eq 19, 3, [38, 0, 2, 3, 4], .null), (.iload 4, 2, [4], .null), (.bipush 33, 2, [], .int 33), (.if_icmp .lt 10, 3, [36], .null), (.iload 4, 2, [4], .null), (.bipush 126, 2, [], .int 126), (.if_icmp .le 5, 3, [38, 0, 2, 3, 4], .null), (.nop, 0, [36], .null)]),
  (36, [(.iconst (-1), 1, [], .int (-1)), (.ireturn, 1, [0], .null)]),
  (38, [(.iload_n 2, 1, [2], .null), (.iload 4, 2, [4], .null), (.ifCond .ne 7, 3, [48, 0, 3], .null), (.iconst 0, 1, [], .int 0), (.goto 4, 3, [49, 0, 3], .null)]),
  (48, [(.iconst 1, 1, [], .int 1), (.nop, 0, [49, 0, 3], .null)]),
  (49, [(.iadd, 1, [], .null), (.istore_n 2, 1, [2], .null), (.iinc 3 1, 3, [3], .int 1), (.goto (-50), 3, [4, 0, 2, 3], .null)]),
  (57, [(.iload_n 2, 1, [2], .null), (.ireturn, 1, [0], .null)])], [[]], [0])
def k_AM_byteAt : aK := ([(0, [(.lload_n 0, 1, [0], .null), (.bipush 8, 2, [], .int 8), (.bipush 7, 2, [], .int 7), (.iload_n 2, 1, [2], .null), (.isub, 1, [], .null), (.imul, 1, [], .null), (.lushr, 1, [], .null), (.l2i, 1, [], .null), (.sipush 255, 3, [], .int 255), (.iand, 1, [], .null), (.ireturn, 1, [0], .null)])], [[]], [0, 2])
def k_AM_clear : aK := ([(0, [(.iload_n 1, 1, [1], .null), (.iconst 0, 1, [], .int 0), (.iconst 2, 1, [], .int 2), (.invokestatic 32, 3, [68, 3, 9, 0], .null), (.aload_n 0, 1, [0], .null), (.getfield 12, 3, [8, 0, 2], .null), (.getfield 40, 3, [7, 0, 2], .null), (.iload_n 1, 1, [1], .null), (.aaload, 1, [14], .null), (.astore_n 2, 1, [2], .null), (.aload_n 2, 1, [2], .null), (.getfield 44, 3, [6, 1, 0], .null), (.istore_n 3, 1, [3], .null), (.aload_n 2, 1, [2], .null), (.iconst 0, 1, [], .int 0), (.putfield 44, 3, [6, 1, 0], .null), (.aload_n 0, 1, [0], .null), (.getfield 12, 3, [8, 0, 2], .null), (.getfield 65, 3, [7, 1, 2], .null), (.iload_n 1, 1, [1], .null), (.iconst 1, 1, [], .int 1), (.bastore, 1, [], .null), (.iload_n 3, 1, [3], .null), (.ireturn, 1, [0], .null)])], [[]], [0, 1])
def k_AM_check : aK := ([(0, [(.iload_n 1, 1, [1], .null), (.iconst 0, 1, [], .int 0), (.iconst 2, 1, [], .int 2), (.invokestatic 32, 3, [68, 3, 9, 0], .null), (.aload_n 0, 1, [0], .null), (.getfield 12, 3, [8, 0, 2], .null), (.getfield 40, 3, [7, 0, 2], .null), (.iload_n 1, 1, [1], .null), (.aaload, 1, [14], .null), (.astore_n 2, 1, [2], .null), (.aload_n 0, 1, [0], .null), (.getfield 19, 3, [8, 1, 2], .null), (.aload_n 2, 1, [2], .null), (.invokevirtual 69, 3, [14, 2, 0, 0], .null), (.bipush (-2), 2, [], .int (-2)), (.if_icmp .eq 13, 3, [39, 0, 1, 2], .null), (.new 73, 3, [999, 4], .null)]),
  (39, [(.aload_n 0, 1, [0], .null), (.getfield 12, 3, [8, 0, 2], .null), (.getfield 65, 3, [7, 1, 2], .null), (.iload_n 1, 1, [1], .null), (.iconst 1, 1, [], .int 1), (.bastore, 1, [], .null), (.aload_n 2, 1, [2], .null), (.invokevirtual 78, 3, [58, 1, 0, 0], .null), (.ireturn, 1, [0], .null)])], [[]], [0, 1])
def k_AM_fault : aK := ([(0, [(.iload_n 1, 1, [1], .null), (.iconst 0, 1, [], .int 0), (.iconst 2, 1, [], .int 2), (.invokestatic 32, 3, [68, 3, 9, 0], .null), (.aload_n 0, 1, [0], .null), (.getfield 19, 3, [8, 1, 2], .null), (.aload_n 0, 1, [0], .null), (.getfield 12, 3, [8, 0, 2], .null), (.getfield 40, 3, [7, 0, 2], .null), (.iload_n 1, 1, [1], .null), (.aaload, 1, [14], .null), (.invokevirtual 69, 3, [14, 2, 0, 0], .null), (.ireturn, 1, [0], .null)])], [[]], [0, 1])
def k_AM_spawn : aK := ([(0, [(.iload_n 1, 1, [1], .null), (.iconst 0, 1, [], .int 0), (.iconst 2, 1, [], .int 2), (.invokestatic 32, 3, [68, 3, 9, 0], .null), (.iload_n 2, 1, [2], .null), (.sipush (-999), 3, [], .int (-999)), (.sipush 999, 3, [], .int 999), (.invokestatic 32, 3, [68, 3, 9, 0], .null), (.aload_n 0, 1, [0], .null), (.getfield 12, 3, [8, 0, 2], .null), (.iload_n 1, 1, [1], .null), (.iload_n 2, 1, [2], .null), (.invokestatic 82, 3, [42, 1, 1, 0], .null), (.invokevirtual 88, 3, [61, 3, 0, 0], .null), (.istore_n 3, 1, [3], .null), (.iload_n 3, 1, [3], .null), (.ifCond .ge 13, 3, [43, 3], .null), (.new 50, 3, [999, 0], .null)]),
  (43, [(.iload_n 3, 1, [3], .null), (.ireturn, 1, [0], .null)])], [[]], [0, 1, 2])
def k_AM_send : aK := ([(0, [(.iload_n 1, 1, [1], .null), (.iconst 0, 1, [], .int 0), (.iconst 5, 1, [], .int 5), (.invokestatic 32, 3, [68, 3, 9, 0], .null), (.iload_n 2, 1, [2], .null), (.iconst 0, 1, [], .int 0), (.iconst 3, 1, [], .int 3), (.invokestatic 32, 3, [68, 3, 9, 0], .null), (.iload_n 3, 1, [3], .null), (.iload_n 2, 1, [2], .null), (.iconst 1, 1, [], .int 1), (.if_icmp .ne 7, 3, [22, 0, 1, 2, 3, 4], .null), (.iconst 0, 1, [], .int 0), (.goto 6, 3, [25, 0, 1, 2, 3, 4], .null)]),
  (22, [(.sipush (-999), 3, [], .int (-999)), (.nop, 0, [25, 0, 1, 2, 3, 4], .null)]),
  (25, [(.iload_n 2, 1, [2], .null), (.iconst 1, 1, [], .int 1), (.if_icmp .ne 8, 3, [35, 0, 1, 2, 3, 4], .null), (.bipush 7, 2, [], .int 7), (.goto 6, 3, [38, 0, 1, 2, 3, 4], .null)]),
  (35, [(.sipush 999, 3, [], .int 999), (.nop, 0, [38, 0, 1, 2, 3, 4], .null)]),
  (38, [(.invokestatic 32, 3, [68, 3, 9, 0], .null), (.iload_n 2, 1, [2], .null), (.iconst 2, 1, [], .int 2), (.if_icmp .lt 20, 3, [63, 0, 1, 2, 3, 4], .null), (.iload 4, 2, [4], .null), (.iconst 0, 1, [], .int 0), (.iload_n 2, 1, [2], .null), (.iconst 2, 1, [], .int 2), (.if_icmp .ne 8, 3, [59, 0, 1, 2, 3, 4], .null), (.bipush 7, 2, [], .int 7), (.goto 4, 3, [60, 0, 1, 2, 3, 4], .null)]),
  (59, [(.iconst 5, 1, [], .int 5), (.nop, 0, [60, 0, 1, 2, 3, 4], .null)]),
  (60, [(.invokestatic 32, 3, [68, 3, 9, 0], .null), (.nop, 0, [63, 0, 1, 2, 3, 4], .null)]),
  (63, [(.aload_n 0, 1, [0], .null), (.getfield 12, 3, [8, 0, 2], .null), (.bipush 6, 2, [], .int 6), (.iload_n 1, 1, [1], .null), (.invokevirtual 94, 3, [62, 3, 2, 0], .null), (.astore 5, 2, [5], .null), (.aload 5, 2, [5], .null), (.getfield 98, 3, [4, 1, 0], .null), (.iconst 4, 1, [], .int 4), (.if_icmp .lt 13, 3, [94, 2, 3, 4, 5], .null), (.new 50, 3, [999, 0], .null)]),
  (94, [(.aload 5, 2, [5], .null), (.iload_n 2, 1, [2], .null), (.iload_n 3, 1, [3], .null), (.iload 4, 2, [4], .null), (.invokestatic 105, 3, [76, 3, 1, 0], .null), (.invokevirtual 109, 3, [31, 2, 9, 0], .null), (.aload 5, 2, [5], .null), (.getfield 98, 3, [4, 1, 0], .null), (.ireturn, 1, [0], .null)])], [[]], [0, 1, 2, 3, 4])
def k_AM_outsideMessage : aK := ([(0, [(.iload_n 0, 1, [0], .null), (.tableswitch 57 0 2 #[27, 32, 41], 27, [0, 58, 2, 1, 2, 28, 33, 42], .null)]),
  (28, [(.iload_n 1, 1, [1], .null), (.invokestatic 82, 3, [42, 1, 1, 0], .null), (.lreturn, 1, [], .null)]),
  (33, [(.sipush 2000, 3, [], .int 2000), (.iload_n 1, 1, [1], .null), (.iadd, 1, [], .null), (.invokestatic 82, 3, [42, 1, 1, 0], .null), (.lreturn, 1, [], .null)]),
  (42, [(.sipush 2000, 3, [], .int 2000), (.iload_n 2, 1, [2], .null), (.iadd, 1, [], .null), (.invokestatic 82, 3, [42, 1, 1, 0], .null), (.iload_n 1, 1, [1], .null), (.invokestatic 82, 3, [42, 1, 1, 0], .null), (.invokestatic 214, 3, [43, 2, 1, 0], .null), (.lreturn, 1, [], .null)]),
  (58, [(.sipush 3000, 3, [], .int 3000), (.iload_n 2, 1, [2], .null), (.iadd, 1, [], .null), (.invokestatic 82, 3, [42, 1, 1, 0], .null), (.iload_n 1, 1, [1], .null), (.invokestatic 82, 3, [42, 1, 1, 0], .null), (.invokestatic 214, 3, [43, 2, 1, 0], .null), (.lreturn, 1, [], .null)])], [[]], [0, 1, 2])
def k_AM_deliver : aK := ([(0, [(.iload_n 1, 1, [1], .null), (.iconst 0, 1, [], .int 0), (.bipush 6, 2, [], .int 6), (.invokestatic 32, 3, [68, 3, 9, 0], .null), (.iload_n 2, 1, [2], .null), (.iconst 0, 1, [], .int 0), (.iconst 5, 1, [], .int 5), (.invokestatic 32, 3, [68, 3, 9, 0], .null), (.aload_n 0, 1, [0], .null), (.getfield 12, 3, [8, 0, 2], .null), (.iload_n 1, 1, [1], .null), (.iload_n 2, 1, [2], .null), (.invokevirtual 94, 3, [62, 3, 2, 0], .null), (.astore_n 3, 1, [3], .null), (.aload_n 3, 1, [3], .null), (.getfield 98, 3, [4, 1, 0], .null), (.ifCond .ne 13, 3, [40, 0, 1, 2, 3], .null), (.new 113, 3, [999, 2], .null)]),
  (40, [(.aload_n 3, 1, [3], .null), (.iconst 0, 1, [], .int 0), (.invokevirtual 118, 3, [32, 2, 1, 0], .null), (.lstore 4, 2, [4], .null), (.aload_n 0, 1, [0], .null), (.getfield 12, 3, [8, 0, 2], .null), (.getfield 121, 3, [7, 2, 2], .null), (.iload_n 2, 1, [2], .null), (.aaload, 1, [15], .null), (.astore 6, 2, [6], .null), (.aload 6, 2, [6], .null), (.getfield 125, 3, [0, 2, 0], .null), (.iconst 1, 1, [], .int 1), (.if_icmp .ne 23, 3, [87, 0, 1, 2, 3, 4, 6], .null), (.aload 6, 2, [6], .null), (.getfield 130, 3, [0, 4, 3], .null), (.ifCond .ne 11, 3, [83, 0, 1, 2, 3, 4, 6], .null), (.lload 4, 2, [4], .null), (.invokestatic 134, 3, [47, 1, 0, 0], .null), (.ifCond .ne 7, 3, [87, 0, 1, 2, 3, 4, 6], .null), (.nop, 0, [83, 0, 1, 2, 3, 4, 6], .null)]),
  (83, [(.iconst 1, 1, [], .int 1), (.goto 4, 3, [88, 0, 1, 2, 3, 4, 6], .null)]),
  (87, [(.iconst 0, 1, [], .int 0), (.nop, 0, [88, 0, 1, 2, 3, 4, 6], .null)]),
  (88, [(.istore 7, 2, [7], .null), (.iload 7, 2, [7], .null), (.ifCond .eq 26, 3, [118, 0, 1, 2, 3, 4, 6], .null), (.aload 6, 2, [6], .null), (.getfield 138, 3, [0, 1, 2], .null), (.getfield 98, 3, [4, 1, 0], .null), (.bipush 6, 2, [], .int 6), (.if_icmp .lt 13, 3, [118, 0, 1, 2, 3, 4, 6], .null), (.new 50, 3, [999, 0], .null)]),
  (118, [(.aload_n 3, 1, [3], .null), (.iconst 0, 1, [], .int 0), (.invokevirtual 144, 3, [33, 2, 9, 0], .null), (.aload 6, 2, [6], .null), (.getfield 125, 3, [0, 2, 0], .null), (.iconst 1, 1, [], .int 1), (.if_icmp .eq 5, 3, [134, 0, 1, 2, 4, 6], .null), (.iconst 0, 1, [], .int 0), (.ireturn, 1, [0], .null)]),
  (134, [(.lload 4, 2, [4], .null), (.invokestatic 134, 3, [47, 1, 0, 0], .null), (.ifCond .eq 16, 3, [155, 4, 6], .null), (.aload_n 0, 1, [0], .null), (.iload_n 1, 1, [1], .null), (.iload_n 2, 1, [2], .null), (.lload 4, 2, [4], .null), (.iconst 0, 1, [], .int 0), (.invokestatic 148, 3, [48, 2, 0, 0], .null), (.invokevirtual 151, 3, [78, 4, 0, 0], .null), (.ireturn, 1, [0], .null)]),
  (155, [(.aload 6, 2, [6], .null), (.getfield 138, 3, [0, 1, 2], .null), (.lload 4, 2, [4], .null), (.invokevirtual 109, 3, [31, 2, 9, 0], .null), (.iconst 1, 1, [], .int 1), (.ireturn, 1, [0], .null)])], [[]], [0, 1, 2])
def k_AM_receiveSignal : aK := ([(0, [(.aload_n 0, 1, [0], .null), (.getfield 12, 3, [8, 0, 2], .null), (.getfield 121, 3, [7, 2, 2], .null), (.iload_n 2, 1, [2], .null), (.aaload, 1, [15], .null), (.astore 4, 2, [4], .null), (.aload 4, 2, [4], .null), (.getfield 130, 3, [0, 4, 3], .null), (.ifCond .eq 41, 3, [57, 0, 2, 3], .null), (.sipush 3000, 3, [], .int 3000), (.iload_n 1, 1, [1], .null), (.iadd, 1, [], .null), (.invokestatic 82, 3, [42, 1, 1, 0], .null), (.iload_n 3, 1, [3], .null), (.invokestatic 82, 3, [42, 1, 1, 0], .null), (.invokestatic 214, 3, [43, 2, 1, 0], .null), (.lstore 5, 2, [5], .null), (.aload 4, 2, [4], .null), (.getfield 138, 3, [0, 1, 2], .null), (.sipush 2006, 3, [], .int 2006), (.invokestatic 82, 3, [42, 1, 1, 0], .null), (.lload 5, 2, [5], .null), (.invokestatic 214, 3, [43, 2, 1, 0], .null), (.invokevirtual 109, 3, [31, 2, 9, 0], .null), (.iconst 2, 1, [], .int 2), (.ireturn, 1, [0], .null)]),
  (57, [(.iload_n 3, 1, [3], .null), (.sipush 2000, 3, [], .int 2000), (.if_icmp .ne 5, 3, [66, 0, 2, 3], .null), (.iconst 3, 1, [], .int 3), (.ireturn, 1, [0], .null)]),
  (66, [(.aload_n 0, 1, [0], .null), (.getfield 12, 3, [8, 0, 2], .null), (.iload_n 2, 1, [2], .null), (.iload_n 3, 1, [3], .null), (.invokevirtual 184, 3, [63, 3, 9, 0], .null), (.iconst 4, 1, [], .int 4), (.ireturn, 1, [0], .null)])], [[]], [0, 1, 2, 3])
def k_AM_step : aK := ([(0, [(.aload_n 0, 1, [0], .null), (.iload_n 1, 1, [1], .null), (.invokevirtual 155, 3, [80, 2, 9, 0], .null), (.aload_n 0, 1, [0], .null), (.getfield 28, 3, [8, 2, 2], .null), (.iload_n 1, 1, [1], .null), (.invokevirtual 158, 3, [35, 2, 0, 0], .null), (.istore_n 2, 1, [2], .null), (.iload_n 2, 1, [2], .null), (.ifCond .ge 13, 3, [28, 0, 2], .null), (.new 113, 3, [999, 2], .null)]),
  (28, [(.aload_n 0, 1, [0], .null), (.getfield 28, 3, [8, 2, 2], .null), (.iload_n 2, 1, [2], .null), (.bipush 100, 2, [], .int 100), (.idiv, 1, [], .null), (.invokevirtual 164, 3, [37, 2, 0, 0], .null), (.istore_n 3, 1, [3], .null), (.iload_n 3, 1, [3], .null), (.iconst 1, 1, [], .int 1), (.if_icmp .ne 13, 3, [55, 2, 3], .null), (.new 73, 3, [999, 4], .null)]),
  (55, [(.iload_n 3, 1, [3], .null), (.iconst 2, 1, [], .int 2), (.if_icmp .ne 13, 3, [70, 2], .null), (.new 171, 3, [999, 3], .null)]),
  (70, [(.iload_n 2, 1, [2], .null), (.ireturn, 1, [0], .null)])], [[]], [0, 1])
def k_AM_needAlive : aK := ([(0, [(.iload_n 1, 1, [1], .null), (.iconst 0, 1, [], .int 0), (.iconst 5, 1, [], .int 5), (.invokestatic 32, 3, [68, 3, 9, 0], .null), (.aload_n 0, 1, [0], .null), (.getfield 12, 3, [8, 0, 2], .null), (.getfield 121, 3, [7, 2, 2], .null), (.iload_n 1, 1, [1], .null), (.aaload, 1, [15], .null), (.getfield 125, 3, [0, 2, 0], .null), (.iconst 1, 1, [], .int 1), (.if_icmp .eq 13, 3, [32], .null), (.new 50, 3, [999, 0], .null)]),
  (32, [(.return_, 1, [], .null)])], [[]], [0, 1])
def k_AM_kill : aK := ([(0, [(.aload_n 0, 1, [0], .null), (.iload_n 1, 1, [1], .null), (.invokevirtual 155, 3, [80, 2, 9, 0], .null), (.aload_n 0, 1, [0], .null), (.getfield 12, 3, [8, 0, 2], .null), (.getfield 121, 3, [7, 2, 2], .null), (.iload_n 1, 1, [1], .null), (.aaload, 1, [15], .null), (.getfield 176, 3, [0, 5, 0], .null), (.invokestatic 179, 3, [156, 1, 0, 0], .null), (.istore_n 2, 1, [2], .null), (.aload_n 0, 1, [0], .null), (.getfield 12, 3, [8, 0, 2], .null), (.iload_n 1, 1, [1], .null), (.sipush 2007, 3, [], .int 2007), (.invokevirtual 184, 3, [63, 3, 9, 0], .null), (.iload_n 2, 1, [2], .null), (.ireturn, 1, [0], .null)])], [[]], [0, 1])
def k_AM_reap : aK := ([(0, [(.iload_n 1, 1, [1], .null), (.iconst 0, 1, [], .int 0), (.iconst 5, 1, [], .int 5), (.invokestatic 32, 3, [68, 3, 9, 0], .null), (.aload_n 0, 1, [0], .null), (.getfield 12, 3, [8, 0, 2], .null), (.getfield 121, 3, [7, 2, 2], .null), (.iload_n 1, 1, [1], .null), (.aaload, 1, [15], .null), (.getfield 125, 3, [0, 2, 0], .null), (.iconst 2, 1, [], .int 2), (.if_icmp .eq 13, 3, [32, 0, 1], .null), (.new 50, 3, [999, 0], .null)]),
  (32, [(.aload_n 0, 1, [0], .null), (.getfield 12, 3, [8, 0, 2], .null), (.getfield 121, 3, [7, 2, 2], .null), (.iload_n 1, 1, [1], .null), (.aaload, 1, [15], .null), (.iconst 0, 1, [], .int 0), (.putfield 125, 3, [0, 2, 0], .null), (.aload_n 0, 1, [0], .null), (.getfield 12, 3, [8, 0, 2], .null), (.invokevirtual 190, 3, [65, 1, 0, 0], .null), (.ireturn, 1, [0], .null)])], [[]], [0, 1])
def k_AM_leaf : aK := ([(0, [(.iload_n 3, 1, [3], .null), (.iconst 0, 1, [], .int 0), (.iconst 3, 1, [], .int 3), (.invokestatic 32, 3, [68, 3, 9, 0], .null), (.aload_n 0, 1, [0], .null), (.iload_n 1, 1, [1], .null), (.iload_n 2, 1, [2], .null), (.invokevirtual 193, 3, [84, 3, 1, 0], .null), (.iload_n 3, 1, [3], .null), (.invokestatic 148, 3, [48, 2, 0, 0], .null), (.ireturn, 1, [0], .null)])], [[]], [0, 1, 2, 3])
def k_AM_termOf : aK := ([(0, [(.iload_n 1, 1, [1], .null), (.iconst 0, 1, [], .int 0), (.iconst 5, 1, [], .int 5), (.invokestatic 32, 3, [68, 3, 9, 0], .null), (.iload_n 2, 1, [2], .null), (.iconst 0, 1, [], .int 0), (.bipush 6, 2, [], .int 6), (.invokestatic 32, 3, [68, 3, 9, 0], .null), (.aload_n 0, 1, [0], .null), (.getfield 12, 3, [8, 0, 2], .null), (.getfield 121, 3, [7, 2, 2], .null), (.iload_n 1, 1, [1], .null), (.aaload, 1, [15], .null), (.astore_n 3, 1, [3], .null), (.iload_n 2, 1, [2], .null), (.bipush 6, 2, [], .int 6), (.if_icmp .ne 10, 3, [36, 2, 3], .null), (.aload_n 3, 1, [3], .null), (.getfield 218, 3, [0, 3, 1], .null), (.goto 11, 3, [44], .null)]),
  (36, [(.aload_n 3, 1, [3], .null), (.getfield 138, 3, [0, 1, 2], .null), (.iload_n 2, 1, [2], .null), (.invokevirtual 118, 3, [32, 2, 1, 0], .null), (.nop, 0, [44], .null)]),
  (44, [(.lreturn, 1, [], .null)])], [[]], [0, 1, 2])
def k_AM_shape : aK := ([(0, [(.aload_n 0, 1, [0], .null), (.iload_n 1, 1, [1], .null), (.iload_n 2, 1, [2], .null), (.invokevirtual 193, 3, [84, 3, 1, 0], .null), (.lstore_n 3, 1, [3], .null), (.lload_n 3, 1, [3], .null), (.lconst 0, 1, [], .long 0), (.lcmp, 1, [], .null), (.ifCond .ne 9, 3, [19, 3], .null), (.sipush (-5000), 3, [], .int (-5000)), (.goto 7, 3, [23], .null)]),
  (19, [(.lload_n 3, 1, [3], .null), (.invokestatic 197, 3, [45, 1, 0, 0], .null), (.nop, 0, [23], .null)]),
  (23, [(.ireturn, 1, [0], .null)])], [[]], [0, 1, 2])
def k_AM_about : aK := ([(0, [(.iload_n 1, 1, [1], .null), (.iconst 0, 1, [], .int 0), (.iconst 5, 1, [], .int 5), (.invokestatic 32, 3, [68, 3, 9, 0], .null), (.iload_n 2, 1, [2], .null), (.iconst 0, 1, [], .int 0), (.bipush 12, 2, [], .int 12), (.invokestatic 32, 3, [68, 3, 9, 0], .null), (.aload_n 0, 1, [0], .null), (.getfield 12, 3, [8, 0, 2], .null), (.getfield 121, 3, [7, 2, 2], .null), (.iload_n 1, 1, [1], .null), (.aaload, 1, [15], .null), (.astore_n 3, 1, [3], .null), (.iload_n 2, 1, [2], .null), (.tableswitch 112 0 5 #[40, 45, 53, 66, 85, 90], 40, [0, 136, 4, 0, 1, 2, 3, 64, 69, 77, 90, 109, 114], .null)]),
  (64, [(.aload_n 3, 1, [3], .null), (.getfield 125, 3, [0, 2, 0], .null), (.ireturn, 1, [0], .null)]),
  (69, [(.aload_n 3, 1, [3], .null), (.getfield 138, 3, [0, 1, 2], .null), (.getfield 98, 3, [4, 1, 0], .null), (.ireturn, 1, [0], .null)]),
  (77, [(.aload_n 3, 1, [3], .null), (.getfield 130, 3, [0, 4, 3], .null), (.ifCond .eq 7, 3, [88], .null), (.iconst 1, 1, [], .int 1), (.goto 4, 3, [89], .null)]),
  (88, [(.iconst 0, 1, [], .int 0), (.nop, 0, [89], .null)]),
  (89, [(.ireturn, 1, [0], .null)]),
  (90, [(.aload_n 3, 1, [3], .null), (.getfield 125, 3, [0, 2, 0], .null), (.iconst 2, 1, [], .int 2), (.if_icmp .ne 10, 3, [105], .null), (.aload_n 3, 1, [3], .null), (.getfield 200, 3, [0, 6, 0], .null), (.goto 6, 3, [108], .null)]),
  (105, [(.sipush (-5000), 3, [], .int (-5000)), (.nop, 0, [108], .null)]),
  (108, [(.ireturn, 1, [0], .null)]),
  (109, [(.aload_n 3, 1, [3], .null), (.getfield 176, 3, [0, 5, 0], .null), (.ireturn, 1, [0], .null)]),
  (114, [(.aload_n 3, 1, [3], .null), (.getfield 125, 3, [0, 2, 0], .null), (.iconst 1, 1, [], .int 1), (.if_icmp .ne 13, 3, [132], .null), (.aload_n 3, 1, [3], .null), (.getfield 203, 3, [0, 0, 2], .null), (.invokevirtual 78, 3, [58, 1, 0, 0], .null), (.goto 6, 3, [135], .null)]),
  (132, [(.sipush (-5000), 3, [], .int (-5000)), (.nop, 0, [135], .null)]),
  (135, [(.ireturn, 1, [0], .null)]),
  (136, [(.aload_n 0, 1, [0], .null), (.getfield 12, 3, [8, 0, 2], .null), (.iload_n 2, 1, [2], .null), (.bipush 6, 2, [], .int 6), (.isub, 1, [], .null), (.iload_n 1, 1, [1], .null), (.invokevirtual 94, 3, [62, 3, 2, 0], .null), (.getfield 98, 3, [4, 1, 0], .null), (.ireturn, 1, [0], .null)])], [[]], [0, 1, 2])
def k_Md_init : aK := ([(0, [(.aload_n 0, 1, [0], .null), (.invokespecial 1, 3, [1002], .null), (.aload_n 0, 1, [0], .null), (.sipush 540, 3, [], .int 540), (.newarray .int, 2, [10], .null), (.putfield 7, 3, [9, 0, 2], .null), (.aload_n 0, 1, [0], .null), (.bipush 9, 2, [], .int 9), (.newarray .int, 2, [10], .null), (.putfield 13, 3, [9, 1, 2], .null), (.aload_n 0, 1, [0], .null), (.iconst 3, 1, [], .int 3), (.newarray .boolean, 2, [12], .null), (.putfield 16, 3, [9, 2, 2], .null), (.aload_n 0, 1, [0], .null), (.bipush 6, 2, [], .int 6), (.newarray .int, 2, [10], .null), (.putfield 20, 3, [9, 3, 2], .null), (.aload_n 0, 1, [0], .null), (.bipush 6, 2, [], .int 6), (.newarray .long, 2, [11], .null), (.putfield 23, 3, [9, 4, 2], .null), (.aload_n 0, 1, [0], .null), (.bipush 36, 2, [], .int 36), (.newarray .long, 2, [11], .null), (.putfield 27, 3, [9, 5, 2], .null), (.aload_n 0, 1, [0], .null), (.bipush 6, 2, [], .int 6), (.newarray .int, 2, [10], .null), (.putfield 30, 3, [9, 6, 2], .null), (.aload_n 0, 1, [0], .null), (.bipush 6, 2, [], .int 6), (.newarray .boolean, 2, [12], .null), (.putfield 33, 3, [9, 7, 2], .null), (.aload_n 0, 1, [0], .null), (.bipush 6, 2, [], .int 6), (.newarray .int, 2, [10], .null), (.putfield 36, 3, [9, 8, 2], .null), (.aload_n 0, 1, [0], .null), (.bipush 36, 2, [], .int 36), (.newarray .boolean, 2, [12], .null), (.putfield 39, 3, [9, 9, 2], .null), (.aload_n 0, 1, [0], .null), (.sipush 336, 3, [], .int 336), (.newarray .long, 2, [11], .null), (.putfield 42, 3, [9, 10, 2], .null), (.aload_n 0, 1, [0], .null), (.bipush 42, 2, [], .int 42), (.newarray .int, 2, [10], .null), (.putfield 45, 3, [9, 11, 2], .null), (.aload_n 0, 1, [0], .null), (.bipush 6, 2, [], .int 6), (.newarray .long, 2, [11], .null), (.putfield 48, 3, [9, 12, 2], .null), (.aload_n 0, 1, [0], .null), (.iconst 5, 1, [], .int 5), (.newarray .int, 2, [10], .null), (.putfield 51, 3, [9, 13, 2], .null), (.aload_n 0, 1, [0], .null), (.iconst 5, 1, [], .int 5), (.newarray .boolean, 2, [12], .null), (.putfield 54, 3, [9, 14, 2], .null), (.aload_n 0, 1, [0], .null), (.iconst 5, 1, [], .int 5), (.newarray .long, 2, [11], .null), (.putfield 57, 3, [9, 18, 2], .null), (.iconst 0, 1, [], .int 0), (.istore_n 1, 1, [1], .null), (.nop, 0, [132, 0, 1], .null)]),
  (132, [(.iload_n 1, 1, [1], .null), (.iconst 3, 1, [], .int 3), (.if_icmp .ge 16, 3, [150], .null), (.aload_n 0, 1, [0], .null), (.getfield 16, 3, [9, 2, 2], .null), (.iload_n 1, 1, [1], .null), (.iconst 1, 1, [], .int 1), (.bastore, 1, [], .null), (.iinc 1 1, 3, [1], .int 1), (.goto (-15), 3, [132, 0, 1], .null)]),
  (150, [(.return_, 1, [], .null)])], [[]], [0])
def k_Md_thrown : aK := ([(0, [(.aload_n 0, 1, [0], .null), (.getfield 60, 3, [9, 21, 0], .null), (.ireturn, 1, [0], .null)])], [[]], [0])
def k_Md_type : aK := ([(0, [(.iload_n 1, 1, [1], .null), (.iconst 0, 1, [], .int 0), (.iconst 2, 1, [], .int 2), (.invokestatic 86, 3, [90, 3, 0, 0], .null), (.istore 4, 2, [4], .null), (.iconst 0, 1, [], .int 0), (.istore 5, 2, [5], .null), (.bipush 56, 2, [], .int 56), (.istore 6, 2, [6], .null), (.nop, 0, [15, 0, 1, 2, 4, 5, 6], .null)]),
  (15, [(.iload 6, 2, [6], .null), (.ifCond .lt 48, 3, [65, 0, 1, 2, 4, 5], .null), (.lload_n 2, 1, [2], .null), (.iload 6, 2, [6], .null), (.lshr, 1, [], .null), (.l2i, 1, [], .null), (.sipush 255, 3, [], .int 255), (.iand, 1, [], .null), (.istore 7, 2, [7], .null), (.iload 7, 2, [7], .null), (.ifCond .eq 6, 3, [39, 0, 1, 2, 4, 5, 6, 7], .null), (.iinc 5 1, 3, [5], .int 1), (.nop, 0, [39, 0, 1, 2, 4, 5, 6, 7], .null)]),
  (39, [(.iload 7, 2, [7], .null), (.ifCond .eq 18, 3, [59, 0, 1, 2, 4, 5, 6], .null), (.iload 7, 2, [7], .null), (.bipush 33, 2, [], .int 33), (.bipush 126, 2, [], .int 126), (.invokestatic 86, 3, [90, 3, 0, 0], .null), (.ifCond .ne 6, 3, [59, 0, 1, 2, 4, 5, 6], .null), (.iconst 0, 1, [], .int 0), (.istore 4, 2, [4], .null), (.nop, 0, [59, 0, 1, 2, 4, 5, 6], .null)]),
  (59, [(.iinc 6 (-8), 3, [6], .int (-8)), (.goto (-47), 3, [15, 0, 1, 2, 4, 5, 6], .null)]),
  (65, [(.iload 4, 2, [4], .null), (.ifCond .ne 9, 3, [76, 0, 1, 2, 5], .null), (.aload_n 0, 1, [0], .null), (.iconst 2, 1, [], .int 2), (.invokevirtual 196, 3, [91, 2, 0, 0], .null), (.ireturn, 1, [0], .null)]),
  (76, [(.aload_n 0, 1, [0], .null), (.aload_n 0, 1, [0], .null), (.getfield 13, 3, [9, 1, 2], .null), (.iload_n 1, 1, [1], .null), (.iaload, 1, [], .null), (.iload 5, 2, [5], .null), (.iadd, 1, [], .null), (.bipush 60, 2, [], .int 60), (.if_icmp .gt 7, 3, [95, 0, 1, 2], .null), (.iconst 1, 1, [], .int 1), (.goto 4, 3, [96, 0, 1, 2], .null)]),
  (95, [(.iconst 0, 1, [], .int 0), (.nop, 0, [96, 0, 1, 2], .null)]),
  (96, [(.iconst 1, 1, [], .int 1), (.invokevirtual 199, 3, [92, 3, 0, 0], .null), (.ifCond .ne 5, 3, [105, 0, 1, 2], .null), (.iconst 0, 1, [], .int 0), (.ireturn, 1, [0], .null)]),
  (105, [(.bipush 56, 2, [], .int 56), (.istore 6, 2, [6], .null), (.nop, 0, [109, 0, 1, 2, 6], .null)]),
  (109, [(.iload 6, 2, [6], .null), (.ifCond .lt 53, 3, [164, 0, 1], .null), (.lload_n 2, 1, [2], .null), (.iload 6, 2, [6], .null), (.lshr, 1, [], .null), (.l2i, 1, [], .null), (.sipush 255, 3, [], .int 255), (.iand, 1, [], .null), (.istore 7, 2, [7], .null), (.iload 7, 2, [7], .null), (.ifCond .eq 31, 3, [158, 0, 1, 2, 6], .null), (.aload_n 0, 1, [0], .null), (.getfield 7, 3, [9, 0, 2], .null), (.bipush 60, 2, [], .int 60), (.iload_n 1, 1, [1], .null), (.imul, 1, [], .null), (.aload_n 0, 1, [0], .null), (.getfield 13, 3, [9, 1, 2], .null), (.iload_n 1, 1, [1], .null), (.iaload, 1, [], .null), (.iadd, 1, [], .null), (.iload 7, 2, [7], .null), (.iastore, 1, [], .null), (.aload_n 0, 1, [0], .null), (.getfield 13, 3, [9, 1, 2], .null), (.iload_n 1, 1, [1], .null), (.dup2, 1, [], .null), (.iaload, 1, [], .null), (.iconst 1, 1, [], .int 1), (.iadd, 1, [], .null), (.iastore, 1, [], .null), (.nop, 0, [158, 0, 1, 2, 6], .null)]),
  (158, [(.iinc 6 (-8), 3, [6], .int (-8)), (.goto (-52), 3, [109, 0, 1, 2, 6], .null)]),
  (164, [(.aload_n 0, 1, [0], .null), (.getfield 16, 3, [9, 2, 2], .null), (.iload_n 1, 1, [1], .null), (.iconst 0, 1, [], .int 0), (.bastore, 1, [], .null), (.aload_n 0, 1, [0], .null), (.getfield 13, 3, [9, 1, 2], .null), (.iload_n 1, 1, [1], .null), (.iaload, 1, [], .null), (.ireturn, 1, [0], .null)])], [[]], [0, 1, 2])
def k_Md_in : aK := ([(0, [(.iload_n 0, 1, [0], .null), (.iload_n 1, 1, [1], .null), (.if_icmp .lt 12, 3, [14], .null), (.iload_n 0, 1, [0], .null), (.iload_n 2, 1, [2], .null), (.if_icmp .gt 7, 3, [14], .null), (.iconst 1, 1, [], .int 1), (.goto 4, 3, [15], .null)]),
  (14, [(.iconst 0, 1, [], .int 0), (.nop, 0, [15], .null)]),
  (15, [(.ireturn, 1, [3], .null)])], [[]], [0, 1, 2])
def k_Md_fail : aK := ([(0, [(.aload_n 0, 1, [0], .null), (.iload_n 1, 1, [1], .null), (.putfield 60, 3, [9, 21, 0], .null), (.iconst 0, 1, [], .int 0), (.ireturn, 1, [0], .null)])], [[]], [0, 1])
def k_Md_good : aK := ([(0, [(.aload_n 0, 1, [0], .null), (.iload_n 1, 1, [1], .null), (.ifCond .eq 7, 3, [9, 1, 2], .null), (.iconst 0, 1, [], .int 0), (.goto 4, 3, [10, 1], .null)]),
  (9, [(.iload_n 2, 1, [2], .null), (.nop, 0, [10, 1], .null)]),
  (10, [(.putfield 60, 3, [9, 21, 0], .null), (.iload_n 1, 1, [1], .null), (.ireturn, 1, [3], .null)])], [[]], [0, 1, 2])
def k_Md_clear : aK := ([(0, [(.aload_n 0, 1, [0], .null), (.iload_n 1, 1, [1], .null), (.iconst 0, 1, [], .int 0), (.iconst 2, 1, [], .int 2), (.invokestatic 86, 3, [90, 3, 0, 0], .null), (.iconst 1, 1, [], .int 1), (.invokevirtual 199, 3, [92, 3, 0, 0], .null), (.ifCond .ne 5, 3, [16, 0, 1], .null), (.iconst 0, 1, [], .int 0), (.ireturn, 1, [0], .null)]),
  (16, [(.aload_n 0, 1, [0], .null), (.getfield 13, 3, [9, 1, 2], .null), (.iload_n 1, 1, [1], .null), (.iaload, 1, [], .null), (.istore_n 2, 1, [2], .null), (.aload_n 0, 1, [0], .null), (.getfield 13, 3, [9, 1, 2], .null), (.iload_n 1, 1, [1], .null), (.iconst 0, 1, [], .int 0), (.iastore, 1, [], .null), (.aload_n 0, 1, [0], .null), (.getfield 16, 3, [9, 2, 2], .null), (.iload_n 1, 1, [1], .null), (.iconst 1, 1, [], .int 1), (.bastore, 1, [], .null), (.iload_n 2, 1, [2], .null), (.ireturn, 1, [0], .null)])], [[]], [0, 1])
def k_Md_check : aK := ([(0, [(.aload_n 0, 1, [0], .null), (.iload_n 1, 1, [1], .null), (.iconst 0, 1, [], .int 0), (.iconst 2, 1, [], .int 2), (.invokestatic 86, 3, [90, 3, 0, 0], .null), (.iconst 1, 1, [], .int 1), (.invokevirtual 199, 3, [92, 3, 0, 0], .null), (.ifCond .ne 5, 3, [16, 0, 1], .null), (.iconst 0, 1, [], .int 0), (.ireturn, 1, [0], .null)]),
  (16, [(.aload_n 0, 1, [0], .null), (.aload_n 0, 1, [0], .null), (.iload_n 1, 1, [1], .null), (.invokevirtual 203, 3, [95, 2, 0, 0], .null), (.bipush (-2), 2, [], .int (-2)), (.if_icmp .ne 7, 3, [31, 0, 1], .null), (.iconst 1, 1, [], .int 1), (.goto 4, 3, [32, 0, 1], .null)]),
  (31, [(.iconst 0, 1, [], .int 0), (.nop, 0, [32, 0, 1], .null)]),
  (32, [(.iconst 2, 1, [], .int 2), (.invokevirtual 199, 3, [92, 3, 0, 0], .null), (.ifCond .ne 5, 3, [41, 0, 1], .null), (.iconst 0, 1, [], .int 0), (.ireturn, 1, [0], .null)]),
  (41, [(.aload_n 0, 1, [0], .null), (.getfield 16, 3, [9, 2, 2], .null), (.iload_n 1, 1, [1], .null), (.iconst 1, 1, [], .int 1), (.bastore, 1, [], .null), (.aload_n 0, 1, [0], .null), (.iload_n 1, 1, [1], .null), (.invokevirtual 206, 3, [103, 2, 0, 0], .null), (.ireturn, 1, [0], .null)])], [[]], [0, 1])
def k_Md_read : aK := ([(0, [(.aload_n 0, 1, [0], .null), (.iconst 0, 1, [], .int 0), (.putfield 93, 3, [9, 16, 0], .null), (.aload_n 0, 1, [0], .null), (.iconst 0, 1, [], .int 0), (.putfield 90, 3, [9, 15, 0], .null), (.iconst 0, 1, [], .int 0), (.istore_n 2, 1, [2], .null), (.nop, 0, [12, 0, 1, 2], .null)]),
  (12, [(.iload_n 2, 1, [2], .null), (.aload_n 0, 1, [0], .null), (.getfield 13, 3, [9, 1, 2], .null), (.iload_n 1, 1, [1], .null), (.iaload, 1, [], .null), (.if_icmp .ge 29, 3, [48, 0, 1], .null), (.aload_n 0, 1, [0], .null), (.aload_n 0, 1, [0], .null), (.getfield 7, 3, [9, 0, 2], .null), (.bipush 60, 2, [], .int 60), (.iload_n 1, 1, [1], .null), (.imul, 1, [], .null), (.iload_n 2, 1, [2], .null), (.iadd, 1, [], .null), (.iaload, 1, [], .null), (.invokevirtual 119, 3, [96, 2, 0, 0], .null), (.ifCond .ne 5, 3, [42, 0, 1, 2], .null), (.iload_n 2, 1, [2], .null), (.ireturn, 1, [0], .null)]),
  (42, [(.iinc 2 1, 3, [2], .int 1), (.goto (-33), 3, [12, 0, 1, 2], .null)]),
  (48, [(.aload_n 0, 1, [0], .null), (.getfield 93, 3, [9, 16, 0], .null), (.ifCond .ne 8, 3, [60, 0, 1], .null), (.bipush (-2), 2, [], .int (-2)), (.goto 9, 3, [66], .null)]),
  (60, [(.aload_n 0, 1, [0], .null), (.getfield 13, 3, [9, 1, 2], .null), (.iload_n 1, 1, [1], .null), (.iaload, 1, [], .null), (.nop, 0, [66], .null)]),
  (66, [(.ireturn, 1, [0], .null)])], [[]], [0, 1])
def k_Md_stands : aK := ([(0, [(.aload_n 0, 1, [0], .null), (.getfield 93, 3, [9, 16, 0], .null), (.istore_n 2, 1, [2], .null), (.iload_n 2, 1, [2], .null), (.ifCond .ne 8, 3, [14, 0, 1, 2], .null), (.aload_n 0, 1, [0], .null), (.iconst 0, 1, [], .int 0), (.putfield 96, 3, [9, 17, 0], .null), (.nop, 0, [14, 0, 1, 2], .null)]),
  (14, [(.iload_n 2, 1, [2], .null), (.iconst 2, 1, [], .int 2), (.if_icmp .ge 9, 3, [25, 0, 1, 2], .null), (.aload_n 0, 1, [0], .null), (.iload_n 1, 1, [1], .null), (.invokevirtual 113, 3, [97, 2, 0, 0], .null), (.ireturn, 1, [3], .null)]),
  (25, [(.iload_n 2, 1, [2], .null), (.iconst 2, 1, [], .int 2), (.if_icmp .eq 8, 3, [35, 0, 1, 2], .null), (.iload_n 2, 1, [2], .null), (.iconst 3, 1, [], .int 3), (.if_icmp .ne 51, 3, [83, 0, 1, 2], .null), (.nop, 0, [35, 0, 1, 2], .null)]),
  (35, [(.aload_n 0, 1, [0], .null), (.iconst 1, 1, [], .int 1), (.putfield 93, 3, [9, 16, 0], .null), (.iload_n 2, 1, [2], .null), (.iconst 2, 1, [], .int 2), (.if_icmp .ne 15, 3, [57, 0, 1], .null), (.iload_n 1, 1, [1], .null), (.bipush 44, 2, [], .int 44), (.if_icmp .ne 7, 3, [55], .null), (.iconst 1, 1, [], .int 1), (.goto 4, 3, [56], .null)]),
  (55, [(.iconst 0, 1, [], .int 0), (.nop, 0, [56], .null)]),
  (56, [(.ireturn, 1, [3], .null)]),
  (57, [(.aload_n 0, 1, [0], .null), (.dup, 1, [], .null), (.getfield 90, 3, [9, 15, 0], .null), (.iconst 1, 1, [], .int 1), (.isub, 1, [], .null), (.putfield 90, 3, [9, 15, 0], .null), (.aload_n 0, 1, [0], .null), (.invokevirtual 110, 3, [101, 1, 9, 0], .null), (.iload_n 1, 1, [1], .null), (.bipush 41, 2, [], .int 41), (.if_icmp .ne 7, 3, [81], .null), (.iconst 1, 1, [], .int 1), (.goto 4, 3, [82], .null)]),
  (81, [(.iconst 0, 1, [], .int 0), (.nop, 0, [82], .null)]),
  (82, [(.ireturn, 1, [3], .null)]),
  (83, [(.iload_n 2, 1, [2], .null), (.iconst 4, 1, [], .int 4), (.if_icmp .ne 42, 3, [127, 0, 1, 2], .null), (.aload_n 0, 1, [0], .null), (.iconst 1, 1, [], .int 1), (.putfield 96, 3, [9, 17, 0], .null), (.aload_n 0, 1, [0], .null), (.iload_n 1, 1, [1], .null), (.bipush 63, 2, [], .int 63), (.if_icmp .ne 7, 3, [104, 1], .null), (.iconst 1, 1, [], .int 1), (.goto 5, 3, [106, 1], .null)]),
  (104, [(.bipush 7, 2, [], .int 7), (.nop, 0, [106, 1], .null)]),
  (106, [(.putfield 93, 3, [9, 16, 0], .null), (.iload_n 1, 1, [1], .null), (.bipush 63, 2, [], .int 63), (.if_icmp .eq 9, 3, [121], .null), (.iload_n 1, 1, [1], .null), (.bipush 58, 2, [], .int 58), (.if_icmp .ne 7, 3, [125], .null), (.nop, 0, [121], .null)]),
  (121, [(.iconst 1, 1, [], .int 1), (.goto 4, 3, [126], .null)]),
  (125, [(.iconst 0, 1, [], .int 0), (.nop, 0, [126], .null)]),
  (126, [(.ireturn, 1, [3], .null)]),
  (127, [(.iload_n 2, 1, [2], .null), (.iconst 5, 1, [], .int 5), (.if_icmp .ne 31, 3, [160, 0, 1, 2], .null), (.aload_n 0, 1, [0], .null), (.iconst 2, 1, [], .int 2), (.putfield 96, 3, [9, 17, 0], .null), (.aload_n 0, 1, [0], .null), (.iconst 1, 1, [], .int 1), (.putfield 93, 3, [9, 16, 0], .null), (.iload_n 1, 1, [1], .null), (.bipush 60, 2, [], .int 60), (.if_icmp .eq 9, 3, [154], .null), (.iload_n 1, 1, [1], .null), (.bipush 61, 2, [], .int 61), (.if_icmp .ne 7, 3, [158], .null), (.nop, 0, [154], .null)]),
  (154, [(.iconst 1, 1, [], .int 1), (.goto 4, 3, [159], .null)]),
  (158, [(.iconst 0, 1, [], .int 0), (.nop, 0, [159], .null)]),
  (159, [(.ireturn, 1, [3], .null)]),
  (160, [(.iload_n 2, 1, [2], .null), (.bipush 7, 2, [], .int 7), (.if_icmp .ne 9, 3, [172, 0, 1, 2], .null), (.aload_n 0, 1, [0], .null), (.iload_n 1, 1, [1], .null), (.invokevirtual 116, 3, [102, 2, 0, 0], .null), (.ireturn, 1, [3], .null)]),
  (172, [(.aload_n 0, 1, [0], .null), (.iload_n 2, 1, [2], .null), (.bipush 8, 2, [], .int 8), (.if_icmp .ne 8, 3, [184, 0, 1, 2], .null), (.bipush 9, 2, [], .int 9), (.goto 16, 3, [197, 0, 1, 2], .null)]),
  (184, [(.iload_n 2, 1, [2], .null), (.bipush 10, 2, [], .int 10), (.if_icmp .ne 8, 3, [195, 0, 1, 2], .null), (.bipush 11, 2, [], .int 11), (.goto 5, 3, [197, 0, 1, 2], .null)]),
  (195, [(.bipush 7, 2, [], .int 7), (.nop, 0, [197, 0, 1, 2], .null)]),
  (197, [(.putfield 93, 3, [9, 16, 0], .null), (.iload_n 2, 1, [2], .null), (.bipush 9, 2, [], .int 9), (.if_icmp .ne 7, 3, [210, 1, 2], .null), (.aload_n 0, 1, [0], .null), (.invokevirtual 110, 3, [101, 1, 9, 0], .null), (.nop, 0, [210, 1, 2], .null)]),
  (210, [(.iload_n 2, 1, [2], .null), (.bipush 6, 2, [], .int 6), (.if_icmp .ne 15, 3, [228, 1, 2], .null), (.iload_n 1, 1, [1], .null), (.bipush 58, 2, [], .int 58), (.if_icmp .ne 7, 3, [226], .null), (.iconst 1, 1, [], .int 1), (.goto 4, 3, [227], .null)]),
  (226, [(.iconst 0, 1, [], .int 0), (.nop, 0, [227], .null)]),
  (227, [(.ireturn, 1, [3], .null)]),
  (228, [(.iload_n 2, 1, [2], .null), (.bipush 8, 2, [], .int 8), (.if_icmp .eq 9, 3, [240, 1], .null), (.iload_n 2, 1, [2], .null), (.bipush 9, 2, [], .int 9), (.if_icmp .ne 8, 3, [245, 1, 2], .null), (.nop, 0, [240, 1], .null)]),
  (240, [(.iload_n 1, 1, [1], .null), (.invokestatic 99, 3, [98, 1, 0, 0], .null), (.ireturn, 1, [3], .null)]),
  (245, [(.iload_n 2, 1, [2], .null), (.bipush 11, 2, [], .int 11), (.if_icmp .ne 18, 3, [266, 1, 2], .null), (.iload_n 1, 1, [1], .null), (.invokestatic 106, 3, [100, 1, 0, 0], .null), (.ifCond .lt 7, 3, [262], .null), (.iconst 1, 1, [], .int 1), (.goto 26, 3, [285], .null)]),
  (262, [(.iconst 0, 1, [], .int 0), (.goto 22, 3, [285], .null)]),
  (266, [(.iload_n 1, 1, [1], .null), (.bipush 48, 2, [], .int 48), (.iload_n 2, 1, [2], .null), (.bipush 10, 2, [], .int 10), (.if_icmp .ne 8, 3, [280], .null), (.bipush 50, 2, [], .int 50), (.goto 5, 3, [282], .null)]),
  (280, [(.bipush 49, 2, [], .int 49), (.nop, 0, [282], .null)]),
  (282, [(.invokestatic 86, 3, [90, 3, 0, 0], .null), (.nop, 0, [285], .null)]),
  (285, [(.ireturn, 1, [3], .null)])], [[]], [0, 1])
def k_Md_piece : aK := ([(0, [(.aload_n 0, 1, [0], .null), (.getfield 96, 3, [9, 17, 0], .null), (.ifCond .ne 7, 3, [11, 0, 1], .null), (.iconst 1, 1, [], .int 1), (.goto 4, 3, [12, 0, 1], .null)]),
  (11, [(.iconst 0, 1, [], .int 0), (.nop, 0, [12, 0, 1], .null)]),
  (12, [(.istore_n 2, 1, [2], .null), (.iload_n 1, 1, [1], .null), (.bipush 40, 2, [], .int 40), (.if_icmp .eq 25, 3, [41, 0, 1], .null), (.iload_n 2, 1, [2], .null), (.ifCond .ne 68, 3, [88, 0, 1, 2], .null), (.iload_n 1, 1, [1], .null), (.bipush 43, 2, [], .int 43), (.if_icmp .eq 15, 3, [41, 0, 1], .null), (.iload_n 1, 1, [1], .null), (.bipush 45, 2, [], .int 45), (.if_icmp .eq 9, 3, [41, 0, 1], .null), (.iload_n 1, 1, [1], .null), (.bipush 47, 2, [], .int 47), (.if_icmp .ne 50, 3, [88, 0, 1, 2], .null), (.nop, 0, [41, 0, 1], .null)]),
  (41, [(.aload_n 0, 1, [0], .null), (.getfield 90, 3, [9, 15, 0], .null), (.iconst 4, 1, [], .int 4), (.if_icmp .ne 5, 3, [51, 0, 1], .null), (.iconst 0, 1, [], .int 0), (.ireturn, 1, [3], .null)]),
  (51, [(.aload_n 0, 1, [0], .null), (.getfield 51, 3, [9, 13, 2], .null), (.aload_n 0, 1, [0], .null), (.getfield 90, 3, [9, 15, 0], .null), (.iload_n 1, 1, [1], .null), (.iastore, 1, [], .null), (.aload_n 0, 1, [0], .null), (.getfield 54, 3, [9, 14, 2], .null), (.aload_n 0, 1, [0], .null), (.getfield 90, 3, [9, 15, 0], .null), (.iconst 0, 1, [], .int 0), (.bastore, 1, [], .null), (.aload_n 0, 1, [0], .null), (.dup, 1, [], .null), (.getfield 90, 3, [9, 15, 0], .null), (.iconst 1, 1, [], .int 1), (.iadd, 1, [], .null), (.putfield 90, 3, [9, 15, 0], .null), (.aload_n 0, 1, [0], .null), (.iconst 1, 1, [], .int 1), (.putfield 93, 3, [9, 16, 0], .null), (.iconst 1, 1, [], .int 1), (.ireturn, 1, [3], .null)]),
  (88, [(.iload_n 1, 1, [1], .null), (.bipush 39, 2, [], .int 39), (.if_icmp .ne 11, 3, [102, 0, 1, 2], .null), (.aload_n 0, 1, [0], .null), (.bipush 8, 2, [], .int 8), (.putfield 93, 3, [9, 16, 0], .null), (.iconst 1, 1, [], .int 1), (.ireturn, 1, [3], .null)]),
  (102, [(.iload_n 1, 1, [1], .null), (.invokestatic 99, 3, [98, 1, 0, 0], .null), (.ifCond .ne 34, 3, [140, 0], .null), (.iload_n 1, 1, [1], .null), (.invokestatic 103, 3, [99, 1, 0, 0], .null), (.ifCond .ne 27, 3, [140, 0], .null), (.iload_n 1, 1, [1], .null), (.invokestatic 106, 3, [100, 1, 0, 0], .null), (.ifCond .ge 20, 3, [140, 0], .null), (.iload_n 1, 1, [1], .null), (.iload_n 2, 1, [2], .null), (.ifCond .eq 8, 3, [133, 0], .null), (.bipush 95, 2, [], .int 95), (.goto 5, 3, [135, 0], .null)]),
  (133, [(.bipush 35, 2, [], .int 35), (.nop, 0, [135, 0], .null)]),
  (135, [(.if_icmp .eq 5, 3, [140, 0], .null), (.iconst 0, 1, [], .int 0), (.ireturn, 1, [3], .null)]),
  (140, [(.aload_n 0, 1, [0], .null), (.invokevirtual 110, 3, [101, 1, 9, 0], .null), (.iconst 1, 1, [], .int 1), (.ireturn, 1, [3], .null)])], [[]], [0, 1])
def k_Md_isDigit : aK := ([(0, [(.iload_n 0, 1, [0], .null), (.bipush 48, 2, [], .int 48), (.bipush 57, 2, [], .int 57), (.invokestatic 86, 3, [90, 3, 0, 0], .null), (.ireturn, 1, [3], .null)])], [[]], [0])
def k_Md_isAtom : aK := ([(0, [(.iload_n 0, 1, [0], .null), (.bipush 97, 2, [], .int 97), (.bipush 104, 2, [], .int 104), (.invokestatic 86, 3, [90, 3, 0, 0], .null), (.ireturn, 1, [3], .null)])], [[]], [0])
def k_Md_variableOf : aK := ([(0, [(.iload_n 0, 1, [0], .null), (.bipush 65, 2, [], .int 65), (.bipush 69, 2, [], .int 69), (.invokestatic 86, 3, [90, 3, 0, 0], .null), (.ifCond .eq 10, 3, [18, 0], .null), (.iload_n 0, 1, [0], .null), (.bipush 65, 2, [], .int 65), (.isub, 1, [], .null), (.goto 14, 3, [29], .null)]),
  (18, [(.iload_n 0, 1, [0], .null), (.bipush 83, 2, [], .int 83), (.if_icmp .ne 7, 3, [28], .null), (.iconst 5, 1, [], .int 5), (.goto 4, 3, [29], .null)]),
  (28, [(.iconst (-1), 1, [], .int (-1)), (.nop, 0, [29], .null)]),
  (29, [(.ireturn, 1, [0], .null)])], [[]], [0])
def k_Md_complete : aK := ([(0, [(.aload_n 0, 1, [0], .null), (.getfield 90, 3, [9, 15, 0], .null), (.ifCond .le 77, 3, [81, 0], .null), (.aload_n 0, 1, [0], .null), (.getfield 90, 3, [9, 15, 0], .null), (.iconst 1, 1, [], .int 1), (.isub, 1, [], .null), (.istore_n 1, 1, [1], .null), (.aload_n 0, 1, [0], .null), (.getfield 54, 3, [9, 14, 2], .null), (.iload_n 1, 1, [1], .null), (.baload, 1, [], .null), (.ifCond .ne 31, 3, [51, 0, 1], .null), (.aload_n 0, 1, [0], .null), (.getfield 54, 3, [9, 14, 2], .null), (.iload_n 1, 1, [1], .null), (.iconst 1, 1, [], .int 1), (.bastore, 1, [], .null), (.aload_n 0, 1, [0], .null), (.aload_n 0, 1, [0], .null), (.getfield 51, 3, [9, 13, 2], .null), (.iload_n 1, 1, [1], .null), (.iaload, 1, [], .null), (.bipush 40, 2, [], .int 40), (.if_icmp .ne 7, 3, [46], .null), (.iconst 2, 1, [], .int 2), (.goto 4, 3, [47], .null)]),
  (46, [(.iconst 1, 1, [], .int 1), (.nop, 0, [47], .null)]),
  (47, [(.putfield 93, 3, [9, 16, 0], .null), (.return_, 1, [], .null)]),
  (51, [(.aload_n 0, 1, [0], .null), (.getfield 51, 3, [9, 13, 2], .null), (.iload_n 1, 1, [1], .null), (.iaload, 1, [], .null), (.bipush 40, 2, [], .int 40), (.if_icmp .ne 9, 3, [68, 0], .null), (.aload_n 0, 1, [0], .null), (.iconst 3, 1, [], .int 3), (.putfield 93, 3, [9, 16, 0], .null), (.return_, 1, [], .null)]),
  (68, [(.aload_n 0, 1, [0], .null), (.dup, 1, [], .null), (.getfield 90, 3, [9, 15, 0], .null), (.iconst 1, 1, [], .int 1), (.isub, 1, [], .null), (.putfield 90, 3, [9, 15, 0], .null), (.goto (-78), 3, [0, 0], .null)]),
  (81, [(.aload_n 0, 1, [0], .null), (.aload_n 0, 1, [0], .null), (.getfield 96, 3, [9, 17, 0], .null), (.ifCond .ne 7, 3, [93, 0], .null), (.iconst 4, 1, [], .int 4), (.goto 42, 3, [132, 0], .null)]),
  (93, [(.aload_n 0, 1, [0], .null), (.getfield 96, 3, [9, 17, 0], .null), (.iconst 1, 1, [], .int 1), (.if_icmp .ne 7, 3, [105, 0], .null), (.iconst 5, 1, [], .int 5), (.goto 30, 3, [132, 0], .null)]),
  (105, [(.aload_n 0, 1, [0], .null), (.getfield 96, 3, [9, 17, 0], .null), (.iconst 2, 1, [], .int 2), (.if_icmp .ne 8, 3, [118, 0], .null), (.bipush 6, 2, [], .int 6), (.goto 17, 3, [132, 0], .null)]),
  (118, [(.aload_n 0, 1, [0], .null), (.getfield 96, 3, [9, 17, 0], .null), (.iconst 3, 1, [], .int 3), (.if_icmp .ne 7, 3, [130, 0], .null), (.iconst 1, 1, [], .int 1), (.goto 5, 3, [132, 0], .null)]),
  (130, [(.bipush 7, 2, [], .int 7), (.nop, 0, [132, 0], .null)]),
  (132, [(.putfield 93, 3, [9, 16, 0], .null), (.aload_n 0, 1, [0], .null), (.getfield 96, 3, [9, 17, 0], .null), (.iconst 3, 1, [], .int 3), (.if_icmp .ne 8, 3, [148], .null), (.aload_n 0, 1, [0], .null), (.iconst 4, 1, [], .int 4), (.putfield 96, 3, [9, 17, 0], .null), (.nop, 0, [148], .null)]),
  (148, [(.return_, 1, [], .null)])], [[]], [0])
def k_Md_action : aK := ([(0, [(.aload_n 0, 1, [0], .null), (.iload_n 1, 1, [1], .null), (.bipush 59, 2, [], .int 59), (.if_icmp .ne 7, 3, [11, 0, 1], .null), (.iconst 0, 1, [], .int 0), (.goto 26, 3, [34, 0, 1], .null)]),
  (11, [(.iload_n 1, 1, [1], .null), (.bipush 64, 2, [], .int 64), (.if_icmp .ne 8, 3, [22, 0, 1], .null), (.bipush 10, 2, [], .int 10), (.goto 15, 3, [34, 0, 1], .null)]),
  (22, [(.iload_n 1, 1, [1], .null), (.bipush 42, 2, [], .int 42), (.if_icmp .ne 8, 3, [33, 0, 1], .null), (.bipush 12, 2, [], .int 12), (.goto 4, 3, [34, 0, 1], .null)]),
  (33, [(.iconst 1, 1, [], .int 1), (.nop, 0, [34, 0, 1], .null)]),
  (34, [(.putfield 93, 3, [9, 16, 0], .null), (.aload_n 0, 1, [0], .null), (.iload_n 1, 1, [1], .null), (.bipush 33, 2, [], .int 33), (.if_icmp .ne 7, 3, [48, 1], .null), (.iconst 3, 1, [], .int 3), (.goto 4, 3, [49, 1], .null)]),
  (48, [(.iconst 4, 1, [], .int 4), (.nop, 0, [49, 1], .null)]),
  (49, [(.putfield 96, 3, [9, 17, 0], .null), (.iload_n 1, 1, [1], .null), (.bipush 59, 2, [], .int 59), (.if_icmp .eq 39, 3, [94], .null), (.iload_n 1, 1, [1], .null), (.bipush 64, 2, [], .int 64), (.if_icmp .eq 33, 3, [94], .null), (.iload_n 1, 1, [1], .null), (.bipush 42, 2, [], .int 42), (.if_icmp .eq 27, 3, [94], .null), (.iload_n 1, 1, [1], .null), (.bipush 33, 2, [], .int 33), (.if_icmp .eq 21, 3, [94], .null), (.iload_n 1, 1, [1], .null), (.bipush 126, 2, [], .int 126), (.if_icmp .eq 15, 3, [94], .null), (.iload_n 1, 1, [1], .null), (.bipush 38, 2, [], .int 38), (.if_icmp .eq 9, 3, [94], .null), (.iload_n 1, 1, [1], .null), (.bipush 36, 2, [], .int 36), (.if_icmp .ne 7, 3, [98], .null), (.nop, 0, [94], .null)]),
  (94, [(.iconst 1, 1, [], .int 1), (.goto 4, 3, [99], .null)]),
  (98, [(.iconst 0, 1, [], .int 0), (.nop, 0, [99], .null)]),
  (99, [(.ireturn, 1, [3], .null)])], [[]], [0, 1])
def k_Md_clauses : aK := ([(0, [(.iconst 0, 1, [], .int 0), (.istore_n 2, 1, [2], .null), (.iconst 0, 1, [], .int 0), (.istore_n 3, 1, [3], .null), (.nop, 0, [4, 0, 1, 2, 3], .null)]),
  (4, [(.iload_n 3, 1, [3], .null), (.aload_n 0, 1, [0], .null), (.getfield 13, 3, [9, 1, 2], .null), (.iload_n 1, 1, [1], .null), (.iaload, 1, [], .null), (.if_icmp .ge 28, 3, [39, 2], .null), (.aload_n 0, 1, [0], .null), (.getfield 7, 3, [9, 0, 2], .null), (.bipush 60, 2, [], .int 60), (.iload_n 1, 1, [1], .null), (.imul, 1, [], .null), (.iload_n 3, 1, [3], .null), (.iadd, 1, [], .null), (.iaload, 1, [], .null), (.bipush 59, 2, [], .int 59), (.if_icmp .ne 6, 3, [33, 0, 1, 2, 3], .null), (.iinc 2 1, 3, [2], .int 1), (.nop, 0, [33, 0, 1, 2, 3], .null)]),
  (33, [(.iinc 3 1, 3, [3], .int 1), (.goto (-32), 3, [4, 0, 1, 2, 3], .null)]),
  (39, [(.iload_n 2, 1, [2], .null), (.ireturn, 1, [0], .null)])], [[]], [0, 1])
def k_Md_fault : aK := ([(0, [(.aload_n 0, 1, [0], .null), (.iload_n 1, 1, [1], .null), (.iconst 0, 1, [], .int 0), (.iconst 2, 1, [], .int 2), (.invokestatic 86, 3, [90, 3, 0, 0], .null), (.iconst 1, 1, [], .int 1), (.invokevirtual 199, 3, [92, 3, 0, 0], .null), (.ifCond .eq 11, 3, [22], .null), (.aload_n 0, 1, [0], .null), (.iload_n 1, 1, [1], .null), (.invokevirtual 203, 3, [95, 2, 0, 0], .null), (.goto 4, 3, [23], .null)]),
  (22, [(.iconst 0, 1, [], .int 0), (.nop, 0, [23], .null)]),
  (23, [(.ireturn, 1, [0], .null)])], [[]], [0, 1])
def k_Md_spawn : aK := ([(0, [(.aload_n 0, 1, [0], .null), (.iload_n 1, 1, [1], .null), (.iconst 0, 1, [], .int 0), (.iconst 2, 1, [], .int 2), (.invokestatic 86, 3, [90, 3, 0, 0], .null), (.ifCond .eq 20, 3, [27, 0, 1, 2], .null), (.iload_n 2, 1, [2], .null), (.sipush (-999), 3, [], .int (-999)), (.sipush 999, 3, [], .int 999), (.invokestatic 86, 3, [90, 3, 0, 0], .null), (.ifCond .eq 7, 3, [27, 0, 1, 2], .null), (.iconst 1, 1, [], .int 1), (.goto 4, 3, [28, 0, 1, 2], .null)]),
  (27, [(.iconst 0, 1, [], .int 0), (.nop, 0, [28, 0, 1, 2], .null)]),
  (28, [(.iconst 2, 1, [], .int 2), (.invokevirtual 199, 3, [92, 3, 0, 0], .null), (.ifCond .ne 5, 3, [37, 0, 1, 2], .null), (.iconst 0, 1, [], .int 0), (.ireturn, 1, [0], .null)]),
  (37, [(.aload_n 0, 1, [0], .null), (.aload_n 0, 1, [0], .null), (.getfield 16, 3, [9, 2, 2], .null), (.iload_n 1, 1, [1], .null), (.baload, 1, [], .null), (.ifCond .eq 16, 3, [60, 0, 1, 2], .null), (.aload_n 0, 1, [0], .null), (.invokevirtual 160, 3, [106, 1, 0, 0], .null), (.bipush 6, 2, [], .int 6), (.if_icmp .ge 7, 3, [60, 0, 1, 2], .null), (.iconst 1, 1, [], .int 1), (.goto 4, 3, [61, 0, 1, 2], .null)]),
  (60, [(.iconst 0, 1, [], .int 0), (.nop, 0, [61, 0, 1, 2], .null)]),
  (61, [(.iconst 1, 1, [], .int 1), (.invokevirtual 199, 3, [92, 3, 0, 0], .null), (.ifCond .ne 5, 3, [70, 0, 1, 2], .null), (.iconst 0, 1, [], .int 0), (.ireturn, 1, [0], .null)]),
  (70, [(.aload_n 0, 1, [0], .null), (.iload_n 1, 1, [1], .null), (.iload_n 2, 1, [2], .null), (.invokestatic 128, 3, [107, 1, 1, 0], .null), (.invokevirtual 174, 3, [109, 3, 0, 0], .null), (.ireturn, 1, [0], .null)])], [[]], [0, 1, 2])
def k_Md_free : aK := ([(0, [(.iconst 0, 1, [], .int 0), (.istore_n 1, 1, [1], .null), (.nop, 0, [2, 0, 1], .null)]),
  (2, [(.iload_n 1, 1, [1], .null), (.bipush 6, 2, [], .int 6), (.if_icmp .ge 18, 3, [23, 1], .null), (.aload_n 0, 1, [0], .null), (.getfield 20, 3, [9, 3, 2], .null), (.iload_n 1, 1, [1], .null), (.iaload, 1, [], .null), (.ifCond .eq 9, 3, [23, 1], .null), (.iinc 1 1, 3, [1], .int 1), (.goto (-18), 3, [2, 0, 1], .null)]),
  (23, [(.iload_n 1, 1, [1], .null), (.ireturn, 1, [0], .null)])], [[]], [0])
def k_Md_whole : aK := ([(0, [(.iload_n 0, 1, [0], .null), (.sipush 999, 3, [], .int 999), (.iadd, 1, [], .null), (.invokestatic 64, 3, [108, 1, 1, 0], .null), (.lreturn, 1, [], .null)])], [[]], [0])
def k_Md_leafTerm : aK := ([(0, [(.lconst 1, 1, [], .long 1), (.iload_n 0, 1, [0], .null), (.i2l, 1, [], .null), (.bipush 10, 2, [], .int 10), (.lshl, 1, [], .null), (.lor, 1, [], .null), (.lreturn, 1, [], .null)])], [[]], [0])
def k_Md_make : aK := ([(0, [(.aload_n 0, 1, [0], .null), (.invokevirtual 160, 3, [106, 1, 0, 0], .null), (.istore 4, 2, [4], .null), (.aload_n 0, 1, [0], .null), (.getfield 20, 3, [9, 3, 2], .null), (.iload 4, 2, [4], .null), (.iconst 1, 1, [], .int 1), (.iastore, 1, [], .null), (.aload_n 0, 1, [0], .null), (.getfield 23, 3, [9, 4, 2], .null), (.iload 4, 2, [4], .null), (.lload_n 2, 1, [2], .null), (.lastore, 1, [], .null), (.aload_n 0, 1, [0], .null), (.getfield 30, 3, [9, 6, 2], .null), (.iload 4, 2, [4], .null), (.iconst 0, 1, [], .int 0), (.iastore, 1, [], .null), (.aload_n 0, 1, [0], .null), (.getfield 33, 3, [9, 7, 2], .null), (.iload 4, 2, [4], .null), (.iconst 0, 1, [], .int 0), (.bastore, 1, [], .null), (.aload_n 0, 1, [0], .null), (.getfield 13, 3, [9, 1, 2], .null), (.iconst 3, 1, [], .int 3), (.iload 4, 2, [4], .null), (.iadd, 1, [], .null), (.aload_n 0, 1, [0], .null), (.getfield 13, 3, [9, 1, 2], .null), (.iload_n 1, 1, [1], .null), (.iaload, 1, [], .null), (.iastore, 1, [], .null), (.iconst 0, 1, [], .int 0), (.istore 5, 2, [5], .null), (.nop, 0, [56, 0, 1, 4, 5], .null)]),
  (56, [(.iload 5, 2, [5], .null), (.aload_n 0, 1, [0], .null), (.getfield 13, 3, [9, 1, 2], .null), (.iload_n 1, 1, [1], .null), (.iaload, 1, [], .null), (.if_icmp .ge 36, 3, [100, 4], .null), (.aload_n 0, 1, [0], .null), (.getfield 7, 3, [9, 0, 2], .null), (.bipush 60, 2, [], .int 60), (.iconst 3, 1, [], .int 3), (.iload 4, 2, [4], .null), (.iadd, 1, [], .null), (.imul, 1, [], .null), (.iload 5, 2, [5], .null), (.iadd, 1, [], .null), (.aload_n 0, 1, [0], .null), (.getfield 7, 3, [9, 0, 2], .null), (.bipush 60, 2, [], .int 60), (.iload_n 1, 1, [1], .null), (.imul, 1, [], .null), (.iload 5, 2, [5], .null), (.iadd, 1, [], .null), (.iaload, 1, [], .null), (.iastore, 1, [], .null), (.iinc 5 1, 3, [5], .int 1), (.goto (-41), 3, [56, 0, 1, 4, 5], .null)]),
  (100, [(.iload 4, 2, [4], .null), (.ireturn, 1, [0], .null)])], [[]], [0, 1, 2])
def k_Md_send : aK := ([(0, [(.iload_n 1, 1, [1], .null), (.iconst 0, 1, [], .int 0), (.iconst 5, 1, [], .int 5), (.invokestatic 86, 3, [90, 3, 0, 0], .null), (.ifCond .eq 48, 3, [54, 0, 1, 2, 3, 4], .null), (.iload_n 2, 1, [2], .null), (.iconst 0, 1, [], .int 0), (.iconst 3, 1, [], .int 3), (.invokestatic 86, 3, [90, 3, 0, 0], .null), (.ifCond .eq 39, 3, [54, 0, 1, 2, 3, 4], .null), (.iload_n 3, 1, [3], .null), (.iload_n 2, 1, [2], .null), (.iconst 1, 1, [], .int 1), (.if_icmp .ne 7, 3, [28, 0, 1, 2, 3, 4], .null), (.iconst 0, 1, [], .int 0), (.goto 6, 3, [31, 0, 1, 2, 3, 4], .null)]),
  (28, [(.sipush (-999), 3, [], .int (-999)), (.nop, 0, [31, 0, 1, 2, 3, 4], .null)]),
  (31, [(.iload_n 2, 1, [2], .null), (.iconst 1, 1, [], .int 1), (.if_icmp .ne 8, 3, [41, 0, 1, 2, 3, 4], .null), (.bipush 7, 2, [], .int 7), (.goto 6, 3, [44, 0, 1, 2, 3, 4], .null)]),
  (41, [(.sipush 999, 3, [], .int 999), (.nop, 0, [44, 0, 1, 2, 3, 4], .null)]),
  (44, [(.invokestatic 86, 3, [90, 3, 0, 0], .null), (.ifCond .eq 7, 3, [54, 0, 1, 2, 3, 4], .null), (.iconst 1, 1, [], .int 1), (.goto 4, 3, [55, 0, 1, 2, 3, 4], .null)]),
  (54, [(.iconst 0, 1, [], .int 0), (.nop, 0, [55, 0, 1, 2, 3, 4], .null)]),
  (55, [(.istore 5, 2, [5], .null), (.iload_n 2, 1, [2], .null), (.iconst 1, 1, [], .int 1), (.if_icmp .le 25, 3, [84, 0, 1, 2, 3, 4, 5], .null), (.iload 5, 2, [5], .null), (.iload 4, 2, [4], .null), (.iconst 0, 1, [], .int 0), (.iload_n 2, 1, [2], .null), (.iconst 2, 1, [], .int 2), (.if_icmp .ne 8, 3, [77, 0, 1, 2, 3, 4], .null), (.bipush 7, 2, [], .int 7), (.goto 4, 3, [78, 0, 1, 2, 3, 4], .null)]),
  (77, [(.iconst 5, 1, [], .int 5), (.nop, 0, [78, 0, 1, 2, 3, 4], .null)]),
  (78, [(.invokestatic 86, 3, [90, 3, 0, 0], .null), (.iand, 1, [], .null), (.istore 5, 2, [5], .null), (.nop, 0, [84, 0, 1, 2, 3, 4, 5], .null)]),
  (84, [(.aload_n 0, 1, [0], .null), (.iload 5, 2, [5], .null), (.iconst 2, 1, [], .int 2), (.invokevirtual 199, 3, [92, 3, 0, 0], .null), (.ifCond .ne 5, 3, [96, 0, 1, 2, 3, 4], .null), (.iconst 0, 1, [], .int 0), (.ireturn, 1, [0], .null)]),
  (96, [(.aload_n 0, 1, [0], .null), (.aload_n 0, 1, [0], .null), (.getfield 45, 3, [9, 11, 2], .null), (.bipush 36, 2, [], .int 36), (.iload_n 1, 1, [1], .null), (.iadd, 1, [], .null), (.iaload, 1, [], .null), (.iconst 4, 1, [], .int 4), (.if_icmp .ge 7, 3, [114, 0, 1, 2, 3, 4], .null), (.iconst 1, 1, [], .int 1), (.goto 4, 3, [115, 0, 1, 2, 3, 4], .null)]),
  (114, [(.iconst 0, 1, [], .int 0), (.nop, 0, [115, 0, 1, 2, 3, 4], .null)]),
  (115, [(.iconst 1, 1, [], .int 1), (.invokevirtual 199, 3, [92, 3, 0, 0], .null), (.ifCond .ne 5, 3, [124, 0, 1, 2, 3, 4], .null), (.iconst 0, 1, [], .int 0), (.ireturn, 1, [0], .null)]),
  (124, [(.aload_n 0, 1, [0], .null), (.bipush 6, 2, [], .int 6), (.iload_n 1, 1, [1], .null), (.iload_n 2, 1, [2], .null), (.ifCond .ne 10, 3, [139, 0, 1, 2, 3, 4], .null), (.iload_n 3, 1, [3], .null), (.invokestatic 128, 3, [107, 1, 1, 0], .null), (.goto 40, 3, [176, 0, 1], .null)]),
  (139, [(.iload_n 2, 1, [2], .null), (.iconst 1, 1, [], .int 1), (.if_icmp .ne 10, 3, [151, 0, 1, 2, 3, 4], .null), (.iload_n 3, 1, [3], .null), (.invokestatic 134, 3, [111, 1, 1, 0], .null), (.goto 28, 3, [176, 0, 1], .null)]),
  (151, [(.iload_n 2, 1, [2], .null), (.iconst 2, 1, [], .int 2), (.if_icmp .ne 11, 3, [164, 0, 1, 3, 4], .null), (.iload 4, 2, [4], .null), (.invokestatic 134, 3, [111, 1, 1, 0], .null), (.goto 8, 3, [169, 0, 1, 3], .null)]),
  (164, [(.iload 4, 2, [4], .null), (.invokestatic 131, 3, [112, 1, 1, 0], .null), (.nop, 0, [169, 0, 1, 3], .null)]),
  (169, [(.iload_n 3, 1, [3], .null), (.invokestatic 128, 3, [107, 1, 1, 0], .null), (.invokestatic 140, 3, [113, 2, 1, 0], .null), (.nop, 0, [176, 0, 1], .null)]),
  (176, [(.invokevirtual 166, 3, [115, 4, 9, 0], .null), (.aload_n 0, 1, [0], .null), (.getfield 45, 3, [9, 11, 2], .null), (.bipush 36, 2, [], .int 36), (.iload_n 1, 1, [1], .null), (.iadd, 1, [], .null), (.iaload, 1, [], .null), (.ireturn, 1, [0], .null)])], [[]], [0, 1, 2, 3, 4])
def k_Md_atom : aK := ([(0, [(.sipush 1999, 3, [], .int 1999), (.iload_n 0, 1, [0], .null), (.iadd, 1, [], .null), (.invokestatic 64, 3, [108, 1, 1, 0], .null), (.lreturn, 1, [], .null)])], [[]], [0])
def k_Md_actor : aK := ([(0, [(.sipush 2007, 3, [], .int 2007), (.iload_n 0, 1, [0], .null), (.iadd, 1, [], .null), (.invokestatic 64, 3, [108, 1, 1, 0], .null), (.lreturn, 1, [], .null)])], [[]], [0])
def k_Md_pair : aK := ([(0, [(.lload_n 0, 1, [0], .null), (.invokestatic 70, 3, [114, 1, 0, 0], .null), (.istore 4, 2, [4], .null), (.lload_n 2, 1, [2], .null), (.invokestatic 70, 3, [114, 1, 0, 0], .null), (.istore 5, 2, [5], .null), (.iload 4, 2, [4], .null), (.iload 5, 2, [5], .null), (.iadd, 1, [], .null), (.iconst 4, 1, [], .int 4), (.if_icmp .le 5, 3, [23, 0, 2, 4, 5], .null), (.lconst 0, 1, [], .long 0), (.lreturn, 1, [], .null)]),
  (23, [(.lconst 1, 1, [], .long 1), (.lload_n 0, 1, [0], .null), (.iconst 3, 1, [], .int 3), (.lshr, 1, [], .null), (.ldc2_w 78, 3, [], .long 127), (.land, 1, [], .null), (.iconst 1, 1, [], .int 1), (.lshl, 1, [], .null), (.lor, 1, [], .null), (.lload_n 2, 1, [2], .null), (.iconst 3, 1, [], .int 3), (.lshr, 1, [], .null), (.ldc2_w 78, 3, [], .long 127), (.land, 1, [], .null), (.iconst 2, 1, [], .int 2), (.iload 4, 2, [4], .null), (.imul, 1, [], .null), (.lshl, 1, [], .null), (.lor, 1, [], .null), (.lstore 6, 2, [6], .null), (.iload 4, 2, [4], .null), (.iload 5, 2, [5], .null), (.iadd, 1, [], .null), (.i2l, 1, [], .null), (.lload 6, 2, [6], .null), (.iconst 3, 1, [], .int 3), (.lshl, 1, [], .null), (.lor, 1, [], .null), (.lload_n 0, 1, [0], .null), (.bipush 10, 2, [], .int 10), (.lshr, 1, [], .null), (.bipush 10, 2, [], .int 10), (.lshl, 1, [], .null), (.lor, 1, [], .null), (.lload_n 2, 1, [2], .null), (.bipush 10, 2, [], .int 10), (.lshr, 1, [], .null), (.bipush 10, 2, [], .int 10), (.bipush 11, 2, [], .int 11), (.iload 4, 2, [4], .null), (.imul, 1, [], .null), (.iadd, 1, [], .null), (.lshl, 1, [], .null), (.lor, 1, [], .null), (.lreturn, 1, [], .null)])], [[]], [0, 2])
def k_Md_leaves : aK := ([(0, [(.lload_n 0, 1, [0], .null), (.ldc2_w 68, 3, [], .long 7), (.land, 1, [], .null), (.l2i, 1, [], .null), (.ireturn, 1, [0], .null)])], [[]], [0])
def k_Md_put : aK := ([(0, [(.bipush 6, 2, [], .int 6), (.iload_n 1, 1, [1], .null), (.imul, 1, [], .null), (.iload_n 2, 1, [2], .null), (.iadd, 1, [], .null), (.istore 5, 2, [5], .null), (.aload_n 0, 1, [0], .null), (.getfield 45, 3, [9, 11, 2], .null), (.iload 5, 2, [5], .null), (.iaload, 1, [], .null), (.bipush 8, 2, [], .int 8), (.if_icmp .ne 4, 3, [21, 0, 3, 5], .null), (.return_, 1, [], .null)]),
  (21, [(.aload_n 0, 1, [0], .null), (.getfield 42, 3, [9, 10, 2], .null), (.bipush 8, 2, [], .int 8), (.iload 5, 2, [5], .null), (.imul, 1, [], .null), (.aload_n 0, 1, [0], .null), (.getfield 45, 3, [9, 11, 2], .null), (.iload 5, 2, [5], .null), (.iaload, 1, [], .null), (.iadd, 1, [], .null), (.lload_n 3, 1, [3], .null), (.lastore, 1, [], .null), (.aload_n 0, 1, [0], .null), (.getfield 45, 3, [9, 11, 2], .null), (.iload 5, 2, [5], .null), (.dup2, 1, [], .null), (.iaload, 1, [], .null), (.iconst 1, 1, [], .int 1), (.iadd, 1, [], .null), (.iastore, 1, [], .null), (.return_, 1, [], .null)])], [[]], [0, 1, 2, 3])
def k_Md_deliver : aK := ([(0, [(.aload_n 0, 1, [0], .null), (.iload_n 1, 1, [1], .null), (.iconst 0, 1, [], .int 0), (.bipush 6, 2, [], .int 6), (.invokestatic 86, 3, [90, 3, 0, 0], .null), (.ifCond .eq 16, 3, [24, 0, 1, 2], .null), (.iload_n 2, 1, [2], .null), (.iconst 0, 1, [], .int 0), (.iconst 5, 1, [], .int 5), (.invokestatic 86, 3, [90, 3, 0, 0], .null), (.ifCond .eq 7, 3, [24, 0, 1, 2], .null), (.iconst 1, 1, [], .int 1), (.goto 4, 3, [25, 0, 1, 2], .null)]),
  (24, [(.iconst 0, 1, [], .int 0), (.nop, 0, [25, 0, 1, 2], .null)]),
  (25, [(.iconst 2, 1, [], .int 2), (.invokevirtual 199, 3, [92, 3, 0, 0], .null), (.ifCond .ne 5, 3, [34, 0, 1, 2], .null), (.iconst 0, 1, [], .int 0), (.ireturn, 1, [0], .null)]),
  (34, [(.bipush 6, 2, [], .int 6), (.iload_n 1, 1, [1], .null), (.imul, 1, [], .null), (.iload_n 2, 1, [2], .null), (.iadd, 1, [], .null), (.istore_n 3, 1, [3], .null), (.aload_n 0, 1, [0], .null), (.aload_n 0, 1, [0], .null), (.getfield 45, 3, [9, 11, 2], .null), (.iload_n 3, 1, [3], .null), (.iaload, 1, [], .null), (.ifCond .le 7, 3, [55, 0, 1, 2, 3], .null), (.iconst 1, 1, [], .int 1), (.goto 4, 3, [56, 0, 1, 2, 3], .null)]),
  (55, [(.iconst 0, 1, [], .int 0), (.nop, 0, [56, 0, 1, 2, 3], .null)]),
  (56, [(.iconst 3, 1, [], .int 3), (.invokevirtual 199, 3, [92, 3, 0, 0], .null), (.ifCond .ne 5, 3, [65, 0, 1, 2, 3], .null), (.iconst 0, 1, [], .int 0), (.ireturn, 1, [0], .null)]),
  (65, [(.aload_n 0, 1, [0], .null), (.getfield 42, 3, [9, 10, 2], .null), (.bipush 8, 2, [], .int 8), (.iload_n 3, 1, [3], .null), (.imul, 1, [], .null), (.laload, 1, [], .null), (.lstore 4, 2, [4], .null), (.lload 4, 2, [4], .null), (.ldc2_w 164, 3, [], .long 4611686018427387904), (.land, 1, [], .null), (.lconst 0, 1, [], .long 0), (.lcmp, 1, [], .null), (.ifCond .eq 7, 3, [91, 0, 1, 2, 3, 4], .null), (.iconst 1, 1, [], .int 1), (.goto 4, 3, [92, 0, 1, 2, 3, 4], .null)]),
  (91, [(.iconst 0, 1, [], .int 0), (.nop, 0, [92, 0, 1, 2, 3, 4], .null)]),
  (92, [(.istore 6, 2, [6], .null), (.lload 4, 2, [4], .null), (.ldc2_w 209, 3, [], .long (-4611686018427387905)), (.land, 1, [], .null), (.lstore 7, 2, [7], .null), (.aload_n 0, 1, [0], .null), (.getfield 20, 3, [9, 3, 2], .null), (.iload_n 2, 1, [2], .null), (.iaload, 1, [], .null), (.iconst 1, 1, [], .int 1), (.if_icmp .ne 7, 3, [116, 0, 1, 2, 3, 6, 7], .null), (.iconst 1, 1, [], .int 1), (.goto 4, 3, [117, 0, 1, 2, 3, 6, 7], .null)]),
  (116, [(.iconst 0, 1, [], .int 0), (.nop, 0, [117, 0, 1, 2, 3, 6, 7], .null)]),
  (117, [(.istore 9, 2, [9], .null), (.iload 9, 2, [9], .null), (.ifCond .eq 21, 3, [142, 0, 1, 2, 3, 6, 7, 9], .null), (.iload 6, 2, [6], .null), (.ifCond .eq 12, 3, [138, 0, 1, 2, 3, 6, 7, 9], .null), (.aload_n 0, 1, [0], .null), (.getfield 33, 3, [9, 7, 2], .null), (.iload_n 2, 1, [2], .null), (.baload, 1, [], .null), (.ifCond .eq 7, 3, [142, 0, 1, 2, 3, 6, 7, 9], .null), (.nop, 0, [138, 0, 1, 2, 3, 6, 7, 9], .null)]),
  (138, [(.iconst 1, 1, [], .int 1), (.goto 4, 3, [143, 0, 1, 2, 3, 6, 7, 9], .null)]),
  (142, [(.iconst 0, 1, [], .int 0), (.nop, 0, [143, 0, 1, 2, 3, 6, 7, 9], .null)]),
  (143, [(.istore 10, 2, [10], .null), (.aload_n 0, 1, [0], .null), (.iload 10, 2, [10], .null), (.ifCond .eq 14, 3, [162, 0, 1, 2, 3, 6, 7, 9, 10], .null), (.aload_n 0, 1, [0], .null), (.getfield 30, 3, [9, 6, 2], .null), (.iload_n 2, 1, [2], .null), (.iaload, 1, [], .null), (.bipush 6, 2, [], .int 6), (.if_icmp .ge 7, 3, [166, 0, 1, 2, 3, 6, 7, 9, 10], .null), (.nop, 0, [162, 0, 1, 2, 3, 6, 7, 9, 10], .null)]),
  (162, [(.iconst 1, 1, [], .int 1), (.goto 4, 3, [167, 0, 1, 2, 3, 6, 7, 9, 10], .null)]),
  (166, [(.iconst 0, 1, [], .int 0), (.nop, 0, [167, 0, 1, 2, 3, 6, 7, 9, 10], .null)]),
  (167, [(.iconst 1, 1, [], .int 1), (.invokevirtual 199, 3, [92, 3, 0, 0], .null), (.ifCond .ne 5, 3, [176, 0, 1, 2, 3, 6, 7, 9, 10], .null), (.iconst 0, 1, [], .int 0), (.ireturn, 1, [0], .null)]),
  (176, [(.aload_n 0, 1, [0], .null), (.getfield 45, 3, [9, 11, 2], .null), (.iload_n 3, 1, [3], .null), (.dup2, 1, [], .null), (.iaload, 1, [], .null), (.iconst 1, 1, [], .int 1), (.isub, 1, [], .null), (.iastore, 1, [], .null), (.iconst 0, 1, [], .int 0), (.istore 11, 2, [11], .null), (.nop, 0, [189, 0, 1, 2, 3, 6, 7, 9, 10, 11], .null)]),
  (189, [(.iload 11, 2, [11], .null), (.aload_n 0, 1, [0], .null), (.getfield 45, 3, [9, 11, 2], .null), (.iload_n 3, 1, [3], .null), (.iaload, 1, [], .null), (.if_icmp .ge 35, 3, [232, 0, 1, 2, 6, 7, 9, 10], .null), (.aload_n 0, 1, [0], .null), (.getfield 42, 3, [9, 10, 2], .null), (.bipush 8, 2, [], .int 8), (.iload_n 3, 1, [3], .null), (.imul, 1, [], .null), (.iload 11, 2, [11], .null), (.iadd, 1, [], .null), (.aload_n 0, 1, [0], .null), (.getfield 42, 3, [9, 10, 2], .null), (.bipush 8, 2, [], .int 8), (.iload_n 3, 1, [3], .null), (.imul, 1, [], .null), (.iload 11, 2, [11], .null), (.iadd, 1, [], .null), (.iconst 1, 1, [], .int 1), (.iadd, 1, [], .null), (.laload, 1, [], .null), (.lastore, 1, [], .null), (.iinc 11 1, 3, [11], .int 1), (.goto (-40), 3, [189, 0, 1, 2, 3, 6, 7, 9, 10, 11], .null)]),
  (232, [(.iload 9, 2, [9], .null), (.ifCond .ne 5, 3, [239, 0, 1, 2, 6, 7, 10], .null), (.iconst 0, 1, [], .int 0), (.ireturn, 1, [0], .null)]),
  (239, [(.iload 10, 2, [10], .null), (.ifCond .eq 67, 3, [308, 0, 2, 7], .null), (.aload_n 0, 1, [0], .null), (.getfield 27, 3, [9, 5, 2], .null), (.bipush 6, 2, [], .int 6), (.iload_n 2, 1, [2], .null), (.imul, 1, [], .null), (.aload_n 0, 1, [0], .null), (.getfield 30, 3, [9, 6, 2], .null), (.iload_n 2, 1, [2], .null), (.iaload, 1, [], .null), (.iadd, 1, [], .null), (.iload 6, 2, [6], .null), (.ifCond .eq 23, 3, [284, 0, 2, 6, 7], .null), (.bipush 6, 2, [], .int 6), (.invokestatic 134, 3, [111, 1, 1, 0], .null), (.iload_n 1, 1, [1], .null), (.invokestatic 131, 3, [112, 1, 1, 0], .null), (.lload 7, 2, [7], .null), (.invokestatic 140, 3, [113, 2, 1, 0], .null), (.invokestatic 140, 3, [113, 2, 1, 0], .null), (.goto 5, 3, [286, 0, 2, 6], .null)]),
  (284, [(.lload 7, 2, [7], .null), (.nop, 0, [286, 0, 2, 6], .null)]),
  (286, [(.lastore, 1, [], .null), (.aload_n 0, 1, [0], .null), (.getfield 30, 3, [9, 6, 2], .null), (.iload_n 2, 1, [2], .null), (.dup2, 1, [], .null), (.iaload, 1, [], .null), (.iconst 1, 1, [], .int 1), (.iadd, 1, [], .null), (.iastore, 1, [], .null), (.iload 6, 2, [6], .null), (.ifCond .eq 7, 3, [306], .null), (.iconst 2, 1, [], .int 2), (.goto 4, 3, [307], .null)]),
  (306, [(.iconst 1, 1, [], .int 1), (.nop, 0, [307], .null)]),
  (307, [(.ireturn, 1, [0], .null)]),
  (308, [(.lload 7, 2, [7], .null), (.iconst 0, 1, [], .int 0), (.invokestatic 134, 3, [111, 1, 1, 0], .null), (.lcmp, 1, [], .null), (.ifCond .ne 5, 3, [320, 0, 2, 7], .null), (.iconst 3, 1, [], .int 3), (.ireturn, 1, [0], .null)]),
  (320, [(.aload_n 0, 1, [0], .null), (.iload_n 2, 1, [2], .null), (.lload 7, 2, [7], .null), (.iconst 0, 1, [], .int 0), (.invokestatic 74, 3, [117, 2, 0, 0], .null), (.invokevirtual 184, 3, [118, 3, 0, 0], .null), (.istore 11, 2, [11], .null), (.iconst 4, 1, [], .int 4), (.ireturn, 1, [0], .null)])], [[]], [0, 1, 2])
def k_Md_leafOf : aK := ([(0, [(.lload_n 0, 1, [0], .null), (.bipush 10, 2, [], .int 10), (.bipush 11, 2, [], .int 11), (.iload_n 2, 1, [2], .null), (.imul, 1, [], .null), (.iadd, 1, [], .null), (.lshr, 1, [], .null), (.l2i, 1, [], .null), (.sipush 2047, 3, [], .int 2047), (.iand, 1, [], .null), (.ireturn, 1, [0], .null)])], [[]], [0, 2])
def k_Md_end : aK := ([(0, [(.aload_n 0, 1, [0], .null), (.getfield 20, 3, [9, 3, 2], .null), (.iload_n 1, 1, [1], .null), (.iconst 2, 1, [], .int 2), (.iastore, 1, [], .null), (.aload_n 0, 1, [0], .null), (.getfield 30, 3, [9, 6, 2], .null), (.iload_n 1, 1, [1], .null), (.iconst 0, 1, [], .int 0), (.iastore, 1, [], .null), (.aload_n 0, 1, [0], .null), (.getfield 36, 3, [9, 8, 2], .null), (.iload_n 1, 1, [1], .null), (.iload_n 2, 1, [2], .null), (.iastore, 1, [], .null), (.iconst 0, 1, [], .int 0), (.istore_n 3, 1, [3], .null), (.iconst 0, 1, [], .int 0), (.istore 4, 2, [4], .null), (.nop, 0, [26, 0, 1, 2, 3, 4], .null)]),
  (26, [(.iload 4, 2, [4], .null), (.bipush 6, 2, [], .int 6), (.if_icmp .ge 50, 3, [80, 3], .null), (.aload_n 0, 1, [0], .null), (.getfield 39, 3, [9, 9, 2], .null), (.bipush 6, 2, [], .int 6), (.iload_n 1, 1, [1], .null), (.imul, 1, [], .null), (.iload 4, 2, [4], .null), (.iadd, 1, [], .null), (.baload, 1, [], .null), (.ifCond .eq 29, 3, [74, 0, 1, 2, 3, 4], .null), (.aload_n 0, 1, [0], .null), (.iload_n 1, 1, [1], .null), (.iload 4, 2, [4], .null), (.iload_n 2, 1, [2], .null), (.invokestatic 64, 3, [108, 1, 1, 0], .null), (.ldc2_w 164, 3, [], .long 4611686018427387904), (.lor, 1, [], .null), (.invokevirtual 166, 3, [115, 4, 9, 0], .null), (.aload_n 0, 1, [0], .null), (.iload_n 1, 1, [1], .null), (.iload 4, 2, [4], .null), (.iconst 0, 1, [], .int 0), (.invokevirtual 170, 3, [119, 4, 9, 0], .null), (.iinc 3 1, 3, [3], .int 1), (.nop, 0, [74, 0, 1, 2, 3, 4], .null)]),
  (74, [(.iinc 4 1, 3, [4], .int 1), (.goto (-51), 3, [26, 0, 1, 2, 3, 4], .null)]),
  (80, [(.iload_n 3, 1, [3], .null), (.ireturn, 1, [0], .null)])], [[]], [0, 1, 2])
def k_Md_link : aK := ([(0, [(.aload_n 0, 1, [0], .null), (.getfield 39, 3, [9, 9, 2], .null), (.bipush 6, 2, [], .int 6), (.iload_n 1, 1, [1], .null), (.imul, 1, [], .null), (.iload_n 2, 1, [2], .null), (.iadd, 1, [], .null), (.iload_n 3, 1, [3], .null), (.bastore, 1, [], .null), (.aload_n 0, 1, [0], .null), (.getfield 39, 3, [9, 9, 2], .null), (.bipush 6, 2, [], .int 6), (.iload_n 2, 1, [2], .null), (.imul, 1, [], .null), (.iload_n 1, 1, [1], .null), (.iadd, 1, [], .null), (.iload_n 3, 1, [3], .null), (.bastore, 1, [], .null), (.return_, 1, [], .null)])], [[]], [0, 1, 2, 3])
def k_Md_step : aK := ([(0, [(.aload_n 0, 1, [0], .null), (.iload_n 1, 1, [1], .null), (.iconst 0, 1, [], .int 0), (.iconst 5, 1, [], .int 5), (.invokestatic 86, 3, [90, 3, 0, 0], .null), (.iconst 2, 1, [], .int 2), (.invokevirtual 199, 3, [92, 3, 0, 0], .null), (.ifCond .ne 5, 3, [16, 0, 1], .null), (.iconst 0, 1, [], .int 0), (.ireturn, 1, [0], .null)]),
  (16, [(.aload_n 0, 1, [0], .null), (.aload_n 0, 1, [0], .null), (.getfield 20, 3, [9, 3, 2], .null), (.iload_n 1, 1, [1], .null), (.iaload, 1, [], .null), (.iconst 1, 1, [], .int 1), (.if_icmp .ne 7, 3, [31, 0, 1], .null), (.iconst 1, 1, [], .int 1), (.goto 4, 3, [32, 0, 1], .null)]),
  (31, [(.iconst 0, 1, [], .int 0), (.nop, 0, [32, 0, 1], .null)]),
  (32, [(.iconst 1, 1, [], .int 1), (.invokevirtual 199, 3, [92, 3, 0, 0], .null), (.ifCond .ne 5, 3, [41, 0, 1], .null), (.iconst 0, 1, [], .int 0), (.ireturn, 1, [0], .null)]),
  (41, [(.bipush 60, 2, [], .int 60), (.iconst 3, 1, [], .int 3), (.iload_n 1, 1, [1], .null), (.iadd, 1, [], .null), (.imul, 1, [], .null), (.istore_n 2, 1, [2], .null), (.iconst 0, 1, [], .int 0), (.istore_n 3, 1, [3], .null), (.nop, 0, [50, 0, 1, 2, 3], .null)]),
  (50, [(.iload_n 3, 1, [3], .null), (.aload_n 0, 1, [0], .null), (.getfield 30, 3, [9, 6, 2], .null), (.iload_n 1, 1, [1], .null), (.iaload, 1, [], .null), (.if_icmp .ge 124, 3, [181, 0], .null), (.iconst 0, 1, [], .int 0), (.istore 4, 2, [4], .null), (.iload_n 2, 1, [2], .null), (.istore 5, 2, [5], .null), (.nop, 0, [66, 0, 1, 2, 3, 4, 5], .null)]),
  (66, [(.iload 5, 2, [5], .null), (.iload_n 2, 1, [2], .null), (.aload_n 0, 1, [0], .null), (.getfield 13, 3, [9, 1, 2], .null), (.iconst 3, 1, [], .int 3), (.iload_n 1, 1, [1], .null), (.iadd, 1, [], .null), (.iaload, 1, [], .null), (.iadd, 1, [], .null), (.if_icmp .ge 97, 3, [175, 0, 1, 2, 3], .null), (.aload_n 0, 1, [0], .null), (.iload_n 1, 1, [1], .null), (.iload 5, 2, [5], .null), (.aload_n 0, 1, [0], .null), (.getfield 27, 3, [9, 5, 2], .null), (.bipush 6, 2, [], .int 6), (.iload_n 1, 1, [1], .null), (.imul, 1, [], .null), (.iload_n 3, 1, [3], .null), (.iadd, 1, [], .null), (.laload, 1, [], .null), (.invokevirtual 211, 3, [121, 4, 0, 0], .null), (.ifCond .eq 49, 3, [148, 0, 1, 2, 3, 4, 5], .null), (.aload_n 0, 1, [0], .null), (.iload_n 1, 1, [1], .null), (.iload_n 3, 1, [3], .null), (.invokevirtual 215, 3, [131, 3, 9, 0], .null), (.nop, 0, [108, 0, 1, 3, 4], .null)]),
  (108, [(.aload_n 0, 1, [0], .null), (.getfield 7, 3, [9, 0, 2], .null), (.aload_n 0, 1, [0], .null), (.getfield 122, 3, [9, 19, 0], .null), (.iaload, 1, [], .null), (.bipush 58, 2, [], .int 58), (.if_icmp .eq 16, 3, [135, 0, 1, 3, 4], .null), (.aload_n 0, 1, [0], .null), (.dup, 1, [], .null), (.getfield 122, 3, [9, 19, 0], .null), (.iconst 1, 1, [], .int 1), (.iadd, 1, [], .null), (.putfield 122, 3, [9, 19, 0], .null), (.goto (-24), 3, [108, 0, 1, 3, 4], .null)]),
  (135, [(.aload_n 0, 1, [0], .null), (.iload_n 1, 1, [1], .null), (.iload 4, 2, [4], .null), (.bipush 100, 2, [], .int 100), (.iload_n 3, 1, [3], .null), (.imul, 1, [], .null), (.iadd, 1, [], .null), (.invokevirtual 219, 3, [132, 3, 0, 0], .null), (.ireturn, 1, [0], .null)]),
  (148, [(.aload_n 0, 1, [0], .null), (.getfield 7, 3, [9, 0, 2], .null), (.iload 5, 2, [5], .null), (.iaload, 1, [], .null), (.bipush 59, 2, [], .int 59), (.if_icmp .eq 9, 3, [166, 0, 1, 2, 3, 4, 5], .null), (.iinc 5 1, 3, [5], .int 1), (.goto (-15), 3, [148, 0, 1, 2, 3, 4, 5], .null)]),
  (166, [(.iinc 5 1, 3, [5], .int 1), (.iinc 4 1, 3, [4], .int 1), (.goto (-106), 3, [66, 0, 1, 2, 3, 4, 5], .null)]),
  (175, [(.iinc 3 1, 3, [3], .int 1), (.goto (-128), 3, [50, 0, 1, 2, 3], .null)]),
  (181, [(.aload_n 0, 1, [0], .null), (.iconst 3, 1, [], .int 3), (.invokevirtual 196, 3, [91, 2, 0, 0], .null), (.ireturn, 1, [0], .null)])], [[]], [0, 1])
def k_Md_takes : aK := ([(0, [(.iconst 0, 1, [], .int 0), (.istore 5, 2, [5], .null), (.nop, 0, [3, 0, 1, 2, 3, 5], .null)]),
  (3, [(.iload 5, 2, [5], .null), (.iconst 5, 1, [], .int 5), (.if_icmp .ge 17, 3, [23, 0, 1, 2, 3], .null), (.aload_n 0, 1, [0], .null), (.getfield 48, 3, [9, 12, 2], .null), (.iload 5, 2, [5], .null), (.lconst 0, 1, [], .long 0), (.lastore, 1, [], .null), (.iinc 5 1, 3, [5], .int 1), (.goto (-17), 3, [3, 0, 1, 2, 3, 5], .null)]),
  (23, [(.aload_n 0, 1, [0], .null), (.getfield 48, 3, [9, 12, 2], .null), (.iconst 5, 1, [], .int 5), (.aload_n 0, 1, [0], .null), (.getfield 23, 3, [9, 4, 2], .null), (.iload_n 1, 1, [1], .null), (.laload, 1, [], .null), (.lastore, 1, [], .null), (.aload_n 0, 1, [0], .null), (.iload_n 2, 1, [2], .null), (.lload_n 3, 1, [3], .null), (.invokevirtual 188, 3, [122, 3, 0, 0], .null), (.ifCond .ne 5, 3, [46, 0, 1], .null), (.iconst 0, 1, [], .int 0), (.ireturn, 1, [3], .null)]),
  (46, [(.aload_n 0, 1, [0], .null), (.getfield 7, 3, [9, 0, 2], .null), (.aload_n 0, 1, [0], .null), (.getfield 122, 3, [9, 19, 0], .null), (.iaload, 1, [], .null), (.bipush 58, 2, [], .int 58), (.if_icmp .ne 5, 3, [62, 0, 1], .null), (.iconst 1, 1, [], .int 1), (.ireturn, 1, [3], .null)]),
  (62, [(.aload_n 0, 1, [0], .null), (.aload_n 0, 1, [0], .null), (.getfield 122, 3, [9, 19, 0], .null), (.iconst 1, 1, [], .int 1), (.iadd, 1, [], .null), (.iload_n 1, 1, [1], .null), (.invokevirtual 178, 3, [128, 3, 1, 0], .null), (.lstore 5, 2, [5], .null), (.lload 5, 2, [5], .null), (.lconst 0, 1, [], .long 0), (.lcmp, 1, [], .null), (.ifCond .ne 5, 3, [84, 0, 1, 5], .null), (.iconst 0, 1, [], .int 0), (.ireturn, 1, [3], .null)]),
  (84, [(.aload_n 0, 1, [0], .null), (.getfield 7, 3, [9, 0, 2], .null), (.aload_n 0, 1, [0], .null), (.getfield 122, 3, [9, 19, 0], .null), (.iaload, 1, [], .null), (.bipush 61, 2, [], .int 61), (.if_icmp .ne 7, 3, [102, 0, 1, 5], .null), (.iconst 1, 1, [], .int 1), (.goto 4, 3, [103, 0, 1, 5], .null)]),
  (102, [(.iconst 0, 1, [], .int 0), (.nop, 0, [103, 0, 1, 5], .null)]),
  (103, [(.istore 7, 2, [7], .null), (.aload_n 0, 1, [0], .null), (.aload_n 0, 1, [0], .null), (.getfield 122, 3, [9, 19, 0], .null), (.iconst 1, 1, [], .int 1), (.iadd, 1, [], .null), (.iload_n 1, 1, [1], .null), (.invokevirtual 178, 3, [128, 3, 1, 0], .null), (.lstore 8, 2, [8], .null), (.lload 8, 2, [8], .null), (.lconst 0, 1, [], .long 0), (.lcmp, 1, [], .null), (.ifCond .ne 5, 3, [127, 5, 7, 8], .null), (.iconst 0, 1, [], .int 0), (.ireturn, 1, [3], .null)]),
  (127, [(.iload 7, 2, [7], .null), (.ifCond .eq 19, 3, [148, 5, 8], .null), (.lload 5, 2, [5], .null), (.lload 8, 2, [8], .null), (.lcmp, 1, [], .null), (.ifCond .ne 7, 3, [144], .null), (.iconst 1, 1, [], .int 1), (.goto 43, 3, [184], .null)]),
  (144, [(.iconst 0, 1, [], .int 0), (.goto 39, 3, [184], .null)]),
  (148, [(.lload 5, 2, [5], .null), (.invokestatic 144, 3, [130, 1, 0, 0], .null), (.ifCond .eq 30, 3, [183], .null), (.lload 8, 2, [8], .null), (.invokestatic 144, 3, [130, 1, 0, 0], .null), (.ifCond .eq 22, 3, [183], .null), (.lload 5, 2, [5], .null), (.iconst 0, 1, [], .int 0), (.invokestatic 74, 3, [117, 2, 0, 0], .null), (.lload 8, 2, [8], .null), (.iconst 0, 1, [], .int 0), (.invokestatic 74, 3, [117, 2, 0, 0], .null), (.if_icmp .ge 7, 3, [183], .null), (.iconst 1, 1, [], .int 1), (.goto 4, 3, [184], .null)]),
  (183, [(.iconst 0, 1, [], .int 0), (.nop, 0, [184], .null)]),
  (184, [(.ireturn, 1, [3], .null)])], [[]], [0, 1, 2, 3])
def k_Md_fits : aK := ([(0, [(.iconst 1, 1, [], .int 1), (.istore 4, 2, [4], .null), (.iconst 0, 1, [], .int 0), (.istore 5, 2, [5], .null), (.iconst 0, 1, [], .int 0), (.istore 6, 2, [6], .null), (.aload_n 0, 1, [0], .null), (.iload_n 1, 1, [1], .null), (.putfield 122, 3, [9, 19, 0], .null), (.nop, 0, [14, 0, 2, 4, 5, 6], .null)]),
  (14, [(.iload 4, 2, [4], .null), (.ifCond .le 210, 3, [226, 0], .null), (.aload_n 0, 1, [0], .null), (.getfield 7, 3, [9, 0, 2], .null), (.aload_n 0, 1, [0], .null), (.getfield 122, 3, [9, 19, 0], .null), (.iaload, 1, [], .null), (.istore 7, 2, [7], .null), (.iload 7, 2, [7], .null), (.bipush 44, 2, [], .int 44), (.if_icmp .eq 10, 3, [44, 0, 2, 4, 5, 6], .null), (.iload 7, 2, [7], .null), (.bipush 41, 2, [], .int 41), (.if_icmp .ne 16, 3, [57, 0, 2, 4, 5, 6, 7], .null), (.nop, 0, [44, 0, 2, 4, 5, 6], .null)]),
  (44, [(.aload_n 0, 1, [0], .null), (.dup, 1, [], .null), (.getfield 122, 3, [9, 19, 0], .null), (.iconst 1, 1, [], .int 1), (.iadd, 1, [], .null), (.putfield 122, 3, [9, 19, 0], .null), (.goto 169, 3, [223, 0, 2, 4, 5, 6], .null)]),
  (57, [(.iload 7, 2, [7], .null), (.bipush 40, 2, [], .int 40), (.if_icmp .ne 33, 3, [94, 0, 2, 4, 5, 6, 7], .null), (.lload_n 2, 1, [2], .null), (.iload 5, 2, [5], .null), (.invokestatic 80, 3, [123, 2, 0, 0], .null), (.ifCond .ne 5, 3, [75, 0, 2, 4, 5, 6], .null), (.iconst 0, 1, [], .int 0), (.ireturn, 1, [3], .null)]),
  (75, [(.iinc 5 1, 3, [5], .int 1), (.iinc 4 1, 3, [4], .int 1), (.aload_n 0, 1, [0], .null), (.dup, 1, [], .null), (.getfield 122, 3, [9, 19, 0], .null), (.iconst 1, 1, [], .int 1), (.iadd, 1, [], .null), (.putfield 122, 3, [9, 19, 0], .null), (.goto 132, 3, [223, 0, 2, 4, 5, 6], .null)]),
  (94, [(.lload_n 2, 1, [2], .null), (.iload 5, 2, [5], .null), (.iload 6, 2, [6], .null), (.invokestatic 156, 3, [124, 3, 1, 0], .null), (.lstore 8, 2, [8], .null), (.iload 7, 2, [7], .null), (.invokestatic 106, 3, [100, 1, 0, 0], .null), (.istore 10, 2, [10], .null), (.iload 10, 2, [10], .null), (.ifCond .lt 15, 3, [128, 0, 2, 4, 5, 6, 7, 8, 10], .null), (.aload_n 0, 1, [0], .null), (.getfield 48, 3, [9, 12, 2], .null), (.iload 10, 2, [10], .null), (.laload, 1, [], .null), (.lconst 0, 1, [], .long 0), (.lcmp, 1, [], .null), (.ifCond .eq 7, 3, [132, 0, 2, 4, 5, 6, 7, 8, 10], .null), (.nop, 0, [128, 0, 2, 4, 5, 6, 7, 8, 10], .null)]),
  (128, [(.iconst 1, 1, [], .int 1), (.goto 4, 3, [133, 0, 2, 4, 5, 6, 7, 8, 10], .null)]),
  (132, [(.iconst 0, 1, [], .int 0), (.nop, 0, [133, 0, 2, 4, 5, 6, 7, 8, 10], .null)]),
  (133, [(.istore 11, 2, [11], .null), (.iload 7, 2, [7], .null), (.bipush 95, 2, [], .int 95), (.if_icmp .ne 16, 3, [155, 0, 2, 4, 5, 6, 8, 10, 11], .null), (.aload_n 0, 1, [0], .null), (.dup, 1, [], .null), (.getfield 122, 3, [9, 19, 0], .null), (.iconst 1, 1, [], .int 1), (.iadd, 1, [], .null), (.putfield 122, 3, [9, 19, 0], .null), (.goto 47, 3, [199, 0, 2, 4, 5, 6, 8], .null)]),
  (155, [(.iload 11, 2, [11], .null), (.ifCond .ne 25, 3, [182, 0, 2, 4, 5, 6, 8], .null), (.aload_n 0, 1, [0], .null), (.getfield 48, 3, [9, 12, 2], .null), (.iload 10, 2, [10], .null), (.lload 8, 2, [8], .null), (.lastore, 1, [], .null), (.aload_n 0, 1, [0], .null), (.dup, 1, [], .null), (.getfield 122, 3, [9, 19, 0], .null), (.iconst 1, 1, [], .int 1), (.iadd, 1, [], .null), (.putfield 122, 3, [9, 19, 0], .null), (.goto 20, 3, [199, 0, 2, 4, 5, 6, 8], .null)]),
  (182, [(.aload_n 0, 1, [0], .null), (.aload_n 0, 1, [0], .null), (.getfield 122, 3, [9, 19, 0], .null), (.iconst 0, 1, [], .int 0), (.invokevirtual 148, 3, [126, 3, 1, 0], .null), (.lload 8, 2, [8], .null), (.lcmp, 1, [], .null), (.ifCond .eq 5, 3, [199, 0, 2, 4, 5, 6, 8], .null), (.iconst 0, 1, [], .int 0), (.ireturn, 1, [3], .null)]),
  (199, [(.iinc 4 (-1), 3, [4], .int (-1)), (.iload 5, 2, [5], .null), (.lload_n 2, 1, [2], .null), (.iload 5, 2, [5], .null), (.invokestatic 83, 3, [125, 2, 0, 0], .null), (.iadd, 1, [], .null), (.istore 5, 2, [5], .null), (.iload 6, 2, [6], .null), (.lload 8, 2, [8], .null), (.invokestatic 70, 3, [114, 1, 0, 0], .null), (.iadd, 1, [], .null), (.istore 6, 2, [6], .null), (.nop, 0, [223, 0, 2, 4, 5, 6], .null)]),
  (223, [(.goto (-209), 3, [14, 0, 2, 4, 5, 6], .null)]),
  (226, [(.aload_n 0, 1, [0], .null), (.getfield 7, 3, [9, 0, 2], .null), (.aload_n 0, 1, [0], .null), (.getfield 122, 3, [9, 19, 0], .null), (.iaload, 1, [], .null), (.bipush 41, 2, [], .int 41), (.if_icmp .ne 16, 3, [253], .null), (.aload_n 0, 1, [0], .null), (.dup, 1, [], .null), (.getfield 122, 3, [9, 19, 0], .null), (.iconst 1, 1, [], .int 1), (.iadd, 1, [], .null), (.putfield 122, 3, [9, 19, 0], .null), (.goto (-24), 3, [226, 0], .null)]),
  (253, [(.iconst 1, 1, [], .int 1), (.ireturn, 1, [3], .null)])], [[]], [0, 1, 2])
def k_Md_bit : aK := ([(0, [(.lload_n 0, 1, [0], .null), (.iconst 3, 1, [], .int 3), (.iload_n 2, 1, [2], .null), (.iadd, 1, [], .null), (.lshr, 1, [], .null), (.l2i, 1, [], .null), (.iconst 1, 1, [], .int 1), (.iand, 1, [], .null), (.ireturn, 1, [0], .null)])], [[]], [0, 2])
def k_Md_part : aK := ([(0, [(.lload_n 0, 1, [0], .null), (.iload_n 2, 1, [2], .null), (.invokestatic 83, 3, [125, 2, 0, 0], .null), (.istore 4, 2, [4], .null), (.iload 4, 2, [4], .null), (.iconst 1, 1, [], .int 1), (.iadd, 1, [], .null), (.iconst 2, 1, [], .int 2), (.idiv, 1, [], .null), (.istore 5, 2, [5], .null), (.lload_n 0, 1, [0], .null), (.iconst 3, 1, [], .int 3), (.iload_n 2, 1, [2], .null), (.iadd, 1, [], .null), (.lshr, 1, [], .null), (.lconst 1, 1, [], .long 1), (.iload 4, 2, [4], .null), (.lshl, 1, [], .null), (.lconst 1, 1, [], .long 1), (.lsub, 1, [], .null), (.land, 1, [], .null), (.lstore 6, 2, [6], .null), (.iload 5, 2, [5], .null), (.i2l, 1, [], .null), (.lload 6, 2, [6], .null), (.iconst 3, 1, [], .int 3), (.lshl, 1, [], .null), (.lor, 1, [], .null), (.lload_n 0, 1, [0], .null), (.bipush 10, 2, [], .int 10), (.bipush 11, 2, [], .int 11), (.iload_n 3, 1, [3], .null), (.imul, 1, [], .null), (.iadd, 1, [], .null), (.lshr, 1, [], .null), (.lconst 1, 1, [], .long 1), (.bipush 11, 2, [], .int 11), (.iload 5, 2, [5], .null), (.imul, 1, [], .null), (.lshl, 1, [], .null), (.lconst 1, 1, [], .long 1), (.lsub, 1, [], .null), (.land, 1, [], .null), (.bipush 10, 2, [], .int 10), (.lshl, 1, [], .null), (.lor, 1, [], .null), (.lreturn, 1, [], .null)])], [[]], [0, 2, 3])
def k_Md_bits : aK := ([(0, [(.iconst 1, 1, [], .int 1), (.istore_n 3, 1, [3], .null), (.iload_n 2, 1, [2], .null), (.istore 4, 2, [4], .null), (.nop, 0, [5, 0, 2, 3, 4], .null)]),
  (5, [(.iload_n 3, 1, [3], .null), (.ifCond .le 27, 3, [33, 2, 4], .null), (.iload_n 3, 1, [3], .null), (.lload_n 0, 1, [0], .null), (.iload 4, 2, [4], .null), (.invokestatic 80, 3, [123, 2, 0, 0], .null), (.iconst 1, 1, [], .int 1), (.if_icmp .ne 7, 3, [24, 0, 2, 4], .null), (.iconst 1, 1, [], .int 1), (.goto 4, 3, [25, 0, 2, 4], .null)]),
  (24, [(.iconst (-1), 1, [], .int (-1)), (.nop, 0, [25, 0, 2, 4], .null)]),
  (25, [(.iadd, 1, [], .null), (.istore_n 3, 1, [3], .null), (.iinc 4 1, 3, [4], .int 1), (.goto (-25), 3, [5, 0, 2, 3, 4], .null)]),
  (33, [(.iload 4, 2, [4], .null), (.iload_n 2, 1, [2], .null), (.isub, 1, [], .null), (.ireturn, 1, [0], .null)])], [[]], [0, 2])
def k_Md_simple : aK := ([(0, [(.aload_n 0, 1, [0], .null), (.getfield 7, 3, [9, 0, 2], .null), (.iload_n 1, 1, [1], .null), (.iaload, 1, [], .null), (.istore_n 3, 1, [3], .null), (.iload_n 3, 1, [3], .null), (.invokestatic 99, 3, [98, 1, 0, 0], .null), (.ifCond .ne 9, 3, [20, 0, 1], .null), (.iload_n 3, 1, [3], .null), (.bipush 39, 2, [], .int 39), (.if_icmp .ne 12, 3, [29, 0, 1, 2, 3], .null), (.nop, 0, [20, 0, 1], .null)]),
  (20, [(.aload_n 0, 1, [0], .null), (.iload_n 1, 1, [1], .null), (.invokevirtual 125, 3, [127, 2, 0, 0], .null), (.invokestatic 128, 3, [107, 1, 1, 0], .null), (.lreturn, 1, [], .null)]),
  (29, [(.aload_n 0, 1, [0], .null), (.iload_n 1, 1, [1], .null), (.iconst 1, 1, [], .int 1), (.iadd, 1, [], .null), (.putfield 122, 3, [9, 19, 0], .null), (.iload_n 3, 1, [3], .null), (.bipush 35, 2, [], .int 35), (.if_icmp .ne 8, 3, [47, 0, 3], .null), (.iload_n 2, 1, [2], .null), (.invokestatic 131, 3, [112, 1, 1, 0], .null), (.lreturn, 1, [], .null)]),
  (47, [(.iload_n 3, 1, [3], .null), (.invokestatic 103, 3, [99, 1, 0, 0], .null), (.ifCond .eq 13, 3, [64, 0, 3], .null), (.iload_n 3, 1, [3], .null), (.bipush 97, 2, [], .int 97), (.isub, 1, [], .null), (.invokestatic 134, 3, [111, 1, 1, 0], .null), (.goto 12, 3, [73], .null)]),
  (64, [(.aload_n 0, 1, [0], .null), (.getfield 48, 3, [9, 12, 2], .null), (.iload_n 3, 1, [3], .null), (.invokestatic 106, 3, [100, 1, 0, 0], .null), (.laload, 1, [], .null), (.nop, 0, [73], .null)]),
  (73, [(.lreturn, 1, [], .null)])], [[]], [0, 1, 2])
def k_Md_number : aK := ([(0, [(.aload_n 0, 1, [0], .null), (.iload_n 1, 1, [1], .null), (.iconst 1, 1, [], .int 1), (.iadd, 1, [], .null), (.putfield 122, 3, [9, 19, 0], .null), (.aload_n 0, 1, [0], .null), (.getfield 7, 3, [9, 0, 2], .null), (.iload_n 1, 1, [1], .null), (.iaload, 1, [], .null), (.bipush 39, 2, [], .int 39), (.if_icmp .eq 13, 3, [28, 0, 1], .null), (.aload_n 0, 1, [0], .null), (.getfield 7, 3, [9, 0, 2], .null), (.iload_n 1, 1, [1], .null), (.iaload, 1, [], .null), (.bipush 48, 2, [], .int 48), (.isub, 1, [], .null), (.ireturn, 1, [0], .null)]),
  (28, [(.aload_n 0, 1, [0], .null), (.iload_n 1, 1, [1], .null), (.iconst 3, 1, [], .int 3), (.iadd, 1, [], .null), (.putfield 122, 3, [9, 19, 0], .null), (.bipush 10, 2, [], .int 10), (.aload_n 0, 1, [0], .null), (.getfield 7, 3, [9, 0, 2], .null), (.iload_n 1, 1, [1], .null), (.iconst 1, 1, [], .int 1), (.iadd, 1, [], .null), (.iaload, 1, [], .null), (.bipush 48, 2, [], .int 48), (.isub, 1, [], .null), (.imul, 1, [], .null), (.aload_n 0, 1, [0], .null), (.getfield 7, 3, [9, 0, 2], .null), (.iload_n 1, 1, [1], .null), (.iconst 2, 1, [], .int 2), (.iadd, 1, [], .null), (.iaload, 1, [], .null), (.iadd, 1, [], .null), (.bipush 48, 2, [], .int 48), (.isub, 1, [], .null), (.ireturn, 1, [0], .null)])], [[]], [0, 1])
def k_Md_evaluate : aK := ([(0, [(.iconst 0, 1, [], .int 0), (.istore_n 3, 1, [3], .null), (.aload_n 0, 1, [0], .null), (.iload_n 1, 1, [1], .null), (.putfield 122, 3, [9, 19, 0], .null), (.iconst 0, 1, [], .int 0), (.istore 4, 2, [4], .null), (.nop, 0, [10, 0, 2, 3, 4], .null)]),
  (10, [(.iload 4, 2, [4], .null), (.bipush 60, 2, [], .int 60), (.if_icmp .ge 239, 3, [253], .null), (.aload_n 0, 1, [0], .null), (.getfield 7, 3, [9, 0, 2], .null), (.aload_n 0, 1, [0], .null), (.getfield 122, 3, [9, 19, 0], .null), (.iaload, 1, [], .null), (.istore 5, 2, [5], .null), (.iload 5, 2, [5], .null), (.bipush 40, 2, [], .int 40), (.if_icmp .eq 24, 3, [56, 0, 2, 3, 4, 5], .null), (.iload 5, 2, [5], .null), (.bipush 43, 2, [], .int 43), (.if_icmp .eq 17, 3, [56, 0, 2, 3, 4, 5], .null), (.iload 5, 2, [5], .null), (.bipush 45, 2, [], .int 45), (.if_icmp .eq 10, 3, [56, 0, 2, 3, 4, 5], .null), (.iload 5, 2, [5], .null), (.bipush 47, 2, [], .int 47), (.if_icmp .ne 34, 3, [87, 0, 2, 3, 4], .null), (.nop, 0, [56, 0, 2, 3, 4, 5], .null)]),
  (56, [(.aload_n 0, 1, [0], .null), (.getfield 51, 3, [9, 13, 2], .null), (.iload_n 3, 1, [3], .null), (.iload 5, 2, [5], .null), (.iastore, 1, [], .null), (.aload_n 0, 1, [0], .null), (.getfield 57, 3, [9, 18, 2], .null), (.iload_n 3, 1, [3], .null), (.lconst 0, 1, [], .long 0), (.lastore, 1, [], .null), (.iinc 3 1, 3, [3], .int 1), (.aload_n 0, 1, [0], .null), (.dup, 1, [], .null), (.getfield 122, 3, [9, 19, 0], .null), (.iconst 1, 1, [], .int 1), (.iadd, 1, [], .null), (.putfield 122, 3, [9, 19, 0], .null), (.goto 163, 3, [247, 0, 2, 3, 4], .null)]),
  (87, [(.aload_n 0, 1, [0], .null), (.iconst 1, 1, [], .int 1), (.putfield 137, 3, [9, 20, 0], .null), (.aload_n 0, 1, [0], .null), (.aload_n 0, 1, [0], .null), (.getfield 122, 3, [9, 19, 0], .null), (.iload_n 2, 1, [2], .null), (.invokevirtual 148, 3, [126, 3, 1, 0], .null), (.lstore 6, 2, [6], .null), (.iconst 1, 1, [], .int 1), (.istore 8, 2, [8], .null), (.nop, 0, [106, 0, 2, 3, 4, 6, 8], .null)]),
  (106, [(.iload 8, 2, [8], .null), (.ifCond .eq 105, 3, [213, 0, 2, 3, 4, 6, 8], .null), (.lload 6, 2, [6], .null), (.lconst 0, 1, [], .long 0), (.lcmp, 1, [], .null), (.ifCond .eq 98, 3, [213, 0, 2, 3, 4, 6, 8], .null), (.iload_n 3, 1, [3], .null), (.ifCond .le 94, 3, [213, 0, 2, 3, 4, 6, 8], .null), (.iload_n 3, 1, [3], .null), (.iconst 1, 1, [], .int 1), (.isub, 1, [], .null), (.istore 9, 2, [9], .null), (.aload_n 0, 1, [0], .null), (.getfield 57, 3, [9, 18, 2], .null), (.iload 9, 2, [9], .null), (.laload, 1, [], .null), (.lconst 0, 1, [], .long 0), (.lcmp, 1, [], .null), (.ifCond .eq 7, 3, [143, 0, 2, 3, 4, 6, 9], .null), (.iconst 1, 1, [], .int 1), (.goto 4, 3, [144, 0, 2, 3, 4, 6, 9], .null)]),
  (143, [(.iconst 0, 1, [], .int 0), (.nop, 0, [144, 0, 2, 3, 4, 6, 9], .null)]),
  (144, [(.istore 8, 2, [8], .null), (.iload 8, 2, [8], .null), (.ifCond .eq 31, 3, [179, 0, 2, 3, 4, 6, 8, 9], .null), (.aload_n 0, 1, [0], .null), (.aload_n 0, 1, [0], .null), (.getfield 51, 3, [9, 13, 2], .null), (.iload 9, 2, [9], .null), (.iaload, 1, [], .null), (.aload_n 0, 1, [0], .null), (.getfield 57, 3, [9, 18, 2], .null), (.iload 9, 2, [9], .null), (.laload, 1, [], .null), (.lload 6, 2, [6], .null), (.invokevirtual 152, 3, [129, 4, 1, 0], .null), (.lstore 6, 2, [6], .null), (.iinc 3 (-1), 3, [3], .int (-1)), (.goto 12, 3, [188, 0, 2, 3, 4, 6, 8, 9], .null)]),
  (179, [(.aload_n 0, 1, [0], .null), (.getfield 57, 3, [9, 18, 2], .null), (.iload 9, 2, [9], .null), (.lload 6, 2, [6], .null), (.lastore, 1, [], .null), (.nop, 0, [188, 0, 2, 3, 4, 6, 8, 9], .null)]),
  (188, [(.aload_n 0, 1, [0], .null), (.getfield 51, 3, [9, 13, 2], .null), (.iload 9, 2, [9], .null), (.iaload, 1, [], .null), (.bipush 40, 2, [], .int 40), (.if_icmp .ne 13, 3, [210, 0, 2, 3, 4, 6, 8], .null), (.aload_n 0, 1, [0], .null), (.dup, 1, [], .null), (.getfield 122, 3, [9, 19, 0], .null), (.iconst 1, 1, [], .int 1), (.iadd, 1, [], .null), (.putfield 122, 3, [9, 19, 0], .null), (.nop, 0, [210, 0, 2, 3, 4, 6, 8], .null)]),
  (210, [(.goto (-104), 3, [106, 0, 2, 3, 4, 6, 8], .null)]),
  (213, [(.lload 6, 2, [6], .null), (.lconst 0, 1, [], .long 0), (.lcmp, 1, [], .null), (.ifCond .eq 8, 3, [225, 0, 6], .null), (.iload 8, 2, [8], .null), (.ifCond .eq 25, 3, [247, 0, 2, 3, 4], .null), (.nop, 0, [225, 0, 6], .null)]),
  (225, [(.aload_n 0, 1, [0], .null), (.lload 6, 2, [6], .null), (.lconst 0, 1, [], .long 0), (.lcmp, 1, [], .null), (.ifCond .ne 10, 3, [240, 6], .null), (.aload_n 0, 1, [0], .null), (.getfield 137, 3, [9, 20, 0], .null), (.goto 4, 3, [241, 6], .null)]),
  (240, [(.iconst 0, 1, [], .int 0), (.nop, 0, [241, 6], .null)]),
  (241, [(.putfield 137, 3, [9, 20, 0], .null), (.lload 6, 2, [6], .null), (.lreturn, 1, [], .null)]),
  (247, [(.iinc 4 1, 3, [4], .int 1), (.goto (-240), 3, [10, 0, 2, 3, 4], .null)]),
  (253, [(.lconst 0, 1, [], .long 0), (.lreturn, 1, [], .null)])], [[]], [0, 1, 2])
def k_Md_combine : aK := ([(0, [(.aload_n 0, 1, [0], .null), (.iconst 1, 1, [], .int 1), (.putfield 137, 3, [9, 20, 0], .null), (.iload_n 1, 1, [1], .null), (.bipush 40, 2, [], .int 40), (.if_icmp .ne 10, 3, [18, 0, 1, 2, 4], .null), (.lload_n 2, 1, [2], .null), (.lload 4, 2, [4], .null), (.invokestatic 140, 3, [113, 2, 1, 0], .null), (.lreturn, 1, [], .null)]),
  (18, [(.lload_n 2, 1, [2], .null), (.invokestatic 144, 3, [130, 1, 0, 0], .null), (.ifCond .eq 11, 3, [33], .null), (.lload 4, 2, [4], .null), (.invokestatic 144, 3, [130, 1, 0, 0], .null), (.ifCond .ne 5, 3, [35, 0, 1, 2, 4], .null), (.nop, 0, [33], .null)]),
  (33, [(.lconst 0, 1, [], .long 0), (.lreturn, 1, [], .null)]),
  (35, [(.lload_n 2, 1, [2], .null), (.iconst 0, 1, [], .int 0), (.invokestatic 74, 3, [117, 2, 0, 0], .null), (.sipush 999, 3, [], .int 999), (.isub, 1, [], .null), (.istore 6, 2, [6], .null), (.lload 4, 2, [4], .null), (.iconst 0, 1, [], .int 0), (.invokestatic 74, 3, [117, 2, 0, 0], .null), (.sipush 999, 3, [], .int 999), (.isub, 1, [], .null), (.istore 7, 2, [7], .null), (.iload_n 1, 1, [1], .null), (.bipush 47, 2, [], .int 47), (.if_icmp .ne 15, 3, [76, 1, 6, 7], .null), (.iload 7, 2, [7], .null), (.ifCond .ne 10, 3, [76, 1, 6, 7], .null), (.aload_n 0, 1, [0], .null), (.iconst 2, 1, [], .int 2), (.putfield 137, 3, [9, 20, 0], .null), (.lconst 0, 1, [], .long 0), (.lreturn, 1, [], .null)]),
  (76, [(.iload_n 1, 1, [1], .null), (.bipush 43, 2, [], .int 43), (.if_icmp .ne 11, 3, [90, 1, 6, 7], .null), (.iload 6, 2, [6], .null), (.iload 7, 2, [7], .null), (.iadd, 1, [], .null), (.goto 22, 3, [109], .null)]),
  (90, [(.iload_n 1, 1, [1], .null), (.bipush 45, 2, [], .int 45), (.if_icmp .ne 11, 3, [104, 6, 7], .null), (.iload 6, 2, [6], .null), (.iload 7, 2, [7], .null), (.isub, 1, [], .null), (.goto 8, 3, [109], .null)]),
  (104, [(.iload 6, 2, [6], .null), (.iload 7, 2, [7], .null), (.idiv, 1, [], .null), (.nop, 0, [109], .null)]),
  (109, [(.istore 8, 2, [8], .null), (.iload 8, 2, [8], .null), (.sipush (-999), 3, [], .int (-999)), (.sipush 999, 3, [], .int 999), (.invokestatic 86, 3, [90, 3, 0, 0], .null), (.ifCond .eq 11, 3, [133], .null), (.iload 8, 2, [8], .null), (.invokestatic 128, 3, [107, 1, 1, 0], .null), (.goto 4, 3, [134], .null)]),
  (133, [(.lconst 0, 1, [], .long 0), (.nop, 0, [134], .null)]),
  (134, [(.lreturn, 1, [], .null)])], [[]], [0, 1, 2, 4])
def k_Md_isInt : aK := ([(0, [(.lload_n 0, 1, [0], .null), (.invokestatic 70, 3, [114, 1, 0, 0], .null), (.iconst 1, 1, [], .int 1), (.if_icmp .ne 18, 3, [23], .null), (.lload_n 0, 1, [0], .null), (.iconst 0, 1, [], .int 0), (.invokestatic 74, 3, [117, 2, 0, 0], .null), (.sipush 1999, 3, [], .int 1999), (.if_icmp .ge 7, 3, [23], .null), (.iconst 1, 1, [], .int 1), (.goto 4, 3, [24], .null)]),
  (23, [(.iconst 0, 1, [], .int 0), (.nop, 0, [24], .null)]),
  (24, [(.ireturn, 1, [3], .null)])], [[]], [0])
def k_Md_take : aK := ([(0, [(.aload_n 0, 1, [0], .null), (.getfield 30, 3, [9, 6, 2], .null), (.iload_n 1, 1, [1], .null), (.dup2, 1, [], .null), (.iaload, 1, [], .null), (.iconst 1, 1, [], .int 1), (.isub, 1, [], .null), (.iastore, 1, [], .null), (.iload_n 2, 1, [2], .null), (.istore_n 3, 1, [3], .null), (.nop, 0, [12, 0, 1, 3], .null)]),
  (12, [(.iload_n 3, 1, [3], .null), (.aload_n 0, 1, [0], .null), (.getfield 30, 3, [9, 6, 2], .null), (.iload_n 1, 1, [1], .null), (.iaload, 1, [], .null), (.if_icmp .ge 33, 3, [52], .null), (.aload_n 0, 1, [0], .null), (.getfield 27, 3, [9, 5, 2], .null), (.bipush 6, 2, [], .int 6), (.iload_n 1, 1, [1], .null), (.imul, 1, [], .null), (.iload_n 3, 1, [3], .null), (.iadd, 1, [], .null), (.aload_n 0, 1, [0], .null), (.getfield 27, 3, [9, 5, 2], .null), (.bipush 6, 2, [], .int 6), (.iload_n 1, 1, [1], .null), (.imul, 1, [], .null), (.iload_n 3, 1, [3], .null), (.iadd, 1, [], .null), (.iconst 1, 1, [], .int 1), (.iadd, 1, [], .null), (.laload, 1, [], .null), (.lastore, 1, [], .null), (.iinc 3 1, 3, [3], .int 1), (.goto (-37), 3, [12, 0, 1, 3], .null)]),
  (52, [(.return_, 1, [], .null)])], [[]], [0, 1, 2])
def k_Md_perform : aK := ([(0, [(.aload_n 0, 1, [0], .null), (.getfield 57, 3, [9, 18, 2], .null), (.iconst 4, 1, [], .int 4), (.aload_n 0, 1, [0], .null), (.getfield 23, 3, [9, 4, 2], .null), (.iload_n 1, 1, [1], .null), (.laload, 1, [], .null), (.lastore, 1, [], .null), (.aload_n 0, 1, [0], .null), (.iconst 0, 1, [], .int 0), (.putfield 137, 3, [9, 20, 0], .null), (.aload_n 0, 1, [0], .null), (.dup, 1, [], .null), (.getfield 122, 3, [9, 19, 0], .null), (.iconst 1, 1, [], .int 1), (.iadd, 1, [], .null), (.putfield 122, 3, [9, 19, 0], .null), (.iconst 1, 1, [], .int 1), (.istore_n 3, 1, [3], .null), (.nop, 0, [29, 0, 1, 2, 3], .null)]),
  (29, [(.iload_n 3, 1, [3], .null), (.ifCond .eq 30, 3, [60, 0, 1, 2], .null), (.aload_n 0, 1, [0], .null), (.getfield 7, 3, [9, 0, 2], .null), (.aload_n 0, 1, [0], .null), (.getfield 122, 3, [9, 19, 0], .null), (.iaload, 1, [], .null), (.bipush 59, 2, [], .int 59), (.if_icmp .eq 16, 3, [60, 0, 1, 2], .null), (.aload_n 0, 1, [0], .null), (.iload_n 1, 1, [1], .null), (.aload_n 0, 1, [0], .null), (.getfield 122, 3, [9, 19, 0], .null), (.invokevirtual 192, 3, [133, 3, 0, 0], .null), (.istore_n 3, 1, [3], .null), (.goto (-28), 3, [29, 0, 1, 2, 3], .null)]),
  (60, [(.aload_n 0, 1, [0], .null), (.getfield 137, 3, [9, 20, 0], .null), (.ifCond .eq 44, 3, [108, 0, 1, 2], .null), (.aload_n 0, 1, [0], .null), (.iload_n 1, 1, [1], .null), (.sipush 1999, 3, [], .int 1999), (.aload_n 0, 1, [0], .null), (.getfield 137, 3, [9, 20, 0], .null), (.iconst 1, 1, [], .int 1), (.if_icmp .ne 7, 3, [84, 0], .null), (.iconst 5, 1, [], .int 5), (.goto 4, 3, [85, 0], .null)]),
  (84, [(.iconst 3, 1, [], .int 3), (.nop, 0, [85, 0], .null)]),
  (85, [(.iadd, 1, [], .null), (.invokevirtual 184, 3, [118, 3, 0, 0], .null), (.pop, 1, [], .null), (.aload_n 0, 1, [0], .null), (.aload_n 0, 1, [0], .null), (.getfield 137, 3, [9, 20, 0], .null), (.iconst 1, 1, [], .int 1), (.if_icmp .ne 7, 3, [103], .null), (.iconst 5, 1, [], .int 5), (.goto 4, 3, [104], .null)]),
  (103, [(.iconst 4, 1, [], .int 4), (.nop, 0, [104], .null)]),
  (104, [(.invokevirtual 196, 3, [91, 2, 0, 0], .null), (.ireturn, 1, [0], .null)]),
  (108, [(.aload_n 0, 1, [0], .null), (.getfield 20, 3, [9, 3, 2], .null), (.iload_n 1, 1, [1], .null), (.iaload, 1, [], .null), (.iconst 1, 1, [], .int 1), (.if_icmp .ne 15, 3, [130, 2], .null), (.aload_n 0, 1, [0], .null), (.getfield 23, 3, [9, 4, 2], .null), (.iload_n 1, 1, [1], .null), (.aload_n 0, 1, [0], .null), (.getfield 57, 3, [9, 18, 2], .null), (.iconst 4, 1, [], .int 4), (.laload, 1, [], .null), (.lastore, 1, [], .null), (.nop, 0, [130, 2], .null)]),
  (130, [(.iload_n 2, 1, [2], .null), (.ireturn, 1, [0], .null)])], [[]], [0, 1, 2])
def k_Md_act : aK := ([(0, [(.aload_n 0, 1, [0], .null), (.getfield 7, 3, [9, 0, 2], .null), (.iload_n 2, 1, [2], .null), (.iaload, 1, [], .null), (.istore_n 3, 1, [3], .null), (.iload_n 3, 1, [3], .null), (.bipush 42, 2, [], .int 42), (.if_icmp .ne 36, 3, [46, 0, 1, 2, 3], .null), (.aload_n 0, 1, [0], .null), (.getfield 33, 3, [9, 7, 2], .null), (.iload_n 1, 1, [1], .null), (.aload_n 0, 1, [0], .null), (.getfield 7, 3, [9, 0, 2], .null), (.iload_n 2, 1, [2], .null), (.iconst 1, 1, [], .int 1), (.iadd, 1, [], .null), (.iaload, 1, [], .null), (.bipush 49, 2, [], .int 49), (.if_icmp .ne 7, 3, [35, 0, 2], .null), (.iconst 1, 1, [], .int 1), (.goto 4, 3, [36, 0, 2], .null)]),
  (35, [(.iconst 0, 1, [], .int 0), (.nop, 0, [36, 0, 2], .null)]),
  (36, [(.bastore, 1, [], .null), (.aload_n 0, 1, [0], .null), (.iload_n 2, 1, [2], .null), (.iconst 2, 1, [], .int 2), (.iadd, 1, [], .null), (.putfield 122, 3, [9, 19, 0], .null), (.iconst 1, 1, [], .int 1), (.ireturn, 1, [3], .null)]),
  (46, [(.iload_n 3, 1, [3], .null), (.bipush 64, 2, [], .int 64), (.if_icmp .ne 103, 3, [152, 0, 1, 2, 3], .null), (.aload_n 0, 1, [0], .null), (.getfield 7, 3, [9, 0, 2], .null), (.iload_n 2, 1, [2], .null), (.iconst 1, 1, [], .int 1), (.iadd, 1, [], .null), (.iaload, 1, [], .null), (.bipush 48, 2, [], .int 48), (.isub, 1, [], .null), (.istore 4, 2, [4], .null), (.aload_n 0, 1, [0], .null), (.iload_n 2, 1, [2], .null), (.iconst 3, 1, [], .int 3), (.iadd, 1, [], .null), (.putfield 122, 3, [9, 19, 0], .null), (.aload_n 0, 1, [0], .null), (.aload_n 0, 1, [0], .null), (.getfield 16, 3, [9, 2, 2], .null), (.iload 4, 2, [4], .null), (.baload, 1, [], .null), (.ifCond .eq 16, 3, [96, 0, 1, 2, 4], .null), (.aload_n 0, 1, [0], .null), (.invokevirtual 160, 3, [106, 1, 0, 0], .null), (.bipush 6, 2, [], .int 6), (.if_icmp .ge 7, 3, [96, 0, 1, 2, 4], .null), (.iconst 0, 1, [], .int 0), (.goto 4, 3, [97, 0, 1, 2, 4], .null)]),
  (96, [(.iconst 1, 1, [], .int 1), (.nop, 0, [97, 0, 1, 2, 4], .null)]),
  (97, [(.putfield 137, 3, [9, 20, 0], .null), (.aload_n 0, 1, [0], .null), (.getfield 137, 3, [9, 20, 0], .null), (.ifCond .eq 5, 3, [109, 0, 1, 2, 4], .null), (.iconst 0, 1, [], .int 0), (.ireturn, 1, [3], .null)]),
  (109, [(.aload_n 0, 1, [0], .null), (.iload 4, 2, [4], .null), (.iconst 0, 1, [], .int 0), (.invokestatic 128, 3, [107, 1, 1, 0], .null), (.invokevirtual 174, 3, [109, 3, 0, 0], .null), (.istore 5, 2, [5], .null), (.aload_n 0, 1, [0], .null), (.iload_n 1, 1, [1], .null), (.iload 5, 2, [5], .null), (.iconst 1, 1, [], .int 1), (.invokevirtual 170, 3, [119, 4, 9, 0], .null), (.aload_n 0, 1, [0], .null), (.getfield 48, 3, [9, 12, 2], .null), (.aload_n 0, 1, [0], .null), (.getfield 7, 3, [9, 0, 2], .null), (.iload_n 2, 1, [2], .null), (.iconst 2, 1, [], .int 2), (.iadd, 1, [], .null), (.iaload, 1, [], .null), (.invokestatic 106, 3, [100, 1, 0, 0], .null), (.iload 5, 2, [5], .null), (.invokestatic 131, 3, [112, 1, 1, 0], .null), (.lastore, 1, [], .null), (.iconst 1, 1, [], .int 1), (.ireturn, 1, [3], .null)]),
  (152, [(.aload_n 0, 1, [0], .null), (.iload_n 2, 1, [2], .null), (.iconst 1, 1, [], .int 1), (.iadd, 1, [], .null), (.iload_n 1, 1, [1], .null), (.invokevirtual 178, 3, [128, 3, 1, 0], .null), (.lstore 4, 2, [4], .null), (.aload_n 0, 1, [0], .null), (.getfield 137, 3, [9, 20, 0], .null), (.ifCond .eq 5, 3, [171, 0, 1, 3, 4], .null), (.iconst 0, 1, [], .int 0), (.ireturn, 1, [3], .null)]),
  (171, [(.lload 4, 2, [4], .null), (.invokestatic 181, 3, [134, 1, 0, 0], .null), (.istore 6, 2, [6], .null), (.iload_n 3, 1, [3], .null), (.bipush 33, 2, [], .int 33), (.if_icmp .ne 69, 3, [250, 0, 1, 3, 4, 6], .null), (.aload_n 0, 1, [0], .null), (.aload_n 0, 1, [0], .null), (.getfield 122, 3, [9, 19, 0], .null), (.iload_n 1, 1, [1], .null), (.invokevirtual 178, 3, [128, 3, 1, 0], .null), (.lstore 7, 2, [7], .null), (.aload_n 0, 1, [0], .null), (.getfield 137, 3, [9, 20, 0], .null), (.ifCond .eq 5, 3, [204, 0, 1, 3, 4, 6, 7], .null), (.iconst 0, 1, [], .int 0), (.ireturn, 1, [3], .null)]),
  (204, [(.aload_n 0, 1, [0], .null), (.iload 6, 2, [6], .null), (.ifCond .lt 19, 3, [226, 0, 1, 3, 4, 6, 7], .null), (.aload_n 0, 1, [0], .null), (.getfield 45, 3, [9, 11, 2], .null), (.bipush 6, 2, [], .int 6), (.iload_n 1, 1, [1], .null), (.imul, 1, [], .null), (.iload 6, 2, [6], .null), (.iadd, 1, [], .null), (.iaload, 1, [], .null), (.iconst 4, 1, [], .int 4), (.if_icmp .lt 7, 3, [230, 0, 1, 3, 4, 6, 7], .null), (.nop, 0, [226, 0, 1, 3, 4, 6, 7], .null)]),
  (226, [(.iconst 1, 1, [], .int 1), (.goto 4, 3, [231, 0, 1, 3, 4, 6, 7], .null)]),
  (230, [(.iconst 0, 1, [], .int 0), (.nop, 0, [231, 0, 1, 3, 4, 6, 7], .null)]),
  (231, [(.putfield 137, 3, [9, 20, 0], .null), (.aload_n 0, 1, [0], .null), (.getfield 137, 3, [9, 20, 0], .null), (.ifCond .ne 12, 3, [250, 0, 1, 3, 4, 6], .null), (.aload_n 0, 1, [0], .null), (.iload_n 1, 1, [1], .null), (.iload 6, 2, [6], .null), (.lload 7, 2, [7], .null), (.invokevirtual 166, 3, [115, 4, 9, 0], .null), (.nop, 0, [250, 0, 1, 3, 4, 6], .null)]),
  (250, [(.iload_n 3, 1, [3], .null), (.bipush 126, 2, [], .int 126), (.if_icmp .ne 11, 3, [264, 0, 1, 3, 4, 6], .null), (.aload_n 0, 1, [0], .null), (.getfield 57, 3, [9, 18, 2], .null), (.iconst 4, 1, [], .int 4), (.lload 4, 2, [4], .null), (.lastore, 1, [], .null), (.nop, 0, [264, 0, 1, 3, 4, 6], .null)]),
  (264, [(.iload_n 3, 1, [3], .null), (.bipush 38, 2, [], .int 38), (.if_icmp .ne 47, 3, [314, 0, 1, 3, 4], .null), (.aload_n 0, 1, [0], .null), (.iload 6, 2, [6], .null), (.ifCond .ge 7, 3, [280, 0, 1, 3, 4, 6], .null), (.iconst 1, 1, [], .int 1), (.goto 4, 3, [281, 0, 1, 3, 4, 6], .null)]),
  (280, [(.iconst 0, 1, [], .int 0), (.nop, 0, [281, 0, 1, 3, 4, 6], .null)]),
  (281, [(.putfield 137, 3, [9, 20, 0], .null), (.iload 6, 2, [6], .null), (.ifCond .lt 28, 3, [314, 0, 1, 3, 4], .null), (.iload 6, 2, [6], .null), (.iload_n 1, 1, [1], .null), (.if_icmp .eq 22, 3, [314, 0, 1, 3, 4], .null), (.aload_n 0, 1, [0], .null), (.getfield 20, 3, [9, 3, 2], .null), (.iload 6, 2, [6], .null), (.iaload, 1, [], .null), (.iconst 1, 1, [], .int 1), (.if_icmp .ne 11, 3, [314, 0, 1, 3, 4], .null), (.aload_n 0, 1, [0], .null), (.iload_n 1, 1, [1], .null), (.iload 6, 2, [6], .null), (.iconst 1, 1, [], .int 1), (.invokevirtual 170, 3, [119, 4, 9, 0], .null), (.nop, 0, [314, 0, 1, 3, 4], .null)]),
  (314, [(.iload_n 3, 1, [3], .null), (.bipush 36, 2, [], .int 36), (.if_icmp .ne 15, 3, [332, 0, 3], .null), (.aload_n 0, 1, [0], .null), (.iload_n 1, 1, [1], .null), (.lload 4, 2, [4], .null), (.iconst 0, 1, [], .int 0), (.invokestatic 74, 3, [117, 2, 0, 0], .null), (.invokevirtual 184, 3, [118, 3, 0, 0], .null), (.pop, 1, [], .null), (.nop, 0, [332, 0, 3], .null)]),
  (332, [(.aload_n 0, 1, [0], .null), (.getfield 137, 3, [9, 20, 0], .null), (.ifCond .ne 13, 3, [349], .null), (.iload_n 3, 1, [3], .null), (.bipush 36, 2, [], .int 36), (.if_icmp .eq 7, 3, [349], .null), (.iconst 1, 1, [], .int 1), (.goto 4, 3, [350], .null)]),
  (349, [(.iconst 0, 1, [], .int 0), (.nop, 0, [350], .null)]),
  (350, [(.ireturn, 1, [3], .null)])], [[]], [0, 1, 2])
def k_Md_actorOf : aK := ([(0, [(.lload_n 0, 1, [0], .null), (.invokestatic 70, 3, [114, 1, 0, 0], .null), (.iconst 1, 1, [], .int 1), (.if_icmp .ne 26, 3, [31], .null), (.lload_n 0, 1, [0], .null), (.iconst 0, 1, [], .int 0), (.invokestatic 74, 3, [117, 2, 0, 0], .null), (.sipush 2007, 3, [], .int 2007), (.if_icmp .lt 15, 3, [31], .null), (.lload_n 0, 1, [0], .null), (.iconst 0, 1, [], .int 0), (.invokestatic 74, 3, [117, 2, 0, 0], .null), (.sipush 2007, 3, [], .int 2007), (.isub, 1, [], .null), (.goto 4, 3, [32], .null)]),
  (31, [(.iconst (-1), 1, [], .int (-1)), (.nop, 0, [32], .null)]),
  (32, [(.ireturn, 1, [0], .null)])], [[]], [0])
def k_Md_kill : aK := ([(0, [(.aload_n 0, 1, [0], .null), (.iload_n 1, 1, [1], .null), (.iconst 0, 1, [], .int 0), (.iconst 5, 1, [], .int 5), (.invokestatic 86, 3, [90, 3, 0, 0], .null), (.iconst 2, 1, [], .int 2), (.invokevirtual 199, 3, [92, 3, 0, 0], .null), (.ifCond .ne 5, 3, [16, 0, 1], .null), (.iconst 0, 1, [], .int 0), (.ireturn, 1, [0], .null)]),
  (16, [(.aload_n 0, 1, [0], .null), (.aload_n 0, 1, [0], .null), (.getfield 20, 3, [9, 3, 2], .null), (.iload_n 1, 1, [1], .null), (.iaload, 1, [], .null), (.iconst 1, 1, [], .int 1), (.if_icmp .ne 7, 3, [31, 0, 1], .null), (.iconst 1, 1, [], .int 1), (.goto 4, 3, [32, 0, 1], .null)]),
  (31, [(.iconst 0, 1, [], .int 0), (.nop, 0, [32, 0, 1], .null)]),
  (32, [(.iconst 1, 1, [], .int 1), (.invokevirtual 199, 3, [92, 3, 0, 0], .null), (.ifCond .eq 14, 3, [50], .null), (.aload_n 0, 1, [0], .null), (.iload_n 1, 1, [1], .null), (.sipush 2006, 3, [], .int 2006), (.invokevirtual 184, 3, [118, 3, 0, 0], .null), (.goto 4, 3, [51], .null)]),
  (50, [(.iconst 0, 1, [], .int 0), (.nop, 0, [51], .null)]),
  (51, [(.ireturn, 1, [0], .null)])], [[]], [0, 1])
def k_Md_reap : aK := ([(0, [(.aload_n 0, 1, [0], .null), (.iload_n 1, 1, [1], .null), (.iconst 0, 1, [], .int 0), (.iconst 5, 1, [], .int 5), (.invokestatic 86, 3, [90, 3, 0, 0], .null), (.iconst 2, 1, [], .int 2), (.invokevirtual 199, 3, [92, 3, 0, 0], .null), (.ifCond .ne 5, 3, [16, 0, 1], .null), (.iconst 0, 1, [], .int 0), (.ireturn, 1, [0], .null)]),
  (16, [(.aload_n 0, 1, [0], .null), (.aload_n 0, 1, [0], .null), (.getfield 20, 3, [9, 3, 2], .null), (.iload_n 1, 1, [1], .null), (.iaload, 1, [], .null), (.iconst 2, 1, [], .int 2), (.if_icmp .ne 7, 3, [31, 0, 1], .null), (.iconst 1, 1, [], .int 1), (.goto 4, 3, [32, 0, 1], .null)]),
  (31, [(.iconst 0, 1, [], .int 0), (.nop, 0, [32, 0, 1], .null)]),
  (32, [(.iconst 1, 1, [], .int 1), (.invokevirtual 199, 3, [92, 3, 0, 0], .null), (.ifCond .ne 5, 3, [41, 0, 1], .null), (.iconst 0, 1, [], .int 0), (.ireturn, 1, [0], .null)]),
  (41, [(.aload_n 0, 1, [0], .null), (.getfield 20, 3, [9, 3, 2], .null), (.iload_n 1, 1, [1], .null), (.iconst 0, 1, [], .int 0), (.iastore, 1, [], .null), (.iconst 0, 1, [], .int 0), (.istore_n 2, 1, [2], .null), (.iconst 0, 1, [], .int 0), (.istore_n 3, 1, [3], .null), (.nop, 0, [52, 0, 2, 3], .null)]),
  (52, [(.iload_n 3, 1, [3], .null), (.bipush 6, 2, [], .int 6), (.if_icmp .ge 21, 3, [76, 2], .null), (.aload_n 0, 1, [0], .null), (.getfield 20, 3, [9, 3, 2], .null), (.iload_n 3, 1, [3], .null), (.iaload, 1, [], .null), (.ifCond .ne 6, 3, [70, 0, 2, 3], .null), (.iinc 2 1, 3, [2], .int 1), (.nop, 0, [70, 0, 2, 3], .null)]),
  (70, [(.iinc 3 1, 3, [3], .int 1), (.goto (-21), 3, [52, 0, 2, 3], .null)]),
  (76, [(.iload_n 2, 1, [2], .null), (.ireturn, 1, [0], .null)])], [[]], [0, 1])
def k_Md_leaf : aK := ([(0, [(.aload_n 0, 1, [0], .null), (.iload_n 1, 1, [1], .null), (.iconst 0, 1, [], .int 0), (.iconst 5, 1, [], .int 5), (.invokestatic 86, 3, [90, 3, 0, 0], .null), (.ifCond .eq 26, 3, [33, 0, 1, 2, 3], .null), (.iload_n 2, 1, [2], .null), (.iconst 0, 1, [], .int 0), (.bipush 6, 2, [], .int 6), (.invokestatic 86, 3, [90, 3, 0, 0], .null), (.ifCond .eq 16, 3, [33, 0, 1, 2, 3], .null), (.iload_n 3, 1, [3], .null), (.iconst 0, 1, [], .int 0), (.iconst 3, 1, [], .int 3), (.invokestatic 86, 3, [90, 3, 0, 0], .null), (.ifCond .eq 7, 3, [33, 0, 1, 2, 3], .null), (.iconst 1, 1, [], .int 1), (.goto 4, 3, [34, 0, 1, 2, 3], .null)]),
  (33, [(.iconst 0, 1, [], .int 0), (.nop, 0, [34, 0, 1, 2, 3], .null)]),
  (34, [(.iconst 1, 1, [], .int 1), (.invokevirtual 199, 3, [92, 3, 0, 0], .null), (.ifCond .ne 5, 3, [43, 0, 1, 2, 3], .null), (.iconst 0, 1, [], .int 0), (.ireturn, 1, [0], .null)]),
  (43, [(.aload_n 0, 1, [0], .null), (.iload_n 1, 1, [1], .null), (.iload_n 2, 1, [2], .null), (.invokevirtual 222, 3, [138, 3, 1, 0], .null), (.lstore 4, 2, [4], .null), (.iload_n 3, 1, [3], .null), (.lload 4, 2, [4], .null), (.invokestatic 70, 3, [114, 1, 0, 0], .null), (.if_icmp .ge 15, 3, [72], .null), (.lload 4, 2, [4], .null), (.iload_n 3, 1, [3], .null), (.invokestatic 74, 3, [117, 2, 0, 0], .null), (.invokestatic 225, 3, [139, 1, 0, 0], .null), (.goto 6, 3, [75], .null)]),
  (72, [(.sipush (-5000), 3, [], .int (-5000)), (.nop, 0, [75], .null)]),
  (75, [(.ireturn, 1, [0], .null)])], [[]], [0, 1, 2, 3])
def k_Md_term : aK := ([(0, [(.aload_n 0, 1, [0], .null), (.getfield 20, 3, [9, 3, 2], .null), (.iload_n 1, 1, [1], .null), (.iaload, 1, [], .null), (.iconst 1, 1, [], .int 1), (.if_icmp .eq 5, 3, [12, 0, 1, 2], .null), (.lconst 0, 1, [], .long 0), (.lreturn, 1, [], .null)]),
  (12, [(.iload_n 2, 1, [2], .null), (.bipush 6, 2, [], .int 6), (.if_icmp .ne 12, 3, [27, 0, 1, 2], .null), (.aload_n 0, 1, [0], .null), (.getfield 23, 3, [9, 4, 2], .null), (.iload_n 1, 1, [1], .null), (.laload, 1, [], .null), (.goto 28, 3, [52], .null)]),
  (27, [(.iload_n 2, 1, [2], .null), (.aload_n 0, 1, [0], .null), (.getfield 30, 3, [9, 6, 2], .null), (.iload_n 1, 1, [1], .null), (.iaload, 1, [], .null), (.if_icmp .ge 17, 3, [51], .null), (.aload_n 0, 1, [0], .null), (.getfield 27, 3, [9, 5, 2], .null), (.bipush 6, 2, [], .int 6), (.iload_n 1, 1, [1], .null), (.imul, 1, [], .null), (.iload_n 2, 1, [2], .null), (.iadd, 1, [], .null), (.laload, 1, [], .null), (.goto 4, 3, [52], .null)]),
  (51, [(.lconst 0, 1, [], .long 0), (.nop, 0, [52], .null)]),
  (52, [(.lreturn, 1, [], .null)])], [[]], [0, 1, 2])
def k_Md_told : aK := ([(0, [(.iload_n 0, 1, [0], .null), (.sipush 1999, 3, [], .int 1999), (.if_icmp .ge 11, 3, [15, 0], .null), (.iload_n 0, 1, [0], .null), (.sipush 999, 3, [], .int 999), (.isub, 1, [], .null), (.goto 21, 3, [33], .null)]),
  (15, [(.iload_n 0, 1, [0], .null), (.sipush 2007, 3, [], .int 2007), (.if_icmp .ge 9, 3, [28, 0], .null), (.iload_n 0, 1, [0], .null), (.iconst 1, 1, [], .int 1), (.iadd, 1, [], .null), (.goto 8, 3, [33], .null)]),
  (28, [(.iload_n 0, 1, [0], .null), (.sipush 993, 3, [], .int 993), (.iadd, 1, [], .null), (.nop, 0, [33], .null)]),
  (33, [(.ireturn, 1, [0], .null)])], [[]], [0])
def k_Md_shape : aK := ([(0, [(.aload_n 0, 1, [0], .null), (.iload_n 1, 1, [1], .null), (.iconst 0, 1, [], .int 0), (.iconst 5, 1, [], .int 5), (.invokestatic 86, 3, [90, 3, 0, 0], .null), (.ifCond .eq 17, 3, [24, 0, 1, 2], .null), (.iload_n 2, 1, [2], .null), (.iconst 0, 1, [], .int 0), (.bipush 6, 2, [], .int 6), (.invokestatic 86, 3, [90, 3, 0, 0], .null), (.ifCond .eq 7, 3, [24, 0, 1, 2], .null), (.iconst 1, 1, [], .int 1), (.goto 4, 3, [25, 0, 1, 2], .null)]),
  (24, [(.iconst 0, 1, [], .int 0), (.nop, 0, [25, 0, 1, 2], .null)]),
  (25, [(.iconst 1, 1, [], .int 1), (.invokevirtual 199, 3, [92, 3, 0, 0], .null), (.ifCond .ne 5, 3, [34, 0, 1, 2], .null), (.iconst 0, 1, [], .int 0), (.ireturn, 1, [0], .null)]),
  (34, [(.aload_n 0, 1, [0], .null), (.iload_n 1, 1, [1], .null), (.iload_n 2, 1, [2], .null), (.invokevirtual 222, 3, [138, 3, 1, 0], .null), (.lstore_n 3, 1, [3], .null), (.lload_n 3, 1, [3], .null), (.lconst 0, 1, [], .long 0), (.lcmp, 1, [], .null), (.ifCond .ne 7, 3, [51, 3], .null), (.sipush (-5000), 3, [], .int (-5000)), (.ireturn, 1, [0], .null)]),
  (51, [(.iconst 0, 1, [], .int 0), (.istore 5, 2, [5], .null), (.iconst 2, 1, [], .int 2), (.lload_n 3, 1, [3], .null), (.invokestatic 70, 3, [114, 1, 0, 0], .null), (.imul, 1, [], .null), (.iconst 1, 1, [], .int 1), (.isub, 1, [], .null), (.istore 6, 2, [6], .null), (.iconst 0, 1, [], .int 0), (.istore 7, 2, [7], .null), (.nop, 0, [67, 3, 5, 6, 7], .null)]),
  (67, [(.iload 7, 2, [7], .null), (.iload 6, 2, [6], .null), (.if_icmp .ge 74, 3, [145, 5], .null), (.lload_n 3, 1, [3], .null), (.iload 7, 2, [7], .null), (.invokestatic 80, 3, [123, 2, 0, 0], .null), (.ifCond .ne 59, 3, [139, 3, 5, 6, 7], .null), (.iconst 0, 1, [], .int 0), (.istore 8, 2, [8], .null), (.iconst 0, 1, [], .int 0), (.istore 9, 2, [9], .null), (.nop, 0, [89, 3, 5, 6, 7, 8, 9], .null)]),
  (89, [(.iload 9, 2, [9], .null), (.iload 7, 2, [7], .null), (.if_icmp .ge 36, 3, [129, 3, 5, 6, 7, 8], .null), (.lload_n 3, 1, [3], .null), (.iload 9, 2, [9], .null), (.invokestatic 80, 3, [123, 2, 0, 0], .null), (.iconst 1, 1, [], .int 1), (.if_icmp .ne 20, 3, [123, 3, 5, 6, 7, 8, 9], .null), (.iload 9, 2, [9], .null), (.lload_n 3, 1, [3], .null), (.iload 9, 2, [9], .null), (.invokestatic 83, 3, [125, 2, 0, 0], .null), (.iadd, 1, [], .null), (.iload 7, 2, [7], .null), (.if_icmp .le 6, 3, [123, 3, 5, 6, 7, 8, 9], .null), (.iinc 8 1, 3, [8], .int 1), (.nop, 0, [123, 3, 5, 6, 7, 8, 9], .null)]),
  (123, [(.iinc 9 1, 3, [9], .int 1), (.goto (-37), 3, [89, 3, 5, 6, 7, 8, 9], .null)]),
  (129, [(.bipush 10, 2, [], .int 10), (.iload 5, 2, [5], .null), (.imul, 1, [], .null), (.iload 8, 2, [8], .null), (.iadd, 1, [], .null), (.istore 5, 2, [5], .null), (.nop, 0, [139, 3, 5, 6, 7], .null)]),
  (139, [(.iinc 7 1, 3, [7], .int 1), (.goto (-75), 3, [67, 3, 5, 6, 7], .null)]),
  (145, [(.iload 5, 2, [5], .null), (.ireturn, 1, [0], .null)])], [[]], [0, 1, 2])
def k_Md_about : aK := ([(0, [(.aload_n 0, 1, [0], .null), (.iload_n 1, 1, [1], .null), (.iconst 0, 1, [], .int 0), (.iconst 5, 1, [], .int 5), (.invokestatic 86, 3, [90, 3, 0, 0], .null), (.ifCond .eq 17, 3, [24, 0, 1, 2], .null), (.iload_n 2, 1, [2], .null), (.iconst 0, 1, [], .int 0), (.bipush 12, 2, [], .int 12), (.invokestatic 86, 3, [90, 3, 0, 0], .null), (.ifCond .eq 7, 3, [24, 0, 1, 2], .null), (.iconst 1, 1, [], .int 1), (.goto 4, 3, [25, 0, 1, 2], .null)]),
  (24, [(.iconst 0, 1, [], .int 0), (.nop, 0, [25, 0, 1, 2], .null)]),
  (25, [(.iconst 1, 1, [], .int 1), (.invokevirtual 199, 3, [92, 3, 0, 0], .null), (.ifCond .ne 5, 3, [34, 0, 1, 2], .null), (.iconst 0, 1, [], .int 0), (.ireturn, 1, [0], .null)]),
  (34, [(.aload_n 0, 1, [0], .null), (.getfield 20, 3, [9, 3, 2], .null), (.iload_n 1, 1, [1], .null), (.iaload, 1, [], .null), (.iconst 1, 1, [], .int 1), (.if_icmp .ne 7, 3, [48, 0, 1, 2], .null), (.iconst 1, 1, [], .int 1), (.goto 4, 3, [49, 0, 1, 2], .null)]),
  (48, [(.iconst 0, 1, [], .int 0), (.nop, 0, [49, 0, 1, 2], .null)]),
  (49, [(.istore_n 3, 1, [3], .null), (.iload_n 2, 1, [2], .null), (.ifCond .ne 10, 3, [61, 0, 1, 2, 3], .null), (.aload_n 0, 1, [0], .null), (.getfield 20, 3, [9, 3, 2], .null), (.iload_n 1, 1, [1], .null), (.iaload, 1, [], .null), (.ireturn, 1, [0], .null)]),
  (61, [(.iload_n 2, 1, [2], .null), (.iconst 1, 1, [], .int 1), (.if_icmp .ne 18, 3, [81, 0, 1, 2, 3], .null), (.iload_n 3, 1, [3], .null), (.ifCond .eq 12, 3, [79], .null), (.aload_n 0, 1, [0], .null), (.getfield 30, 3, [9, 6, 2], .null), (.iload_n 1, 1, [1], .null), (.iaload, 1, [], .null), (.goto 4, 3, [80], .null)]),
  (79, [(.iconst 0, 1, [], .int 0), (.nop, 0, [80], .null)]),
  (80, [(.ireturn, 1, [0], .null)]),
  (81, [(.iload_n 2, 1, [2], .null), (.iconst 2, 1, [], .int 2), (.if_icmp .ne 22, 3, [105, 0, 1, 2, 3], .null), (.iload_n 3, 1, [3], .null), (.ifCond .eq 16, 3, [103], .null), (.aload_n 0, 1, [0], .null), (.getfield 33, 3, [9, 7, 2], .null), (.iload_n 1, 1, [1], .null), (.baload, 1, [], .null), (.ifCond .eq 7, 3, [103], .null), (.iconst 1, 1, [], .int 1), (.goto 4, 3, [104], .null)]),
  (103, [(.iconst 0, 1, [], .int 0), (.nop, 0, [104], .null)]),
  (104, [(.ireturn, 1, [0], .null)]),
  (105, [(.iload_n 2, 1, [2], .null), (.iconst 3, 1, [], .int 3), (.if_icmp .ne 29, 3, [136, 0, 1, 2, 3], .null), (.aload_n 0, 1, [0], .null), (.getfield 20, 3, [9, 3, 2], .null), (.iload_n 1, 1, [1], .null), (.iaload, 1, [], .null), (.iconst 2, 1, [], .int 2), (.if_icmp .ne 15, 3, [132], .null), (.aload_n 0, 1, [0], .null), (.getfield 36, 3, [9, 8, 2], .null), (.iload_n 1, 1, [1], .null), (.iaload, 1, [], .null), (.invokestatic 225, 3, [139, 1, 0, 0], .null), (.goto 6, 3, [135], .null)]),
  (132, [(.sipush (-5000), 3, [], .int (-5000)), (.nop, 0, [135], .null)]),
  (135, [(.ireturn, 1, [0], .null)]),
  (136, [(.iload_n 2, 1, [2], .null), (.iconst 5, 1, [], .int 5), (.if_icmp .ne 21, 3, [159, 0, 1, 2], .null), (.iload_n 3, 1, [3], .null), (.ifCond .eq 13, 3, [155], .null), (.aload_n 0, 1, [0], .null), (.iconst 3, 1, [], .int 3), (.iload_n 1, 1, [1], .null), (.iadd, 1, [], .null), (.invokevirtual 206, 3, [103, 2, 0, 0], .null), (.goto 6, 3, [158], .null)]),
  (155, [(.sipush (-5000), 3, [], .int (-5000)), (.nop, 0, [158], .null)]),
  (158, [(.ireturn, 1, [0], .null)]),
  (159, [(.iload_n 2, 1, [2], .null), (.iconst 5, 1, [], .int 5), (.if_icmp .le 18, 3, [179, 0, 1], .null), (.aload_n 0, 1, [0], .null), (.getfield 45, 3, [9, 11, 2], .null), (.bipush 6, 2, [], .int 6), (.iload_n 2, 1, [2], .null), (.bipush 6, 2, [], .int 6), (.isub, 1, [], .null), (.imul, 1, [], .null), (.iload_n 1, 1, [1], .null), (.iadd, 1, [], .null), (.iaload, 1, [], .null), (.ireturn, 1, [0], .null)]),
  (179, [(.iconst 0, 1, [], .int 0), (.istore 4, 2, [4], .null), (.iconst 0, 1, [], .int 0), (.istore 5, 2, [5], .null), (.nop, 0, [185, 0, 1, 4, 5], .null)]),
  (185, [(.iload 5, 2, [5], .null), (.bipush 6, 2, [], .int 6), (.if_icmp .ge 33, 3, [222, 4], .null), (.aload_n 0, 1, [0], .null), (.getfield 39, 3, [9, 9, 2], .null), (.bipush 6, 2, [], .int 6), (.iload_n 1, 1, [1], .null), (.imul, 1, [], .null), (.iload 5, 2, [5], .null), (.iadd, 1, [], .null), (.baload, 1, [], .null), (.ifCond .eq 12, 3, [216, 0, 1, 4, 5], .null), (.iload 4, 2, [4], .null), (.iconst 1, 1, [], .int 1), (.iload 5, 2, [5], .null), (.ishl, 1, [], .null), (.ior, 1, [], .null), (.istore 4, 2, [4], .null), (.nop, 0, [216, 0, 1, 4, 5], .null)]),
  (216, [(.iinc 5 1, 3, [5], .int 1), (.goto (-34), 3, [185, 0, 1, 4, 5], .null)]),
  (222, [(.iload 4, 2, [4], .null), (.ireturn, 1, [0], .null)])], [[]], [0, 1, 2])
def k_Lw_type : aK := ([(0, [(.aload 4, 2, [4], .null), (.iconst 0, 1, [], .int 0), (.aload_n 0, 1, [0], .null), (.iload_n 1, 1, [1], .null), (.lload_n 2, 1, [2], .null), (.invokevirtual 7, 3, [67, 3, 0, 1], .null), (.i2l, 1, [], .null), (.lastore, 1, [], .null), (.goto 11, 3, [22], .null)]),
  (16, [(.iconst 1, 1, [], .int 1), (.ireturn, 1, [0], .null)]),
  (20, [(.iconst 2, 1, [], .int 2), (.ireturn, 1, [0], .null)]),
  (22, [(.iconst 0, 1, [], .int 0), (.ireturn, 1, [0], .null)])], [[], [(0, 16, []), (1, 20, [])]], [0, 1, 2, 4])
def k_Lw_clear : aK := ([(0, [(.aload_n 2, 1, [2], .null), (.iconst 0, 1, [], .int 0), (.aload_n 0, 1, [0], .null), (.iload_n 1, 1, [1], .null), (.invokevirtual 17, 3, [71, 2, 0, 1], .null), (.i2l, 1, [], .null), (.lastore, 1, [], .null), (.goto 6, 3, [15], .null)]),
  (13, [(.iconst 1, 1, [], .int 1), (.ireturn, 1, [0], .null)]),
  (15, [(.iconst 0, 1, [], .int 0), (.ireturn, 1, [0], .null)])], [[], [(1, 13, [])]], [0, 1, 2])
def k_Lw_check : aK := ([(0, [(.aload_n 2, 1, [2], .null), (.iconst 0, 1, [], .int 0), (.aload_n 0, 1, [0], .null), (.iload_n 1, 1, [1], .null), (.invokevirtual 21, 3, [72, 2, 0, 1], .null), (.i2l, 1, [], .null), (.lastore, 1, [], .null), (.goto 9, 3, [18], .null)]),
  (13, [(.iconst 1, 1, [], .int 1), (.ireturn, 1, [0], .null)]),
  (16, [(.iconst 2, 1, [], .int 2), (.ireturn, 1, [0], .null)]),
  (18, [(.iconst 0, 1, [], .int 0), (.ireturn, 1, [0], .null)])], [[], [(1, 13, []), (4, 16, [])]], [0, 1, 2])
def k_Lw_fault : aK := ([(0, [(.aload_n 2, 1, [2], .null), (.iconst 0, 1, [], .int 0), (.aload_n 0, 1, [0], .null), (.iload_n 1, 1, [1], .null), (.invokevirtual 26, 3, [73, 2, 0, 1], .null), (.i2l, 1, [], .null), (.lastore, 1, [], .null), (.goto 6, 3, [15], .null)]),
  (13, [(.iconst 1, 1, [], .int 1), (.ireturn, 1, [0], .null)]),
  (15, [(.iconst 0, 1, [], .int 0), (.ireturn, 1, [0], .null)])], [[], [(1, 13, [])]], [0, 1, 2])
def k_Lw_spawn : aK := ([(0, [(.aload_n 3, 1, [3], .null), (.iconst 0, 1, [], .int 0), (.aload_n 0, 1, [0], .null), (.iload_n 1, 1, [1], .null), (.iload_n 2, 1, [2], .null), (.invokevirtual 29, 3, [74, 3, 0, 1], .null), (.i2l, 1, [], .null), (.lastore, 1, [], .null), (.goto 11, 3, [21], .null)]),
  (15, [(.iconst 1, 1, [], .int 1), (.ireturn, 1, [0], .null)]),
  (19, [(.iconst 2, 1, [], .int 2), (.ireturn, 1, [0], .null)]),
  (21, [(.iconst 0, 1, [], .int 0), (.ireturn, 1, [0], .null)])], [[], [(0, 15, []), (1, 19, [])]], [0, 1, 2, 3])
def k_Lw_send : aK := ([(0, [(.aload 5, 2, [5], .null), (.iconst 0, 1, [], .int 0), (.aload_n 0, 1, [0], .null), (.iload_n 1, 1, [1], .null), (.iload_n 2, 1, [2], .null), (.iload_n 3, 1, [3], .null), (.iload 4, 2, [4], .null), (.invokevirtual 33, 3, [75, 5, 0, 1], .null), (.i2l, 1, [], .null), (.lastore, 1, [], .null), (.goto 11, 3, [25], .null)]),
  (19, [(.iconst 1, 1, [], .int 1), (.ireturn, 1, [0], .null)]),
  (23, [(.iconst 2, 1, [], .int 2), (.ireturn, 1, [0], .null)]),
  (25, [(.iconst 0, 1, [], .int 0), (.ireturn, 1, [0], .null)])], [[], [(0, 19, []), (1, 23, [])]], [0, 1, 2, 3, 4, 5])
def k_Lw_deliver : aK := ([(0, [(.aload_n 3, 1, [3], .null), (.iconst 0, 1, [], .int 0), (.aload_n 0, 1, [0], .null), (.iload_n 1, 1, [1], .null), (.iload_n 2, 1, [2], .null), (.invokevirtual 37, 3, [77, 3, 0, 1], .null), (.i2l, 1, [], .null), (.lastore, 1, [], .null), (.goto 15, 3, [25], .null)]),
  (15, [(.iconst 1, 1, [], .int 1), (.ireturn, 1, [0], .null)]),
  (19, [(.iconst 2, 1, [], .int 2), (.ireturn, 1, [0], .null)]),
  (23, [(.iconst 3, 1, [], .int 3), (.ireturn, 1, [0], .null)]),
  (25, [(.iconst 0, 1, [], .int 0), (.ireturn, 1, [0], .null)])], [[], [(0, 15, []), (1, 19, []), (2, 23, [])]], [0, 1, 2, 3])
def k_Lw_step : aK := ([(0, [(.aload_n 2, 1, [2], .null), (.iconst 0, 1, [], .int 0), (.aload_n 0, 1, [0], .null), (.iload_n 1, 1, [1], .null), (.invokevirtual 42, 3, [79, 2, 0, 1], .null), (.i2l, 1, [], .null), (.lastore, 1, [], .null), (.goto 18, 3, [27], .null)]),
  (13, [(.iconst 1, 1, [], .int 1), (.ireturn, 1, [0], .null)]),
  (16, [(.iconst 2, 1, [], .int 2), (.ireturn, 1, [0], .null)]),
  (19, [(.iconst 3, 1, [], .int 3), (.ireturn, 1, [0], .null)]),
  (22, [(.iconst 4, 1, [], .int 4), (.ireturn, 1, [0], .null)]),
  (25, [(.iconst 5, 1, [], .int 5), (.ireturn, 1, [0], .null)]),
  (27, [(.iconst 0, 1, [], .int 0), (.ireturn, 1, [0], .null)])], [[], [(0, 13, []), (1, 16, []), (2, 19, []), (3, 22, []), (4, 25, [])]], [0, 1, 2])
def k_Lw_kill : aK := ([(0, [(.aload_n 2, 1, [2], .null), (.iconst 0, 1, [], .int 0), (.aload_n 0, 1, [0], .null), (.iload_n 1, 1, [1], .null), (.invokevirtual 47, 3, [81, 2, 0, 1], .null), (.i2l, 1, [], .null), (.lastore, 1, [], .null), (.goto 9, 3, [18], .null)]),
  (13, [(.iconst 1, 1, [], .int 1), (.ireturn, 1, [0], .null)]),
  (16, [(.iconst 2, 1, [], .int 2), (.ireturn, 1, [0], .null)]),
  (18, [(.iconst 0, 1, [], .int 0), (.ireturn, 1, [0], .null)])], [[], [(0, 13, []), (1, 16, [])]], [0, 1, 2])
def k_Lw_reap : aK := ([(0, [(.aload_n 2, 1, [2], .null), (.iconst 0, 1, [], .int 0), (.aload_n 0, 1, [0], .null), (.iload_n 1, 1, [1], .null), (.invokevirtual 50, 3, [82, 2, 0, 1], .null), (.i2l, 1, [], .null), (.lastore, 1, [], .null), (.goto 9, 3, [18], .null)]),
  (13, [(.iconst 1, 1, [], .int 1), (.ireturn, 1, [0], .null)]),
  (16, [(.iconst 2, 1, [], .int 2), (.ireturn, 1, [0], .null)]),
  (18, [(.iconst 0, 1, [], .int 0), (.ireturn, 1, [0], .null)])], [[], [(0, 13, []), (1, 16, [])]], [0, 1, 2])
def k_Lw_leaf : aK := ([(0, [(.aload 4, 2, [4], .null), (.iconst 0, 1, [], .int 0), (.aload_n 0, 1, [0], .null), (.iload_n 1, 1, [1], .null), (.iload_n 2, 1, [2], .null), (.iload_n 3, 1, [3], .null), (.invokevirtual 53, 3, [83, 4, 0, 1], .null), (.i2l, 1, [], .null), (.lastore, 1, [], .null), (.goto 7, 3, [19], .null)]),
  (17, [(.iconst 1, 1, [], .int 1), (.ireturn, 1, [0], .null)]),
  (19, [(.iconst 0, 1, [], .int 0), (.ireturn, 1, [0], .null)])], [[], [(1, 17, [])]], [0, 1, 2, 3, 4])
def k_Lw_shape : aK := ([(0, [(.aload_n 3, 1, [3], .null), (.iconst 0, 1, [], .int 0), (.aload_n 0, 1, [0], .null), (.iload_n 1, 1, [1], .null), (.iload_n 2, 1, [2], .null), (.invokevirtual 57, 3, [85, 3, 0, 1], .null), (.i2l, 1, [], .null), (.lastore, 1, [], .null), (.goto 7, 3, [17], .null)]),
  (15, [(.iconst 1, 1, [], .int 1), (.ireturn, 1, [0], .null)]),
  (17, [(.iconst 0, 1, [], .int 0), (.ireturn, 1, [0], .null)])], [[], [(1, 15, [])]], [0, 1, 2, 3])
def k_Lw_about : aK := ([(0, [(.aload_n 3, 1, [3], .null), (.iconst 0, 1, [], .int 0), (.aload_n 0, 1, [0], .null), (.iload_n 1, 1, [1], .null), (.iload_n 2, 1, [2], .null), (.invokevirtual 60, 3, [86, 3, 0, 1], .null), (.i2l, 1, [], .null), (.lastore, 1, [], .null), (.goto 7, 3, [17], .null)]),
  (15, [(.iconst 1, 1, [], .int 1), (.ireturn, 1, [0], .null)]),
  (17, [(.iconst 0, 1, [], .int 0), (.ireturn, 1, [0], .null)])], [[], [(1, 15, [])]], [0, 1, 2, 3])
def k_Lw_law : aK := ([(0, [(.new 8, 3, [8, 0], .null), (.dup, 1, [], .null), (.invokespecial 63, 3, [66, 1, 9, 0], .null), (.astore_n 1, 1, [1], .null), (.new 64, 3, [9, 0], .null), (.dup, 1, [], .null), (.invokespecial 66, 3, [87, 1, 9, 0], .null), (.astore_n 2, 1, [2], .null), (.iconst 1, 1, [], .int 1), (.newarray .long, 2, [11], .null), (.astore_n 3, 1, [3], .null), (.iconst 0, 1, [], .int 0), (.istore 4, 2, [4], .null), (.nop, 0, [23, 0, 1, 2, 3, 4], .null)]),
  (23, [(.iload 4, 2, [4], .null), (.aload_n 0, 1, [0], .null), (.arraylength, 1, [10], .null), (.iconst 5, 1, [], .int 5), (.isub, 1, [], .null), (.if_icmp .gt 961, 3, [990], .null), (.aload_n 0, 1, [0], .null), (.iload 4, 2, [4], .null), (.iaload, 1, [], .null), (.bipush 15, 2, [], .int 15), (.iand, 1, [], .null), (.tableswitch 945 0 12 #[65, 165, 221, 277, 333, 401, 493, 561, 617, 673, 729, 809, 877], 65, [0, 984, 5, 0, 1, 2, 3, 4, 104, 204, 260, 316, 372, 440, 532, 600, 656, 712, 768, 848, 916], .null)]),
  (104, [(.aload_n 1, 1, [1], .null), (.aload_n 0, 1, [0], .null), (.iload 4, 2, [4], .null), (.iconst 1, 1, [], .int 1), (.iadd, 1, [], .null), (.iaload, 1, [], .null), (.aload_n 0, 1, [0], .null), (.iload 4, 2, [4], .null), (.iconst 2, 1, [], .int 2), (.iadd, 1, [], .null), (.iaload, 1, [], .null), (.i2l, 1, [], .null), (.bipush 32, 2, [], .int 32), (.lshl, 1, [], .null), (.aload_n 0, 1, [0], .null), (.iload 4, 2, [4], .null), (.iconst 3, 1, [], .int 3), (.iadd, 1, [], .null), (.iaload, 1, [], .null), (.i2l, 1, [], .null), (.ldc2_w 67, 3, [], .long 4294967295), (.land, 1, [], .null), (.lor, 1, [], .null), (.aload_n 3, 1, [3], .null), (.invokestatic 69, 3, [142, 4, 0, 0], .null), (.istore 5, 2, [5], .null), (.aload_n 2, 1, [2], .null), (.aload_n 0, 1, [0], .null), (.iload 4, 2, [4], .null), (.iconst 1, 1, [], .int 1), (.iadd, 1, [], .null), (.iaload, 1, [], .null), (.aload_n 0, 1, [0], .null), (.iload 4, 2, [4], .null), (.iconst 2, 1, [], .int 2), (.iadd, 1, [], .null), (.iaload, 1, [], .null), (.i2l, 1, [], .null), (.bipush 32, 2, [], .int 32), (.lshl, 1, [], .null), (.aload_n 0, 1, [0], .null), (.iload 4, 2, [4], .null), (.iconst 3, 1, [], .int 3), (.iadd, 1, [], .null), (.iaload, 1, [], .null), (.i2l, 1, [], .null), (.ldc2_w 67, 3, [], .long 4294967295), (.land, 1, [], .null), (.lor, 1, [], .null), (.invokevirtual 74, 3, [89, 3, 0, 0], .null), (.istore 6, 2, [6], .null), (.aload_n 2, 1, [2], .null), (.invokevirtual 75, 3, [88, 1, 0, 0], .null), (.iload 5, 2, [5], .null), (.if_icmp .eq 5, 3, [184, 0, 1, 2, 3, 4, 5, 6], .null), (.iconst 0, 1, [], .int 0), (.ireturn, 1, [3], .null)]),
  (184, [(.iload 5, 2, [5], .null), (.ifCond .ne 15, 3, [201, 0, 1, 2, 3, 4], .null), (.aload_n 3, 1, [3], .null), (.iconst 0, 1, [], .int 0), (.laload, 1, [], .null), (.iload 6, 2, [6], .null), (.i2l, 1, [], .null), (.lcmp, 1, [], .null), (.ifCond .eq 5, 3, [201, 0, 1, 2, 3, 4], .null), (.iconst 0, 1, [], .int 0), (.ireturn, 1, [3], .null)]),
  (201, [(.goto 783, 3, [984, 0, 1, 2, 3, 4], .null)]),
  (204, [(.aload_n 1, 1, [1], .null), (.aload_n 0, 1, [0], .null), (.iload 4, 2, [4], .null), (.iconst 1, 1, [], .int 1), (.iadd, 1, [], .null), (.iaload, 1, [], .null), (.aload_n 3, 1, [3], .null), (.invokestatic 79, 3, [143, 3, 0, 0], .null), (.istore 5, 2, [5], .null), (.aload_n 2, 1, [2], .null), (.aload_n 0, 1, [0], .null), (.iload 4, 2, [4], .null), (.iconst 1, 1, [], .int 1), (.iadd, 1, [], .null), (.iaload, 1, [], .null), (.invokevirtual 82, 3, [93, 2, 0, 0], .null), (.istore 6, 2, [6], .null), (.aload_n 2, 1, [2], .null), (.invokevirtual 75, 3, [88, 1, 0, 0], .null), (.iload 5, 2, [5], .null), (.if_icmp .eq 5, 3, [240, 0, 1, 2, 3, 4, 5, 6], .null), (.iconst 0, 1, [], .int 0), (.ireturn, 1, [3], .null)]),
  (240, [(.iload 5, 2, [5], .null), (.ifCond .ne 15, 3, [257, 0, 1, 2, 3, 4], .null), (.aload_n 3, 1, [3], .null), (.iconst 0, 1, [], .int 0), (.laload, 1, [], .null), (.iload 6, 2, [6], .null), (.i2l, 1, [], .null), (.lcmp, 1, [], .null), (.ifCond .eq 5, 3, [257, 0, 1, 2, 3, 4], .null), (.iconst 0, 1, [], .int 0), (.ireturn, 1, [3], .null)]),
  (257, [(.goto 727, 3, [984, 0, 1, 2, 3, 4], .null)]),
  (260, [(.aload_n 1, 1, [1], .null), (.aload_n 0, 1, [0], .null), (.iload 4, 2, [4], .null), (.iconst 1, 1, [], .int 1), (.iadd, 1, [], .null), (.iaload, 1, [], .null), (.aload_n 3, 1, [3], .null), (.invokestatic 83, 3, [144, 3, 0, 0], .null), (.istore 5, 2, [5], .null), (.aload_n 2, 1, [2], .null), (.aload_n 0, 1, [0], .null), (.iload 4, 2, [4], .null), (.iconst 1, 1, [], .int 1), (.iadd, 1, [], .null), (.iaload, 1, [], .null), (.invokevirtual 85, 3, [94, 2, 0, 0], .null), (.istore 6, 2, [6], .null), (.aload_n 2, 1, [2], .null), (.invokevirtual 75, 3, [88, 1, 0, 0], .null), (.iload 5, 2, [5], .null), (.if_icmp .eq 5, 3, [296, 0, 1, 2, 3, 4, 5, 6], .null), (.iconst 0, 1, [], .int 0), (.ireturn, 1, [3], .null)]),
  (296, [(.iload 5, 2, [5], .null), (.ifCond .ne 15, 3, [313, 0, 1, 2, 3, 4], .null), (.aload_n 3, 1, [3], .null), (.iconst 0, 1, [], .int 0), (.laload, 1, [], .null), (.iload 6, 2, [6], .null), (.i2l, 1, [], .null), (.lcmp, 1, [], .null), (.ifCond .eq 5, 3, [313, 0, 1, 2, 3, 4], .null), (.iconst 0, 1, [], .int 0), (.ireturn, 1, [3], .null)]),
  (313, [(.goto 671, 3, [984, 0, 1, 2, 3, 4], .null)]),
  (316, [(.aload_n 1, 1, [1], .null), (.aload_n 0, 1, [0], .null), (.iload 4, 2, [4], .null), (.iconst 1, 1, [], .int 1), (.iadd, 1, [], .null), (.iaload, 1, [], .null), (.aload_n 3, 1, [3], .null), (.invokestatic 86, 3, [145, 3, 0, 0], .null), (.istore 5, 2, [5], .null), (.aload_n 2, 1, [2], .null), (.aload_n 0, 1, [0], .null), (.iload 4, 2, [4], .null), (.iconst 1, 1, [], .int 1), (.iadd, 1, [], .null), (.iaload, 1, [], .null), (.invokevirtual 88, 3, [104, 2, 0, 0], .null), (.istore 6, 2, [6], .null), (.aload_n 2, 1, [2], .null), (.invokevirtual 75, 3, [88, 1, 0, 0], .null), (.iload 5, 2, [5], .null), (.if_icmp .eq 5, 3, [352, 0, 1, 2, 3, 4, 5, 6], .null), (.iconst 0, 1, [], .int 0), (.ireturn, 1, [3], .null)]),
  (352, [(.iload 5, 2, [5], .null), (.ifCond .ne 15, 3, [369, 0, 1, 2, 3, 4], .null), (.aload_n 3, 1, [3], .null), (.iconst 0, 1, [], .int 0), (.laload, 1, [], .null), (.iload 6, 2, [6], .null), (.i2l, 1, [], .null), (.lcmp, 1, [], .null), (.ifCond .eq 5, 3, [369, 0, 1, 2, 3, 4], .null), (.iconst 0, 1, [], .int 0), (.ireturn, 1, [3], .null)]),
  (369, [(.goto 615, 3, [984, 0, 1, 2, 3, 4], .null)]),
  (372, [(.aload_n 1, 1, [1], .null), (.aload_n 0, 1, [0], .null), (.iload 4, 2, [4], .null), (.iconst 1, 1, [], .int 1), (.iadd, 1, [], .null), (.iaload, 1, [], .null), (.aload_n 0, 1, [0], .null), (.iload 4, 2, [4], .null), (.iconst 2, 1, [], .int 2), (.iadd, 1, [], .null), (.iaload, 1, [], .null), (.aload_n 3, 1, [3], .null), (.invokestatic 89, 3, [146, 4, 0, 0], .null), (.istore 5, 2, [5], .null), (.aload_n 2, 1, [2], .null), (.aload_n 0, 1, [0], .null), (.iload 4, 2, [4], .null), (.iconst 1, 1, [], .int 1), (.iadd, 1, [], .null), (.iaload, 1, [], .null), (.aload_n 0, 1, [0], .null), (.iload 4, 2, [4], .null), (.iconst 2, 1, [], .int 2), (.iadd, 1, [], .null), (.iaload, 1, [], .null), (.invokevirtual 92, 3, [105, 3, 0, 0], .null), (.istore 6, 2, [6], .null), (.aload_n 2, 1, [2], .null), (.invokevirtual 75, 3, [88, 1, 0, 0], .null), (.iload 5, 2, [5], .null), (.if_icmp .eq 5, 3, [420, 0, 1, 2, 3, 4, 5, 6], .null), (.iconst 0, 1, [], .int 0), (.ireturn, 1, [3], .null)]),
  (420, [(.iload 5, 2, [5], .null), (.ifCond .ne 15, 3, [437, 0, 1, 2, 3, 4], .null), (.aload_n 3, 1, [3], .null), (.iconst 0, 1, [], .int 0), (.laload, 1, [], .null), (.iload 6, 2, [6], .null), (.i2l, 1, [], .null), (.lcmp, 1, [], .null), (.ifCond .eq 5, 3, [437, 0, 1, 2, 3, 4], .null), (.iconst 0, 1, [], .int 0), (.ireturn, 1, [3], .null)]),
  (437, [(.goto 547, 3, [984, 0, 1, 2, 3, 4], .null)]),
  (440, [(.aload_n 1, 1, [1], .null), (.aload_n 0, 1, [0], .null), (.iload 4, 2, [4], .null), (.iconst 1, 1, [], .int 1), (.iadd, 1, [], .null), (.iaload, 1, [], .null), (.aload_n 0, 1, [0], .null), (.iload 4, 2, [4], .null), (.iconst 2, 1, [], .int 2), (.iadd, 1, [], .null), (.iaload, 1, [], .null), (.aload_n 0, 1, [0], .null), (.iload 4, 2, [4], .null), (.iconst 3, 1, [], .int 3), (.iadd, 1, [], .null), (.iaload, 1, [], .null), (.aload_n 0, 1, [0], .null), (.iload 4, 2, [4], .null), (.iconst 4, 1, [], .int 4), (.iadd, 1, [], .null), (.iaload, 1, [], .null), (.aload_n 3, 1, [3], .null), (.invokestatic 93, 3, [147, 6, 0, 0], .null), (.istore 5, 2, [5], .null), (.aload_n 2, 1, [2], .null), (.aload_n 0, 1, [0], .null), (.iload 4, 2, [4], .null), (.iconst 1, 1, [], .int 1), (.iadd, 1, [], .null), (.iaload, 1, [], .null), (.aload_n 0, 1, [0], .null), (.iload 4, 2, [4], .null), (.iconst 2, 1, [], .int 2), (.iadd, 1, [], .null), (.iaload, 1, [], .null), (.aload_n 0, 1, [0], .null), (.iload 4, 2, [4], .null), (.iconst 3, 1, [], .int 3), (.iadd, 1, [], .null), (.iaload, 1, [], .null), (.aload_n 0, 1, [0], .null), (.iload 4, 2, [4], .null), (.iconst 4, 1, [], .int 4), (.iadd, 1, [], .null), (.iaload, 1, [], .null), (.invokevirtual 96, 3, [110, 5, 0, 0], .null), (.istore 6, 2, [6], .null), (.aload_n 2, 1, [2], .null), (.invokevirtual 75, 3, [88, 1, 0, 0], .null), (.iload 5, 2, [5], .null), (.if_icmp .eq 5, 3, [512, 0, 1, 2, 3, 4, 5, 6], .null), (.iconst 0, 1, [], .int 0), (.ireturn, 1, [3], .null)]),
  (512, [(.iload 5, 2, [5], .null), (.ifCond .ne 15, 3, [529, 0, 1, 2, 3, 4], .null), (.aload_n 3, 1, [3], .null), (.iconst 0, 1, [], .int 0), (.laload, 1, [], .null), (.iload 6, 2, [6], .null), (.i2l, 1, [], .null), (.lcmp, 1, [], .null), (.ifCond .eq 5, 3, [529, 0, 1, 2, 3, 4], .null), (.iconst 0, 1, [], .int 0), (.ireturn, 1, [3], .null)]),
  (529, [(.goto 455, 3, [984, 0, 1, 2, 3, 4], .null)]),
  (532, [(.aload_n 1, 1, [1], .null), (.aload_n 0, 1, [0], .null), (.iload 4, 2, [4], .null), (.iconst 1, 1, [], .int 1), (.iadd, 1, [], .null), (.iaload, 1, [], .null), (.aload_n 0, 1, [0], .null), (.iload 4, 2, [4], .null), (.iconst 2, 1, [], .int 2), (.iadd, 1, [], .null), (.iaload, 1, [], .null), (.aload_n 3, 1, [3], .null), (.invokestatic 97, 3, [148, 4, 0, 0], .null), (.istore 5, 2, [5], .null), (.aload_n 2, 1, [2], .null), (.aload_n 0, 1, [0], .null), (.iload 4, 2, [4], .null), (.iconst 1, 1, [], .int 1), (.iadd, 1, [], .null), (.iaload, 1, [], .null), (.aload_n 0, 1, [0], .null), (.iload 4, 2, [4], .null), (.iconst 2, 1, [], .int 2), (.iadd, 1, [], .null), (.iaload, 1, [], .null), (.invokevirtual 99, 3, [116, 3, 0, 0], .null), (.istore 6, 2, [6], .null), (.aload_n 2, 1, [2], .null), (.invokevirtual 75, 3, [88, 1, 0, 0], .null), (.iload 5, 2, [5], .null), (.if_icmp .eq 5, 3, [580, 0, 1, 2, 3, 4, 5, 6], .null), (.iconst 0, 1, [], .int 0), (.ireturn, 1, [3], .null)]),
  (580, [(.iload 5, 2, [5], .null), (.ifCond .ne 15, 3, [597, 0, 1, 2, 3, 4], .null), (.aload_n 3, 1, [3], .null), (.iconst 0, 1, [], .int 0), (.laload, 1, [], .null), (.iload 6, 2, [6], .null), (.i2l, 1, [], .null), (.lcmp, 1, [], .null), (.ifCond .eq 5, 3, [597, 0, 1, 2, 3, 4], .null), (.iconst 0, 1, [], .int 0), (.ireturn, 1, [3], .null)]),
  (597, [(.goto 387, 3, [984, 0, 1, 2, 3, 4], .null)]),
  (600, [(.aload_n 1, 1, [1], .null), (.aload_n 0, 1, [0], .null), (.iload 4, 2, [4], .null), (.iconst 1, 1, [], .int 1), (.iadd, 1, [], .null), (.iaload, 1, [], .null), (.aload_n 3, 1, [3], .null), (.invokestatic 100, 3, [149, 3, 0, 0], .null), (.istore 5, 2, [5], .null), (.aload_n 2, 1, [2], .null), (.aload_n 0, 1, [0], .null), (.iload 4, 2, [4], .null), (.iconst 1, 1, [], .int 1), (.iadd, 1, [], .null), (.iaload, 1, [], .null), (.invokevirtual 102, 3, [120, 2, 0, 0], .null), (.istore 6, 2, [6], .null), (.aload_n 2, 1, [2], .null), (.invokevirtual 75, 3, [88, 1, 0, 0], .null), (.iload 5, 2, [5], .null), (.if_icmp .eq 5, 3, [636, 0, 1, 2, 3, 4, 5, 6], .null), (.iconst 0, 1, [], .int 0), (.ireturn, 1, [3], .null)]),
  (636, [(.iload 5, 2, [5], .null), (.ifCond .ne 15, 3, [653, 0, 1, 2, 3, 4], .null), (.aload_n 3, 1, [3], .null), (.iconst 0, 1, [], .int 0), (.laload, 1, [], .null), (.iload 6, 2, [6], .null), (.i2l, 1, [], .null), (.lcmp, 1, [], .null), (.ifCond .eq 5, 3, [653, 0, 1, 2, 3, 4], .null), (.iconst 0, 1, [], .int 0), (.ireturn, 1, [3], .null)]),
  (653, [(.goto 331, 3, [984, 0, 1, 2, 3, 4], .null)]),
  (656, [(.aload_n 1, 1, [1], .null), (.aload_n 0, 1, [0], .null), (.iload 4, 2, [4], .null), (.iconst 1, 1, [], .int 1), (.iadd, 1, [], .null), (.iaload, 1, [], .null), (.aload_n 3, 1, [3], .null), (.invokestatic 103, 3, [150, 3, 0, 0], .null), (.istore 5, 2, [5], .null), (.aload_n 2, 1, [2], .null), (.aload_n 0, 1, [0], .null), (.iload 4, 2, [4], .null), (.iconst 1, 1, [], .int 1), (.iadd, 1, [], .null), (.iaload, 1, [], .null), (.invokevirtual 105, 3, [135, 2, 0, 0], .null), (.istore 6, 2, [6], .null), (.aload_n 2, 1, [2], .null), (.invokevirtual 75, 3, [88, 1, 0, 0], .null), (.iload 5, 2, [5], .null), (.if_icmp .eq 5, 3, [692, 0, 1, 2, 3, 4, 5, 6], .null), (.iconst 0, 1, [], .int 0), (.ireturn, 1, [3], .null)]),
  (692, [(.iload 5, 2, [5], .null), (.ifCond .ne 15, 3, [709, 0, 1, 2, 3, 4], .null), (.aload_n 3, 1, [3], .null), (.iconst 0, 1, [], .int 0), (.laload, 1, [], .null), (.iload 6, 2, [6], .null), (.i2l, 1, [], .null), (.lcmp, 1, [], .null), (.ifCond .eq 5, 3, [709, 0, 1, 2, 3, 4], .null), (.iconst 0, 1, [], .int 0), (.ireturn, 1, [3], .null)]),
  (709, [(.goto 275, 3, [984, 0, 1, 2, 3, 4], .null)]),
  (712, [(.aload_n 1, 1, [1], .null), (.aload_n 0, 1, [0], .null), (.iload 4, 2, [4], .null), (.iconst 1, 1, [], .int 1), (.iadd, 1, [], .null), (.iaload, 1, [], .null), (.aload_n 3, 1, [3], .null), (.invokestatic 106, 3, [151, 3, 0, 0], .null), (.istore 5, 2, [5], .null), (.aload_n 2, 1, [2], .null), (.aload_n 0, 1, [0], .null), (.iload 4, 2, [4], .null), (.iconst 1, 1, [], .int 1), (.iadd, 1, [], .null), (.iaload, 1, [], .null), (.invokevirtual 108, 3, [136, 2, 0, 0], .null), (.istore 6, 2, [6], .null), (.aload_n 2, 1, [2], .null), (.invokevirtual 75, 3, [88, 1, 0, 0], .null), (.iload 5, 2, [5], .null), (.if_icmp .eq 5, 3, [748, 0, 1, 2, 3, 4, 5, 6], .null), (.iconst 0, 1, [], .int 0), (.ireturn, 1, [3], .null)]),
  (748, [(.iload 5, 2, [5], .null), (.ifCond .ne 15, 3, [765, 0, 1, 2, 3, 4], .null), (.aload_n 3, 1, [3], .null), (.iconst 0, 1, [], .int 0), (.laload, 1, [], .null), (.iload 6, 2, [6], .null), (.i2l, 1, [], .null), (.lcmp, 1, [], .null), (.ifCond .eq 5, 3, [765, 0, 1, 2, 3, 4], .null), (.iconst 0, 1, [], .int 0), (.ireturn, 1, [3], .null)]),
  (765, [(.goto 219, 3, [984, 0, 1, 2, 3, 4], .null)]),
  (768, [(.aload_n 1, 1, [1], .null), (.aload_n 0, 1, [0], .null), (.iload 4, 2, [4], .null), (.iconst 1, 1, [], .int 1), (.iadd, 1, [], .null), (.iaload, 1, [], .null), (.aload_n 0, 1, [0], .null), (.iload 4, 2, [4], .null), (.iconst 2, 1, [], .int 2), (.iadd, 1, [], .null), (.iaload, 1, [], .null), (.aload_n 0, 1, [0], .null), (.iload 4, 2, [4], .null), (.iconst 3, 1, [], .int 3), (.iadd, 1, [], .null), (.iaload, 1, [], .null), (.aload_n 3, 1, [3], .null), (.invokestatic 109, 3, [152, 5, 0, 0], .null), (.istore 5, 2, [5], .null), (.aload_n 2, 1, [2], .null), (.aload_n 0, 1, [0], .null), (.iload 4, 2, [4], .null), (.iconst 1, 1, [], .int 1), (.iadd, 1, [], .null), (.iaload, 1, [], .null), (.aload_n 0, 1, [0], .null), (.iload 4, 2, [4], .null), (.iconst 2, 1, [], .int 2), (.iadd, 1, [], .null), (.iaload, 1, [], .null), (.aload_n 0, 1, [0], .null), (.iload 4, 2, [4], .null), (.iconst 3, 1, [], .int 3), (.iadd, 1, [], .null), (.iaload, 1, [], .null), (.invokevirtual 112, 3, [137, 4, 0, 0], .null), (.istore 6, 2, [6], .null), (.aload_n 2, 1, [2], .null), (.invokevirtual 75, 3, [88, 1, 0, 0], .null), (.iload 5, 2, [5], .null), (.if_icmp .eq 5, 3, [828, 0, 1, 2, 3, 4, 5, 6], .null), (.iconst 0, 1, [], .int 0), (.ireturn, 1, [3], .null)]),
  (828, [(.iload 5, 2, [5], .null), (.ifCond .ne 15, 3, [845, 0, 1, 2, 3, 4], .null), (.aload_n 3, 1, [3], .null), (.iconst 0, 1, [], .int 0), (.laload, 1, [], .null), (.iload 6, 2, [6], .null), (.i2l, 1, [], .null), (.lcmp, 1, [], .null), (.ifCond .eq 5, 3, [845, 0, 1, 2, 3, 4], .null), (.iconst 0, 1, [], .int 0), (.ireturn, 1, [3], .null)]),
  (845, [(.goto 139, 3, [984, 0, 1, 2, 3, 4], .null)]),
  (848, [(.aload_n 1, 1, [1], .null), (.aload_n 0, 1, [0], .null), (.iload 4, 2, [4], .null), (.iconst 1, 1, [], .int 1), (.iadd, 1, [], .null), (.iaload, 1, [], .null), (.aload_n 0, 1, [0], .null), (.iload 4, 2, [4], .null), (.iconst 2, 1, [], .int 2), (.iadd, 1, [], .null), (.iaload, 1, [], .null), (.aload_n 3, 1, [3], .null), (.invokestatic 113, 3, [153, 4, 0, 0], .null), (.istore 5, 2, [5], .null), (.aload_n 2, 1, [2], .null), (.aload_n 0, 1, [0], .null), (.iload 4, 2, [4], .null), (.iconst 1, 1, [], .int 1), (.iadd, 1, [], .null), (.iaload, 1, [], .null), (.aload_n 0, 1, [0], .null), (.iload 4, 2, [4], .null), (.iconst 2, 1, [], .int 2), (.iadd, 1, [], .null), (.iaload, 1, [], .null), (.invokevirtual 115, 3, [140, 3, 0, 0], .null), (.istore 6, 2, [6], .null), (.aload_n 2, 1, [2], .null), (.invokevirtual 75, 3, [88, 1, 0, 0], .null), (.iload 5, 2, [5], .null), (.if_icmp .eq 5, 3, [896, 0, 1, 2, 3, 4, 5, 6], .null), (.iconst 0, 1, [], .int 0), (.ireturn, 1, [3], .null)]),
  (896, [(.iload 5, 2, [5], .null), (.ifCond .ne 15, 3, [913, 0, 1, 2, 3, 4], .null), (.aload_n 3, 1, [3], .null), (.iconst 0, 1, [], .int 0), (.laload, 1, [], .null), (.iload 6, 2, [6], .null), (.i2l, 1, [], .null), (.lcmp, 1, [], .null), (.ifCond .eq 5, 3, [913, 0, 1, 2, 3, 4], .null), (.iconst 0, 1, [], .int 0), (.ireturn, 1, [3], .null)]),
  (913, [(.goto 71, 3, [984, 0, 1, 2, 3, 4], .null)]),
  (916, [(.aload_n 1, 1, [1], .null), (.aload_n 0, 1, [0], .null), (.iload 4, 2, [4], .null), (.iconst 1, 1, [], .int 1), (.iadd, 1, [], .null), (.iaload, 1, [], .null), (.aload_n 0, 1, [0], .null), (.iload 4, 2, [4], .null), (.iconst 2, 1, [], .int 2), (.iadd, 1, [], .null), (.iaload, 1, [], .null), (.aload_n 3, 1, [3], .null), (.invokestatic 116, 3, [154, 4, 0, 0], .null), (.istore 5, 2, [5], .null), (.aload_n 2, 1, [2], .null), (.aload_n 0, 1, [0], .null), (.iload 4, 2, [4], .null), (.iconst 1, 1, [], .int 1), (.iadd, 1, [], .null), (.iaload, 1, [], .null), (.aload_n 0, 1, [0], .null), (.iload 4, 2, [4], .null), (.iconst 2, 1, [], .int 2), (.iadd, 1, [], .null), (.iaload, 1, [], .null), (.invokevirtual 118, 3, [141, 3, 0, 0], .null), (.istore 6, 2, [6], .null), (.aload_n 2, 1, [2], .null), (.invokevirtual 75, 3, [88, 1, 0, 0], .null), (.iload 5, 2, [5], .null), (.if_icmp .eq 5, 3, [964, 0, 1, 2, 3, 4, 5, 6], .null), (.iconst 0, 1, [], .int 0), (.ireturn, 1, [3], .null)]),
  (964, [(.iload 5, 2, [5], .null), (.ifCond .ne 15, 3, [981, 0, 1, 2, 3, 4], .null), (.aload_n 3, 1, [3], .null), (.iconst 0, 1, [], .int 0), (.laload, 1, [], .null), (.iload 6, 2, [6], .null), (.i2l, 1, [], .null), (.lcmp, 1, [], .null), (.ifCond .eq 5, 3, [981, 0, 1, 2, 3, 4], .null), (.iconst 0, 1, [], .int 0), (.ireturn, 1, [3], .null)]),
  (981, [(.goto 3, 3, [984, 0, 1, 2, 3, 4], .null)]),
  (984, [(.iinc 4 5, 3, [4], .int 5), (.goto (-964), 3, [23, 0, 1, 2, 3, 4], .null)]),
  (990, [(.iconst 1, 1, [], .int 1), (.ireturn, 1, [3], .null)])], [[]], [0])
def k_Integer_bitCount : aK := ([(0, [(.iload_n 0, 1, [0], .null), (.iload_n 0, 1, [0], .null), (.iconst 1, 1, [], .int 1), (.iushr, 1, [], .null), (.ldc_w 265, 3, [], .int 1431655765), (.iand, 1, [], .null), (.isub, 1, [], .null), (.istore_n 0, 1, [0], .null), (.iload_n 0, 1, [0], .null), (.ldc_w 266, 3, [], .int 858993459), (.iand, 1, [], .null), (.iload_n 0, 1, [0], .null), (.iconst 2, 1, [], .int 2), (.iushr, 1, [], .null), (.ldc_w 266, 3, [], .int 858993459), (.iand, 1, [], .null), (.iadd, 1, [], .null), (.istore_n 0, 1, [0], .null), (.iload_n 0, 1, [0], .null), (.iload_n 0, 1, [0], .null), (.iconst 4, 1, [], .int 4), (.iushr, 1, [], .null), (.iadd, 1, [], .null), (.ldc_w 267, 3, [], .int 252645135), (.iand, 1, [], .null), (.istore_n 0, 1, [0], .null), (.iload_n 0, 1, [0], .null), (.iload_n 0, 1, [0], .null), (.bipush 8, 2, [], .int 8), (.iushr, 1, [], .null), (.iadd, 1, [], .null), (.istore_n 0, 1, [0], .null), (.iload_n 0, 1, [0], .null), (.iload_n 0, 1, [0], .null), (.bipush 16, 2, [], .int 16), (.iushr, 1, [], .null), (.iadd, 1, [], .null), (.istore_n 0, 1, [0], .null), (.iload_n 0, 1, [0], .null), (.bipush 63, 2, [], .int 63), (.iand, 1, [], .null), (.ireturn, 1, [0], .null)])], [[]], [0])
def k_Math_abs : aK := ([(0, [(.iload_n 0, 1, [0], .null), (.ifCond .ge 8, 3, [9, 0], .null), (.iload_n 0, 1, [0], .null), (.ineg, 1, [], .null), (.goto 4, 3, [10], .null)]),
  (9, [(.iload_n 0, 1, [0], .null), (.nop, 0, [10], .null)]),
  (10, [(.ireturn, 1, [0], .null)])], [[]], [0])
def am_KL : List aK := [k_Actor_init, k_Actor_begin, k_Actor_finish, k_Evaluator_init, k_Evaluator_begin, k_Evaluator_fits, k_Evaluator_variableOf, k_Evaluator_constant, k_Evaluator_guardHolds, k_Evaluator_evaluate, k_Evaluator_evaluateTwo, k_Evaluator_failed, k_Evaluator_calculate, k_Grammar_init, k_Grammar_placeOfFault, k_Grammar_readPattern, k_Grammar_readSimple, k_Grammar_readVariable, k_Grammar_readGuard, k_Grammar_readExpression, k_Grammar_readActions, k_Grammar_readAction, k_Reader_init, k_Reader_open, k_Reader_isAtEnd, k_Reader_sign, k_Reader_accept, k_Reader_acceptFrom, k_Reader_next, k_Reader_skipPast, k_Row_init, k_Row_put, k_Row_at, k_Row_take, k_Stepper_init, k_Stepper_find, k_Stepper_findClause, k_Stepper_perform, k_Stepper_act, k_Stepper_putUnderWay, k_Stepper_makeLinked, k_Stepper_use, k_Term_ofLeaf, k_Term_pair, k_Term_countLeaves, k_Term_shapeOf, k_Term_build, k_Term_isSignal, k_Term_leafAt, k_Term_signal, k_Term_isPair, k_Term_left, k_Term_countLeftLeaves, k_Term_right, k_Term_isInt, k_Term_isActor, k_Text_init, k_Text_append, k_Text_countClauses, k_Text_copyFrom, k_World_init, k_World_make, k_World_way, k_World_end, k_World_link, k_World_countFree, k_AM_init, k_AM_type, k_AM_needRange, k_AM_countSigns, k_AM_byteAt, k_AM_clear, k_AM_check, k_AM_fault, k_AM_spawn, k_AM_send, k_AM_outsideMessage, k_AM_deliver, k_AM_receiveSignal, k_AM_step, k_AM_needAlive, k_AM_kill, k_AM_reap, k_AM_leaf, k_AM_termOf, k_AM_shape, k_AM_about, k_Md_init, k_Md_thrown, k_Md_type, k_Md_in, k_Md_fail, k_Md_good, k_Md_clear, k_Md_check, k_Md_read, k_Md_stands, k_Md_piece, k_Md_isDigit, k_Md_isAtom, k_Md_variableOf, k_Md_complete, k_Md_action, k_Md_clauses, k_Md_fault, k_Md_spawn, k_Md_free, k_Md_whole, k_Md_leafTerm, k_Md_make, k_Md_send, k_Md_atom, k_Md_actor, k_Md_pair, k_Md_leaves, k_Md_put, k_Md_deliver, k_Md_leafOf, k_Md_end, k_Md_link, k_Md_step, k_Md_takes, k_Md_fits, k_Md_bit, k_Md_part, k_Md_bits, k_Md_simple, k_Md_number, k_Md_evaluate, k_Md_combine, k_Md_isInt, k_Md_take, k_Md_perform, k_Md_act, k_Md_actorOf, k_Md_kill, k_Md_reap, k_Md_leaf, k_Md_term, k_Md_told, k_Md_shape, k_Md_about, k_Lw_type, k_Lw_clear, k_Lw_check, k_Lw_fault, k_Lw_spawn, k_Lw_send, k_Lw_deliver, k_Lw_step, k_Lw_kill, k_Lw_reap, k_Lw_leaf, k_Lw_shape, k_Lw_about, k_Lw_law, k_Integer_bitCount, k_Math_abs]
def am_K (m : Nat) : aK := am_KL.getD m ([], [], [])
noncomputable def am_Y : Nat → aY
  | 0 => fun _ _ _ => none
  | d + 1 => fun m args M => am_X (am_Y d) (am_K m) 0 (am_pj (am_K m).2.2 (am_ar 0 args)) [] M
end
section
theorem y_Row_init (d : Nat) (a0 : Nat) (a1 : Int32) (M : aM) : am_Y (d + 1) 30 [.ref a0, .int a1] M = am_X (am_Y d) k_Row_init 0 [(0, .ref a0), (1, .int a1)] [] M := rfl
theorem e_Row_init_0 (cal : aY) (x0 : Nat) (x1 : Int32) (M : aM) : am_X cal k_Row_init 0 [(0, .ref x0), (1, .int x1)] [] M = (am_ix x1).bind fun v1 => bif Nat.ble v1 1000 then (am_wr (am_nw M 11 (List.replicate v1 (am_dv 11))) x0 4 0 (.ref M.1.length)).bind fun M2 => some (.inl none, M2) else none := (am_X_eq cal k_Row_init 0 _ _ M).trans rfl
theorem y_Row_put (d : Nat) (a0 : Nat) (a1 : Int64) (M : aM) : am_Y (d + 1) 31 [.ref a0, .long a1] M = am_X (am_Y d) k_Row_put 0 [(0, .ref a0), (1, .long a1)] [] M := rfl
theorem e_Row_put_0 (cal : aY) (x0 : Nat) (x1 : Int64) (M : aM) : am_X cal k_Row_put 0 [(0, .ref x0), (1, .long x1)] [] M = (am_rI M x0 4 1).bind fun v1 => (am_rA M x0 4 0).bind fun v2 => (am_ln M v2 11).bind fun v3 => if nI v3 ≤ v1 then am_X cal k_Row_put 32 [] [] M else (am_rA M x0 4 0).bind fun v4 => (am_rI M x0 4 1).bind fun v5 => (am_ix v5).bind fun v6 => (am_wr M v4 11 v6 (.long x1)).bind fun M7 => (am_rI M7 x0 4 1).bind fun v8 => (am_wr M7 x0 4 1 (.int (v8 + 1))).bind fun M9 => am_X cal k_Row_put 32 [] [] M9 := (am_X_eq cal k_Row_put 0 _ _ M).trans rfl
theorem e_Row_put_32 (cal : aY)  (M : aM) : am_X cal k_Row_put 32 [] [] M = some (.inl none, M) := (am_X_eq cal k_Row_put 32 _ _ M).trans rfl
theorem y_Row_at (d : Nat) (a0 : Nat) (a1 : Int32) (M : aM) : am_Y (d + 1) 32 [.ref a0, .int a1] M = am_X (am_Y d) k_Row_at 0 [(0, .ref a0), (1, .int a1)] [] M := rfl
theorem e_Row_at_0 (cal : aY) (x0 : Nat) (x1 : Int32) (M : aM) : am_X cal k_Row_at 0 [(0, .ref x0), (1, .int x1)] [] M = if x1 < 0 then am_X cal k_Row_at 12 [] [] M else (am_rI M x0 4 1).bind fun v1 => if x1 < v1 then am_X cal k_Row_at 16 [(0, .ref x0), (1, .int x1)] [] M else am_X cal k_Row_at 12 [] [] M := (am_X_eq cal k_Row_at 0 _ _ M).trans rfl
theorem e_Row_at_12 (cal : aY)  (M : aM) : am_X cal k_Row_at 12 [] [] M = am_X cal k_Row_at 22 [] [.long 0] M := (am_X_eq cal k_Row_at 12 _ _ M).trans rfl
theorem e_Row_at_16 (cal : aY) (x0 : Nat) (x1 : Int32) (M : aM) : am_X cal k_Row_at 16 [(0, .ref x0), (1, .int x1)] [] M = (am_rA M x0 4 0).bind fun v1 => (am_ix x1).bind fun v2 => (am_rJ M v1 11 v2).bind fun v3 => am_X cal k_Row_at 22 [] [.long v3] M := (am_X_eq cal k_Row_at 16 _ _ M).trans rfl
theorem e_Row_at_22 (cal : aY) (s0 : Int64) (M : aM) : am_X cal k_Row_at 22 [] [.long s0] M = some (.inl (some (.long s0)), M) := (am_X_eq cal k_Row_at 22 _ _ M).trans rfl
theorem y_Row_take (d : Nat) (a0 : Nat) (a1 : Int32) (M : aM) : am_Y (d + 1) 33 [.ref a0, .int a1] M = am_X (am_Y d) k_Row_take 0 [(0, .ref a0), (1, .int a1)] [] M := rfl
theorem e_Row_take_0 (cal : aY) (x0 : Nat) (x1 : Int32) (M : aM) : am_X cal k_Row_take 0 [(0, .ref x0), (1, .int x1)] [] M = if x1 < 0 then am_X cal k_Row_take 12 [] [] M else (am_rI M x0 4 1).bind fun v1 => if x1 < v1 then am_X cal k_Row_take 13 [(0, .ref x0), (1, .int x1)] [] M else am_X cal k_Row_take 12 [] [] M := (am_X_eq cal k_Row_take 0 _ _ M).trans rfl
theorem e_Row_take_12 (cal : aY)  (M : aM) : am_X cal k_Row_take 12 [] [] M = some (.inl none, M) := (am_X_eq cal k_Row_take 12 _ _ M).trans rfl
theorem e_Row_take_13 (cal : aY) (x0 : Nat) (x1 : Int32) (M : aM) : am_X cal k_Row_take 13 [(0, .ref x0), (1, .int x1)] [] M = am_X cal k_Row_take 17 [(0, .ref x0), (2, .int (x1 + 1))] [] M := (am_X_eq cal k_Row_take 13 _ _ M).trans rfl
theorem e_Row_take_17 (cal : aY) (x0 : Nat) (x2 : Int32) (M : aM) : am_X cal k_Row_take 17 [(0, .ref x0), (2, .int x2)] [] M = (am_rI M x0 4 1).bind fun v1 => if v1 ≤ x2 then am_X cal k_Row_take 45 [(0, .ref x0)] [] M else (am_rA M x0 4 0).bind fun v2 => (am_rA M x0 4 0).bind fun v3 => (am_ix x2).bind fun v4 => (am_rJ M v3 11 v4).bind fun v5 => (am_ix (x2 - 1)).bind fun v6 => (am_wr M v2 11 v6 (.long v5)).bind fun M7 => am_X cal k_Row_take 17 [(0, .ref x0), (2, .int (x2 + 1))] [] M7 := (am_X_eq cal k_Row_take 17 _ _ M).trans rfl
theorem e_Row_take_45 (cal : aY) (x0 : Nat) (M : aM) : am_X cal k_Row_take 45 [(0, .ref x0)] [] M = (am_rI M x0 4 1).bind fun v1 => (am_wr M x0 4 1 (.int (v1 - 1))).bind fun M2 => some (.inl none, M2) := (am_X_eq cal k_Row_take 45 _ _ M).trans rfl
end
