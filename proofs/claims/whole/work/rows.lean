section
-- ===== PART A: goes FIRST, ahead of the names: the tables' words, and 'selects' of the private methods out of them =====
/-- a private method of a class that the tables say can be made, by its rows of tables_1 -/
def lw_okq (q : MethodName × Nat) : Prop := (q.1.cls ≠ "java/lang/invoke/MethodHandle" ∧ q.1.cls ≠ "java/lang/invoke/VarHandle") ∧ Cond.instantiable q.1.cls q.2 ∈ tables_1 ∧ Cond.privateMethod q.1 ∈ tables_1 ∧ Cond.instanceMethod q.1 ∈ tables_1
theorem lw_p0 : lw_okq (⟨"java/lang/Throwable", "fillInStackTrace", "(I)Ljava/lang/Throwable;"⟩, 6) := ⟨⟨by decide +kernel, by decide +kernel⟩, List.mem_of_getElem? (i := 272) (by decide +kernel), List.mem_of_getElem? (i := 270) (by decide +kernel), List.mem_of_getElem? (i := 271) (by decide +kernel)⟩
theorem lw_p1 : lw_okq (⟨"ActorMachine", "receiveSignal", "(III)I"⟩, 3) := ⟨⟨by decide +kernel, by decide +kernel⟩, List.mem_of_getElem? (i := 24) (by decide +kernel), List.mem_of_getElem? (i := 525) (by decide +kernel), List.mem_of_getElem? (i := 526) (by decide +kernel)⟩
theorem lw_p2 : lw_okq (⟨"ActorMachine", "needAlive", "(I)V"⟩, 3) := ⟨⟨by decide +kernel, by decide +kernel⟩, List.mem_of_getElem? (i := 24) (by decide +kernel), List.mem_of_getElem? (i := 551) (by decide +kernel), List.mem_of_getElem? (i := 552) (by decide +kernel)⟩
theorem lw_p3 : lw_okq (⟨"ActorMachine", "termOf", "(II)J"⟩, 3) := ⟨⟨by decide +kernel, by decide +kernel⟩, List.mem_of_getElem? (i := 24) (by decide +kernel), List.mem_of_getElem? (i := 725) (by decide +kernel), List.mem_of_getElem? (i := 726) (by decide +kernel)⟩
theorem lw_p4 : lw_okq (⟨"ActorMachineModel", "fail", "(I)I"⟩, 22) := ⟨⟨by decide +kernel, by decide +kernel⟩, List.mem_of_getElem? (i := 744) (by decide +kernel), List.mem_of_getElem? (i := 829) (by decide +kernel), List.mem_of_getElem? (i := 830) (by decide +kernel)⟩
theorem lw_p5 : lw_okq (⟨"ActorMachineModel", "good", "(ZI)Z"⟩, 22) := ⟨⟨by decide +kernel, by decide +kernel⟩, List.mem_of_getElem? (i := 744) (by decide +kernel), List.mem_of_getElem? (i := 833) (by decide +kernel), List.mem_of_getElem? (i := 834) (by decide +kernel)⟩
theorem lw_p6 : lw_okq (⟨"ActorMachineModel", "read", "(I)I"⟩, 22) := ⟨⟨by decide +kernel, by decide +kernel⟩, List.mem_of_getElem? (i := 744) (by decide +kernel), List.mem_of_getElem? (i := 845) (by decide +kernel), List.mem_of_getElem? (i := 846) (by decide +kernel)⟩
theorem lw_p7 : lw_okq (⟨"ActorMachineModel", "stands", "(I)Z"⟩, 22) := ⟨⟨by decide +kernel, by decide +kernel⟩, List.mem_of_getElem? (i := 744) (by decide +kernel), List.mem_of_getElem? (i := 849) (by decide +kernel), List.mem_of_getElem? (i := 850) (by decide +kernel)⟩
theorem lw_p8 : lw_okq (⟨"ActorMachineModel", "piece", "(I)Z"⟩, 22) := ⟨⟨by decide +kernel, by decide +kernel⟩, List.mem_of_getElem? (i := 744) (by decide +kernel), List.mem_of_getElem? (i := 853) (by decide +kernel), List.mem_of_getElem? (i := 854) (by decide +kernel)⟩
theorem lw_p9 : lw_okq (⟨"ActorMachineModel", "complete", "()V"⟩, 22) := ⟨⟨by decide +kernel, by decide +kernel⟩, List.mem_of_getElem? (i := 744) (by decide +kernel), List.mem_of_getElem? (i := 866) (by decide +kernel), List.mem_of_getElem? (i := 867) (by decide +kernel)⟩
theorem lw_p10 : lw_okq (⟨"ActorMachineModel", "action", "(I)Z"⟩, 22) := ⟨⟨by decide +kernel, by decide +kernel⟩, List.mem_of_getElem? (i := 744) (by decide +kernel), List.mem_of_getElem? (i := 870) (by decide +kernel), List.mem_of_getElem? (i := 871) (by decide +kernel)⟩
theorem lw_p11 : lw_okq (⟨"ActorMachineModel", "clauses", "(I)I"⟩, 22) := ⟨⟨by decide +kernel, by decide +kernel⟩, List.mem_of_getElem? (i := 744) (by decide +kernel), List.mem_of_getElem? (i := 874) (by decide +kernel), List.mem_of_getElem? (i := 875) (by decide +kernel)⟩
theorem lw_p12 : lw_okq (⟨"ActorMachineModel", "free", "()I"⟩, 22) := ⟨⟨by decide +kernel, by decide +kernel⟩, List.mem_of_getElem? (i := 744) (by decide +kernel), List.mem_of_getElem? (i := 886) (by decide +kernel), List.mem_of_getElem? (i := 887) (by decide +kernel)⟩
theorem lw_p13 : lw_okq (⟨"ActorMachineModel", "make", "(IJ)I"⟩, 22) := ⟨⟨by decide +kernel, by decide +kernel⟩, List.mem_of_getElem? (i := 744) (by decide +kernel), List.mem_of_getElem? (i := 896) (by decide +kernel), List.mem_of_getElem? (i := 897) (by decide +kernel)⟩
theorem lw_p14 : lw_okq (⟨"ActorMachineModel", "put", "(IIJ)V"⟩, 22) := ⟨⟨by decide +kernel, by decide +kernel⟩, List.mem_of_getElem? (i := 744) (by decide +kernel), List.mem_of_getElem? (i := 918) (by decide +kernel), List.mem_of_getElem? (i := 919) (by decide +kernel)⟩
theorem lw_p15 : lw_okq (⟨"ActorMachineModel", "end", "(II)I"⟩, 22) := ⟨⟨by decide +kernel, by decide +kernel⟩, List.mem_of_getElem? (i := 744) (by decide +kernel), List.mem_of_getElem? (i := 931) (by decide +kernel), List.mem_of_getElem? (i := 932) (by decide +kernel)⟩
def lw_privs_1 : List (MethodName × Nat) := [(⟨"java/lang/Throwable", "fillInStackTrace", "(I)Ljava/lang/Throwable;"⟩, 6), (⟨"ActorMachine", "receiveSignal", "(III)I"⟩, 3), (⟨"ActorMachine", "needAlive", "(I)V"⟩, 3), (⟨"ActorMachine", "termOf", "(II)J"⟩, 3), (⟨"ActorMachineModel", "fail", "(I)I"⟩, 22), (⟨"ActorMachineModel", "good", "(ZI)Z"⟩, 22), (⟨"ActorMachineModel", "read", "(I)I"⟩, 22), (⟨"ActorMachineModel", "stands", "(I)Z"⟩, 22), (⟨"ActorMachineModel", "piece", "(I)Z"⟩, 22), (⟨"ActorMachineModel", "complete", "()V"⟩, 22), (⟨"ActorMachineModel", "action", "(I)Z"⟩, 22), (⟨"ActorMachineModel", "clauses", "(I)I"⟩, 22), (⟨"ActorMachineModel", "free", "()I"⟩, 22), (⟨"ActorMachineModel", "make", "(IJ)I"⟩, 22), (⟨"ActorMachineModel", "put", "(IIJ)V"⟩, 22), (⟨"ActorMachineModel", "end", "(II)I"⟩, 22)]
theorem lw_r1 : ∀ q ∈ lw_privs_1, lw_okq q := List.forall_mem_cons.mpr ⟨lw_p0, List.forall_mem_cons.mpr ⟨lw_p1, List.forall_mem_cons.mpr ⟨lw_p2, List.forall_mem_cons.mpr ⟨lw_p3, List.forall_mem_cons.mpr ⟨lw_p4, List.forall_mem_cons.mpr ⟨lw_p5, List.forall_mem_cons.mpr ⟨lw_p6, List.forall_mem_cons.mpr ⟨lw_p7, List.forall_mem_cons.mpr ⟨lw_p8, List.forall_mem_cons.mpr ⟨lw_p9, List.forall_mem_cons.mpr ⟨lw_p10, List.forall_mem_cons.mpr ⟨lw_p11, List.forall_mem_cons.mpr ⟨lw_p12, List.forall_mem_cons.mpr ⟨lw_p13, List.forall_mem_cons.mpr ⟨lw_p14, List.forall_mem_cons.mpr ⟨lw_p15, fun _ h => absurd h List.not_mem_nil⟩⟩⟩⟩⟩⟩⟩⟩⟩⟩⟩⟩⟩⟩⟩⟩
theorem lw_p16 : lw_okq (⟨"ActorMachineModel", "link", "(IIZ)V"⟩, 22) := ⟨⟨by decide +kernel, by decide +kernel⟩, List.mem_of_getElem? (i := 744) (by decide +kernel), List.mem_of_getElem? (i := 935) (by decide +kernel), List.mem_of_getElem? (i := 936) (by decide +kernel)⟩
theorem lw_p17 : lw_okq (⟨"ActorMachineModel", "takes", "(IIJ)Z"⟩, 22) := ⟨⟨by decide +kernel, by decide +kernel⟩, List.mem_of_getElem? (i := 744) (by decide +kernel), List.mem_of_getElem? (i := 943) (by decide +kernel), List.mem_of_getElem? (i := 944) (by decide +kernel)⟩
theorem lw_p18 : lw_okq (⟨"ActorMachineModel", "fits", "(IJ)Z"⟩, 22) := ⟨⟨by decide +kernel, by decide +kernel⟩, List.mem_of_getElem? (i := 744) (by decide +kernel), List.mem_of_getElem? (i := 947) (by decide +kernel), List.mem_of_getElem? (i := 948) (by decide +kernel)⟩
theorem lw_p19 : lw_okq (⟨"ActorMachineModel", "simple", "(II)J"⟩, 22) := ⟨⟨by decide +kernel, by decide +kernel⟩, List.mem_of_getElem? (i := 744) (by decide +kernel), List.mem_of_getElem? (i := 960) (by decide +kernel), List.mem_of_getElem? (i := 961) (by decide +kernel)⟩
theorem lw_p20 : lw_okq (⟨"ActorMachineModel", "number", "(I)I"⟩, 22) := ⟨⟨by decide +kernel, by decide +kernel⟩, List.mem_of_getElem? (i := 744) (by decide +kernel), List.mem_of_getElem? (i := 964) (by decide +kernel), List.mem_of_getElem? (i := 965) (by decide +kernel)⟩
theorem lw_p21 : lw_okq (⟨"ActorMachineModel", "evaluate", "(II)J"⟩, 22) := ⟨⟨by decide +kernel, by decide +kernel⟩, List.mem_of_getElem? (i := 744) (by decide +kernel), List.mem_of_getElem? (i := 968) (by decide +kernel), List.mem_of_getElem? (i := 969) (by decide +kernel)⟩
theorem lw_p22 : lw_okq (⟨"ActorMachineModel", "combine", "(IJJ)J"⟩, 22) := ⟨⟨by decide +kernel, by decide +kernel⟩, List.mem_of_getElem? (i := 744) (by decide +kernel), List.mem_of_getElem? (i := 972) (by decide +kernel), List.mem_of_getElem? (i := 973) (by decide +kernel)⟩
theorem lw_p23 : lw_okq (⟨"ActorMachineModel", "take", "(II)V"⟩, 22) := ⟨⟨by decide +kernel, by decide +kernel⟩, List.mem_of_getElem? (i := 744) (by decide +kernel), List.mem_of_getElem? (i := 979) (by decide +kernel), List.mem_of_getElem? (i := 980) (by decide +kernel)⟩
theorem lw_p24 : lw_okq (⟨"ActorMachineModel", "perform", "(II)I"⟩, 22) := ⟨⟨by decide +kernel, by decide +kernel⟩, List.mem_of_getElem? (i := 744) (by decide +kernel), List.mem_of_getElem? (i := 983) (by decide +kernel), List.mem_of_getElem? (i := 984) (by decide +kernel)⟩
theorem lw_p25 : lw_okq (⟨"ActorMachineModel", "act", "(II)Z"⟩, 22) := ⟨⟨by decide +kernel, by decide +kernel⟩, List.mem_of_getElem? (i := 744) (by decide +kernel), List.mem_of_getElem? (i := 987) (by decide +kernel), List.mem_of_getElem? (i := 988) (by decide +kernel)⟩
theorem lw_p26 : lw_okq (⟨"ActorMachineModel", "term", "(II)J"⟩, 22) := ⟨⟨by decide +kernel, by decide +kernel⟩, List.mem_of_getElem? (i := 744) (by decide +kernel), List.mem_of_getElem? (i := 1006) (by decide +kernel), List.mem_of_getElem? (i := 1007) (by decide +kernel)⟩
def lw_privs_2 : List (MethodName × Nat) := [(⟨"ActorMachineModel", "link", "(IIZ)V"⟩, 22), (⟨"ActorMachineModel", "takes", "(IIJ)Z"⟩, 22), (⟨"ActorMachineModel", "fits", "(IJ)Z"⟩, 22), (⟨"ActorMachineModel", "simple", "(II)J"⟩, 22), (⟨"ActorMachineModel", "number", "(I)I"⟩, 22), (⟨"ActorMachineModel", "evaluate", "(II)J"⟩, 22), (⟨"ActorMachineModel", "combine", "(IJJ)J"⟩, 22), (⟨"ActorMachineModel", "take", "(II)V"⟩, 22), (⟨"ActorMachineModel", "perform", "(II)I"⟩, 22), (⟨"ActorMachineModel", "act", "(II)Z"⟩, 22), (⟨"ActorMachineModel", "term", "(II)J"⟩, 22)]
theorem lw_r2 : ∀ q ∈ lw_privs_2, lw_okq q := List.forall_mem_cons.mpr ⟨lw_p16, List.forall_mem_cons.mpr ⟨lw_p17, List.forall_mem_cons.mpr ⟨lw_p18, List.forall_mem_cons.mpr ⟨lw_p19, List.forall_mem_cons.mpr ⟨lw_p20, List.forall_mem_cons.mpr ⟨lw_p21, List.forall_mem_cons.mpr ⟨lw_p22, List.forall_mem_cons.mpr ⟨lw_p23, List.forall_mem_cons.mpr ⟨lw_p24, List.forall_mem_cons.mpr ⟨lw_p25, List.forall_mem_cons.mpr ⟨lw_p26, fun _ h => absurd h List.not_mem_nil⟩⟩⟩⟩⟩⟩⟩⟩⟩⟩⟩
def lw_privs : List (MethodName × Nat) := lw_privs_1 ++ (lw_privs_2)
def lw_tbl : List Cond := k2_sels lw_privs ++ tables_1
theorem lw_privs_ok : ∀ q ∈ lw_privs, lw_okq q := by
  show ∀ q ∈ lw_privs_1 ++ (lw_privs_2), lw_okq q
  exact List.forall_mem_append.mpr ⟨lw_r1, lw_r2⟩
end
section
/-! THE ABSTRACT MACHINE: a plain reading of the bytecode over a plain memory; an address is a place in a list -/
abbrev aC : Type := Nat × List Value
abbrev aM : Type := List aC × Nat × Nat
abbrev aL : Type := List (Nat × Value)
abbrev aR : Type := (Option Value ⊕ Nat) × aM
abbrev aO : Type := (Nat × aL × List Value × aM) ⊕ aR
/-- an instruction, its length, numbers that a program has resolved, a constant -/
abbrev aI : Type := Instr × Nat × List Nat × Value
abbrev aH : Type := List (Nat × Nat × List Nat)
/-- a method: its blocks by their places; its handler rows; its live locals at the entry -/
abbrev aK : Type := List (Nat × List aI) × List aH × List Nat
abbrev aY : Type := Nat → List Value → aM → Option aR
def am_ro : Nat := 3
def am_ld : aL → Nat → Option Value
  | [], _ => none
  | q :: r, i => bif Nat.beq q.1 i then some q.2 else am_ld r i
def am_pj : List Nat → aL → aL
  | [], _ => []
  | i :: r, L => match am_ld L i with
    | some v => (i, v) :: am_pj r L
    | none => am_pj r L
def am_s1 (L : aL) (i : Nat) (v : Value) : aL := (i, v) :: L.filter (fun q => !(q.1 == i) && !(q.1 + 1 == i && q.2.category == 2))
def am_s2 (L : aL) (i : Nat) (v : Value) : aL := (i, v) :: L.filter (fun q => !(q.1 == i) && (!(q.1 == i + 1) && !(q.1 + 1 == i && q.2.category == 2)))
def am_ar : Nat → List Value → aL
  | _, [] => []
  | i, v :: r => (i, v) :: am_ar (i + v.category) r
def am_rd (M : aM) (a ci k : Nat) : Option Value := (M.1[a]?).bind fun c => bif Nat.beq c.1 ci then c.2[k]? else none
def am_vI : Value → Option Int32
  | .int x => some x
  | _ => none
def am_vJ : Value → Option Int64
  | .long x => some x
  | _ => none
def am_vA : Value → Option Nat
  | .ref x => some x
  | _ => none
def am_rI (M : aM) (a ci k : Nat) : Option Int32 := (am_rd M a ci k).bind am_vI
def am_rJ (M : aM) (a ci k : Nat) : Option Int64 := (am_rd M a ci k).bind am_vJ
def am_rA (M : aM) (a ci k : Nat) : Option Nat := (am_rd M a ci k).bind am_vA
def am_wr (M : aM) (a ci k : Nat) (v : Value) : Option aM := (M.1[a]?).bind fun c => bif Nat.beq c.1 ci && (Nat.ble am_ro a && Nat.blt k c.2.length) then some (M.1.set a (c.1, c.2.set k v), M.2) else none
def am_ln (M : aM) (a ci : Nat) : Option Nat := (M.1[a]?).bind fun c => bif Nat.beq c.1 ci then some c.2.length else none
def am_ix (i : Int32) : Option Nat := if i < 0 then none else some i.toNatClampNeg
def am_nw (M : aM) (ci : Nat) (fs : List Value) : aM := (M.1 ++ [(ci, fs)], M.2.1 + 1, M.2.2 + fs.length)
def am_tk (M : aM) (c s : Nat) : aM := (M.1, M.2.1 + c, M.2.2 + s)
def am_ft (ty : Nat) (v : Value) : Bool := match v with
  | .int x => match ty with
    | 0 => true
    | 3 => x == 0 || x == 1
    | 4 => decide (0 ≤ x) && decide (x ≤ 65535)
    | _ => false
  | .long _ => Nat.beq ty 1
  | .ref _ => Nat.beq ty 2
  | _ => false
/-- a copy of n places from the beginning of one array to that of another -/
def am_cp (M : aM) (ci a b n : Nat) : Option aM := (M.1[a]?).bind fun c => (M.1[b]?).bind fun d => bif Nat.beq c.1 ci && (Nat.beq d.1 ci && (Nat.ble am_ro b && (Nat.ble n c.2.length && (Nat.ble n d.2.length && (c.2.take n).all (am_ft 4))))) then some (M.1.set b (d.1, c.2.take n ++ d.2.drop n), M.2) else none
section
variable {β : Type}
def am_I1 (st : List Value) (f : Int32 → List Value → Option β) : Option β := match st with
  | .int x :: r => f x r
  | _ => none
def am_I2 (st : List Value) (f : Int32 → Int32 → List Value → Option β) : Option β := match st with
  | .int y :: .int x :: r => f x y r
  | _ => none
def am_J1 (st : List Value) (f : Int64 → List Value → Option β) : Option β := match st with
  | .long x :: r => f x r
  | _ => none
def am_J2 (st : List Value) (f : Int64 → Int64 → List Value → Option β) : Option β := match st with
  | .long y :: .long x :: r => f x y r
  | _ => none
def am_JI (st : List Value) (f : Int64 → Int32 → List Value → Option β) : Option β := match st with
  | .int y :: .long x :: r => f x y r
  | _ => none
def am_A1 (st : List Value) (f : Nat → List Value → Option β) : Option β := match st with
  | .ref x :: r => f x r
  | _ => none
def am_lI (o : Option Value) (f : Int32 → Option β) : Option β := match o with
  | some (.int x) => f x
  | _ => none
def am_lJ (o : Option Value) (f : Int64 → Option β) : Option β := match o with
  | some (.long x) => f x
  | _ => none
def am_lA (o : Option Value) (f : Nat → Option β) : Option β := match o with
  | some (.ref x) => f x
  | _ => none
def am_dp (st : List Value) (f : Value → List Value → Option β) : Option β := match st with
  | v :: r => bif Nat.beq v.category 1 then f v r else none
  | _ => none
def am_cx (J : Nat → aL → List Value → aM → Option β) : aH → Nat → aL → aM → Option β
  | [], _, _, _ => none
  | h :: r, e, L, M => bif Nat.beq e h.1 then J h.2.1 (am_pj h.2.2 L) [] M else am_cx J r e L M
def am_ct (J : Nat → aL → List Value → aM → Option β) (R : aR → Option β) (hl : aH) (e : Nat) (L : aL) (M : aM) : Option β := match hl with
  | [] => R (.inr e, M)
  | h :: r => am_cx J (h :: r) e L M
/-- behind a call: what came back -/
def am_cV (o : Option aR) (k : aM → Option β) (x : Nat → aM → Option β) : Option β := match o with
  | some (.inl none, M) => k M
  | some (.inr e, M) => x e M
  | _ => none
def am_cI (o : Option aR) (k : Int32 → aM → Option β) (x : Nat → aM → Option β) : Option β := match o with
  | some (.inl (some (.int v)), M) => k v M
  | some (.inr e, M) => x e M
  | _ => none
def am_cJ (o : Option aR) (k : Int64 → aM → Option β) (x : Nat → aM → Option β) : Option β := match o with
  | some (.inl (some (.long v)), M) => k v M
  | some (.inr e, M) => x e M
  | _ => none
def am_cA (o : Option aR) (k : Nat → aM → Option β) (x : Nat → aM → Option β) : Option β := match o with
  | some (.inl (some (.ref v)), M) => k v M
  | some (.inr e, M) => x e M
  | _ => none
def am_jp (J : Nat → aL → List Value → aM → Option β) (ops : List Nat) (L : aL) (st : List Value) (M : aM) : Option β := match ops with
  | t :: lv => J t (am_pj lv L) st M
  | [] => none
def am_sw (J : Nat → aL → List Value → aM → Option β) (x : Int32) (d : Nat) (lv : List Nat) (L : aL) (st : List Value) (M : aM) : Nat → List Nat → Option β
  | _, [] => J d (am_pj lv L) st M
  | n, t :: r => if x = nI n then J t (am_pj lv L) st M else am_sw J x d lv L st M (n + 1) r
end
def am_cs (st : List Value) : Nat := (st.map fun v => v.category).sum
def am_df (ci : Nat) : List Value := match ci with
  | 0 => [.null, .null, .int 0, .long 0, .int 0, .int 0, .int 0]
  | 1 => [.null, .null, .int 0, .int 0]
  | 2 => [.null]
  | 3 => [.null, .int 0]
  | 4 => [.null, .int 0]
  | 5 => [.null, .null, .int 0, .long 0, .int 0]
  | 6 => [.null, .int 0]
  | 7 => [.null, .null, .null, .null]
  | 8 => [.null, .null, .null]
  | 9 => [.null, .null, .null, .null, .null, .null, .null, .null, .null, .null, .null, .null, .null, .null, .null, .int 0, .int 0, .int 0, .null, .int 0, .int 0, .int 0]
  | _ => []
def am_dv (kd : Nat) : Value := match kd with
  | 10 => .int 0
  | 11 => .long 0
  | 12 => .int 0
  | 13 => .int 0
  | _ => .null
section
variable {β : Type}
/-- a call: number of the method, how many arguments, what it answers (0 int, 1 long, 2 reference, 9 nothing), its handler rows -/
def am_iv (cal : aY) (hs : List aH) (J : Nat → aL → List Value → aM → Option β) (R : aR → Option β) (o : List Nat) (k : aL → List Value → aM → Option β) (L : aL) (st : List Value) (M : aM) : Option β := match o with
  | m :: n :: rk :: h :: _ => bif Nat.ble n st.length && Nat.ble (am_cs (st.drop n)) 8 then (match rk with
    | 0 => am_cI (cal m (st.take n).reverse M) (fun v M' => k L (.int v :: st.drop n) M') (fun e M' => am_ct J R (hs.getD h []) e L M')
    | 1 => am_cJ (cal m (st.take n).reverse M) (fun v M' => k L (.long v :: st.drop n) M') (fun e M' => am_ct J R (hs.getD h []) e L M')
    | 2 => am_cA (cal m (st.take n).reverse M) (fun v M' => k L (.ref v :: st.drop n) M') (fun e M' => am_ct J R (hs.getD h []) e L M')
    | _ => am_cV (cal m (st.take n).reverse M) (fun M' => k L (st.drop n) M') (fun e M' => am_ct J R (hs.getD h []) e L M')) else none
  | _ => none
end
section
variable {β : Type}
def am_1 (cal : aY) (hs : List aH) (J : Nat → aL → List Value → aM → Option β) (R : aR → Option β) (i : aI) (k : aL → List Value → aM → Option β) (L : aL) (st : List Value) (M : aM) : Option β :=
  match i.1 with
  | .iconst _ => k L (i.2.2.2 :: st) M
  | .bipush _ => k L (i.2.2.2 :: st) M
  | .sipush _ => k L (i.2.2.2 :: st) M
  | .lconst _ => k L (i.2.2.2 :: st) M
  | .ldc_w _ => k L (i.2.2.2 :: st) M
  | .ldc2_w _ => k L (i.2.2.2 :: st) M
  | .iload_n _ => am_lI (am_ld L (i.2.2.1.headD 0)) fun x => k L (.int x :: st) M
  | .iload _ => am_lI (am_ld L (i.2.2.1.headD 0)) fun x => k L (.int x :: st) M
  | .lload_n _ => am_lJ (am_ld L (i.2.2.1.headD 0)) fun x => k L (.long x :: st) M
  | .lload _ => am_lJ (am_ld L (i.2.2.1.headD 0)) fun x => k L (.long x :: st) M
  | .aload_n _ => am_lA (am_ld L (i.2.2.1.headD 0)) fun x => k L (.ref x :: st) M
  | .aload _ => am_lA (am_ld L (i.2.2.1.headD 0)) fun x => k L (.ref x :: st) M
  | .istore_n _ => am_I1 st fun x r => k (am_s1 L (i.2.2.1.headD 0) (.int x)) r M
  | .istore _ => am_I1 st fun x r => k (am_s1 L (i.2.2.1.headD 0) (.int x)) r M
  | .lstore_n _ => am_J1 st fun x r => k (am_s2 L (i.2.2.1.headD 0) (.long x)) r M
  | .lstore _ => am_J1 st fun x r => k (am_s2 L (i.2.2.1.headD 0) (.long x)) r M
  | .astore_n _ => am_A1 st fun x r => k (am_s1 L (i.2.2.1.headD 0) (.ref x)) r M
  | .astore _ => am_A1 st fun x r => k (am_s1 L (i.2.2.1.headD 0) (.ref x)) r M
  | .iinc _ _ => am_lI (am_ld L (i.2.2.1.headD 0)) fun x => am_lI (some i.2.2.2) fun y => k (am_s1 L (i.2.2.1.headD 0) (.int (x + y))) st M
  | .iadd => am_I2 st fun x y r => k L (.int (x + y) :: r) M
  | .isub => am_I2 st fun x y r => k L (.int (x - y) :: r) M
  | .imul => am_I2 st fun x y r => k L (.int (x * y) :: r) M
  | .idiv => am_I2 st fun x y r => if y = 0 then none else k L (.int (x / y) :: r) M
  | .irem => am_I2 st fun x y r => if y = 0 then none else k L (.int (x - x / y * y) :: r) M
  | .ineg => am_I1 st fun x r => k L (.int (0 - x) :: r) M
  | .iand => am_I2 st fun x y r => k L (.int (x &&& y) :: r) M
  | .ior => am_I2 st fun x y r => k L (.int (x ||| y) :: r) M
  | .ixor => am_I2 st fun x y r => k L (.int (x ^^^ y) :: r) M
  | .ishl => am_I2 st fun x y r => k L (.int (x <<< (y &&& 31)) :: r) M
  | .ishr => am_I2 st fun x y r => k L (.int (x >>> (y &&& 31)) :: r) M
  | .iushr => am_I2 st fun x y r => k L (.int (x.toUInt32 >>> (y.toUInt32 &&& Int32.toUInt32 31)).toInt32 :: r) M
  | .ladd => am_J2 st fun x y r => k L (.long (x + y) :: r) M
  | .lsub => am_J2 st fun x y r => k L (.long (x - y) :: r) M
  | .land => am_J2 st fun x y r => k L (.long (x &&& y) :: r) M
  | .lor => am_J2 st fun x y r => k L (.long (x ||| y) :: r) M
  | .lshl => am_JI st fun x y r => k L (.long (x <<< (y.toInt64 &&& 63)) :: r) M
  | .lshr => am_JI st fun x y r => k L (.long (x >>> (y.toInt64 &&& 63)) :: r) M
  | .lushr => am_JI st fun x y r => k L (.long (x.toUInt64 >>> (y.toInt64.toUInt64 &&& Int64.toUInt64 63)).toInt64 :: r) M
  | .i2l => am_I1 st fun x r => k L (.long x.toInt64 :: r) M
  | .l2i => am_J1 st fun x r => k L (.int x.toInt32 :: r) M
  | .i2c => am_I1 st fun x r => k L (.int (x.toUInt32 % 65536).toInt32 :: r) M
  | .lcmp => am_J2 st fun x y r => k L (.int (lg_cmp x y) :: r) M
  | .dup => am_dp st fun v r => k L (v :: v :: r) M
  | .dup2 => am_dp st fun v r => am_dp r fun w z => k L (v :: w :: v :: w :: z) M
  | .pop => am_dp st fun _ r => k L r M
  | .pop2 => am_J1 st fun _ r => k L r M
  | .ifCond c _ => am_I1 st fun x r => match c with
    | .eq => if x = 0 then am_jp J i.2.2.1 L r M else k L r M
    | .ne => if ¬ x = 0 then am_jp J i.2.2.1 L r M else k L r M
    | .lt => if x < 0 then am_jp J i.2.2.1 L r M else k L r M
    | .ge => if 0 ≤ x then am_jp J i.2.2.1 L r M else k L r M
    | .gt => if 0 < x then am_jp J i.2.2.1 L r M else k L r M
    | .le => if x ≤ 0 then am_jp J i.2.2.1 L r M else k L r M
  | .if_icmp c _ => am_I2 st fun x y r => match c with
    | .eq => if x = y then am_jp J i.2.2.1 L r M else k L r M
    | .ne => if ¬ x = y then am_jp J i.2.2.1 L r M else k L r M
    | .lt => if x < y then am_jp J i.2.2.1 L r M else k L r M
    | .ge => if y ≤ x then am_jp J i.2.2.1 L r M else k L r M
    | .gt => if y < x then am_jp J i.2.2.1 L r M else k L r M
    | .le => if x ≤ y then am_jp J i.2.2.1 L r M else k L r M
  | .goto _ => am_jp J i.2.2.1 L st M
  | .nop => am_jp J i.2.2.1 L st M
  | .tableswitch _ _ _ _ => am_I1 st fun x r => match i.2.2.1 with
    | n :: d :: m :: q => am_sw J x d (q.take m) L r M n (q.drop m)
    | _ => none
  | .getstatic _ => k L (.ref (i.2.2.1.headD 0) :: st) M
  | .getfield _ => am_A1 st fun a r => match i.2.2.1 with
    | ci :: f :: ty :: _ => match ty with
      | 1 => (am_rJ M a ci f).bind fun x => k L (.long x :: r) M
      | 2 => (am_rA M a ci f).bind fun x => k L (.ref x :: r) M
      | _ => (am_rI M a ci f).bind fun x => k L (.int x :: r) M
    | _ => none
  | .putfield _ => match i.2.2.1 with
    | ci :: f :: ty :: _ => match st with
      | v :: .ref a :: r => bif am_ft ty v then (am_wr M a ci f v).bind fun M' => k L r M' else none
      | _ => none
    | _ => none
  | .iaload => am_I1 st fun x r => am_A1 r fun a r => (am_ix x).bind fun j => (am_rI M a 10 j).bind fun v => k L (.int v :: r) M
  | .laload => am_I1 st fun x r => am_A1 r fun a r => (am_ix x).bind fun j => (am_rJ M a 11 j).bind fun v => k L (.long v :: r) M
  | .baload => am_I1 st fun x r => am_A1 r fun a r => (am_ix x).bind fun j => (am_rI M a 12 j).bind fun v => k L (.int v :: r) M
  | .caload => am_I1 st fun x r => am_A1 r fun a r => (am_ix x).bind fun j => (am_rI M a 13 j).bind fun v => k L (.int v :: r) M
  | .aaload => am_I1 st fun x r => am_A1 r fun a r => (am_ix x).bind fun j => (am_rA M a (i.2.2.1.headD 0) j).bind fun v => k L (.ref v :: r) M
  | .iastore => am_I1 st fun v r => am_I1 r fun x r => am_A1 r fun a r => (am_ix x).bind fun j => (am_wr M a 10 j (.int v)).bind fun M' => k L r M'
  | .lastore => am_J1 st fun v r => am_I1 r fun x r => am_A1 r fun a r => (am_ix x).bind fun j => (am_wr M a 11 j (.long v)).bind fun M' => k L r M'
  | .bastore => am_I1 st fun v r => am_I1 r fun x r => am_A1 r fun a r => (am_ix x).bind fun j => (am_wr M a 12 j (.int (v &&& 1))).bind fun M' => k L r M'
  | .castore => am_I1 st fun v r => am_I1 r fun x r => am_A1 r fun a r => (am_ix x).bind fun j => (am_wr M a 13 j (.int (vp_nar .char v))).bind fun M' => k L r M'
  | .aastore => am_A1 st fun v r => am_I1 r fun x r => am_A1 r fun a r => (am_ln M v (i.2.2.1.getD 1 0)).bind fun _ => (am_ix x).bind fun j => (am_wr M a (i.2.2.1.headD 0) j (.ref v)).bind fun M' => k L r M'
  | .arraylength => am_A1 st fun a r => (am_ln M a (i.2.2.1.headD 0)).bind fun n => k L (.int (nI n) :: r) M
  | .newarray _ => am_I1 st fun x r => (am_ix x).bind fun j => bif Nat.ble j 1000 then k L (.ref M.1.length :: r) (am_nw M (i.2.2.1.headD 0) (List.replicate j (am_dv (i.2.2.1.headD 0)))) else none
  | .anewarray _ => am_I1 st fun x r => (am_ix x).bind fun j => bif Nat.ble j 1000 then k L (.ref M.1.length :: r) (am_nw M (i.2.2.1.headD 0) (List.replicate j .null)) else none
  | .new _ => match i.2.2.1 with
    | ci :: e :: _ => bif Nat.beq ci 999 then (bif Nat.beq (am_cs st) 0 then R (.inr e, am_tk M 1 6) else none) else k L (.ref M.1.length :: st) (am_nw M ci (am_df ci))
    | _ => none
  | .invokevirtual _ => match i.2.2.1 with
    | m :: n :: rk :: h :: ci :: _ => match (st.take n).reverse with
      | .ref a :: _ => (am_ln M a ci).bind fun _ => am_iv cal hs J R [m, n, rk, h] k L st M
      | _ => none
    | _ => none
  | .invokestatic _ => match i.2.2.1 with
    | 1001 :: _ => am_I1 st fun n r => am_I1 r fun dp r => am_A1 r fun b r => am_I1 r fun sp r => am_A1 r fun a r => bif Nat.ble (am_cs r) 100 then (if sp = 0 ∧ dp = 0 then (am_ix n).bind fun j => (am_cp M 13 a b j).bind fun M' => k L r M' else none) else none
    | 1003 :: _ => am_I1 st fun x r => bif Nat.ble (am_cs r) 100 then k L (.int (if 0 ≤ x then x else 0 - x) :: r) M else none
    | o => am_iv cal hs J R o k L st M
  | .invokespecial _ => match i.2.2.1 with
    | 1002 :: _ => am_A1 st fun _ r => bif Nat.ble (am_cs r) 100 then k L r M else none
    | m :: n :: _ => match (st.take n).reverse with
      | .ref a :: as => bif Nat.ble n st.length && Nat.ble (am_cs (st.drop n)) 8 then am_cV (cal m (.ref a :: as) M) (fun M' => k L (st.drop n) M') (fun _ _ => none) else none
      | _ => none
    | _ => none
  | .ireturn => match st with
    | [.int x] => bif am_ft (i.2.2.1.headD 0) (.int x) then R (.inl (some (.int x)), M) else none
    | _ => none
  | .lreturn => match st with
    | [.long x] => R (.inl (some (.long x)), M)
    | _ => none
  | .areturn => match st with
    | [.ref x] => R (.inl (some (.ref x)), M)
    | _ => none
  | .return_ => match st with
    | [] => R (.inl none, M)
    | _ => none
  | _ => none
def am_go (cal : aY) (hs : List aH) (J : Nat → aL → List Value → aM → Option β) (R : aR → Option β) : List aI → aL → List Value → aM → Option β
  | [] => fun _ _ _ => none
  | i :: r => am_1 cal hs J R i (am_go cal hs J R r)
end
def am_bk : List (Nat × List aI) → Nat → List aI
  | [], _ => []
  | q :: r, pc => bif Nat.beq q.1 pc then q.2 else am_bk r pc
def am_ex (cal : aY) (K : aK) : Nat → Nat → aL → List Value → aM → Option aR
  | 0, _, _, _, _ => none
  | n + 1, pc, L, st, M => am_go cal K.2.1 (am_ex cal K n) some (am_bk K.1 pc) L st M
end
section
/-! runs without a counter: the limit of the counted ones -/
section
variable {β γ : Type}
theorem an_I1 (f : β → Option γ) (st : List Value) (g : Int32 → List Value → Option β) : (am_I1 st g).bind f = am_I1 st (fun x r => (g x r).bind f) := by
  unfold am_I1; split <;> rfl
theorem an_I2 (f : β → Option γ) (st : List Value) (g : Int32 → Int32 → List Value → Option β) : (am_I2 st g).bind f = am_I2 st (fun x y r => (g x y r).bind f) := by
  unfold am_I2; split <;> rfl
theorem an_J1 (f : β → Option γ) (st : List Value) (g : Int64 → List Value → Option β) : (am_J1 st g).bind f = am_J1 st (fun x r => (g x r).bind f) := by
  unfold am_J1; split <;> rfl
theorem an_J2 (f : β → Option γ) (st : List Value) (g : Int64 → Int64 → List Value → Option β) : (am_J2 st g).bind f = am_J2 st (fun x y r => (g x y r).bind f) := by
  unfold am_J2; split <;> rfl
theorem an_JI (f : β → Option γ) (st : List Value) (g : Int64 → Int32 → List Value → Option β) : (am_JI st g).bind f = am_JI st (fun x y r => (g x y r).bind f) := by
  unfold am_JI; split <;> rfl
theorem an_A1 (f : β → Option γ) (st : List Value) (g : Nat → List Value → Option β) : (am_A1 st g).bind f = am_A1 st (fun x r => (g x r).bind f) := by
  unfold am_A1; split <;> rfl
theorem an_lI (f : β → Option γ) (o : Option Value) (g : Int32 → Option β) : (am_lI o g).bind f = am_lI o (fun x => (g x).bind f) := by
  unfold am_lI; split <;> rfl
theorem an_lJ (f : β → Option γ) (o : Option Value) (g : Int64 → Option β) : (am_lJ o g).bind f = am_lJ o (fun x => (g x).bind f) := by
  unfold am_lJ; split <;> rfl
theorem an_lA (f : β → Option γ) (o : Option Value) (g : Nat → Option β) : (am_lA o g).bind f = am_lA o (fun x => (g x).bind f) := by
  unfold am_lA; split <;> rfl
theorem an_if (f : β → Option γ) (b : Bool) (x : Option β) : (cond b x none).bind f = cond b (x.bind f) none := by cases b <;> rfl
theorem an_if2 (f : β → Option γ) (b : Bool) (x y : Option β) : (cond b x y).bind f = cond b (x.bind f) (y.bind f) := by cases b <;> rfl
theorem an_ite (f : β → Option γ) (p : Prop) [Decidable p] (x y : Option β) : (if p then x else y).bind f = if p then x.bind f else y.bind f := by split <;> rfl
theorem an_dp (f : β → Option γ) (st : List Value) (g : Value → List Value → Option β) : (am_dp st g).bind f = am_dp st (fun x r => (g x r).bind f) := by
  unfold am_dp; split
  · exact an_if f _ _
  · rfl
theorem an_jp (f : β → Option γ) (J : Nat → aL → List Value → aM → Option β) (o : List Nat) (L : aL) (st : List Value) (M : aM) : (am_jp J o L st M).bind f = am_jp (fun a b c d => (J a b c d).bind f) o L st M := by
  unfold am_jp; split <;> rfl
theorem an_sw (f : β → Option γ) (J : Nat → aL → List Value → aM → Option β) (x : Int32) (d : Nat) (lv : List Nat) (L : aL) (st : List Value) (M : aM) (q : List Nat) : ∀ n, (am_sw J x d lv L st M n q).bind f = am_sw (fun a b c d => (J a b c d).bind f) x d lv L st M n q := by
  induction q with
  | nil => intro n; rfl
  | cons t r ih => intro n; simp only [am_sw, an_ite, ih]
theorem an_cx (f : β → Option γ) (J : Nat → aL → List Value → aM → Option β) (h : aH) (e : Nat) (L : aL) (M : aM) : (am_cx J h e L M).bind f = am_cx (fun a b c d => (J a b c d).bind f) h e L M := by
  induction h with
  | nil => rfl
  | cons t r ih => simp only [am_cx, an_if2, ih]
theorem an_ct (f : β → Option γ) (J : Nat → aL → List Value → aM → Option β) (R : aR → Option β) (h : aH) (e : Nat) (L : aL) (M : aM) : (am_ct J R h e L M).bind f = am_ct (fun a b c d => (J a b c d).bind f) (fun r => (R r).bind f) h e L M := by
  cases h with
  | nil => rfl
  | cons t r => exact an_cx f J (t :: r) e L M
theorem an_cV (f : β → Option γ) (o : Option aR) (k : aM → Option β) (x : Nat → aM → Option β) : (am_cV o k x).bind f = am_cV o (fun a => (k a).bind f) (fun a b => (x a b).bind f) := by
  unfold am_cV; split <;> rfl
theorem an_cI (f : β → Option γ) (o : Option aR) (k : Int32 → aM → Option β) (x : Nat → aM → Option β) : (am_cI o k x).bind f = am_cI o (fun a b => (k a b).bind f) (fun a b => (x a b).bind f) := by
  unfold am_cI; split <;> rfl
theorem an_cJ (f : β → Option γ) (o : Option aR) (k : Int64 → aM → Option β) (x : Nat → aM → Option β) : (am_cJ o k x).bind f = am_cJ o (fun a b => (k a b).bind f) (fun a b => (x a b).bind f) := by
  unfold am_cJ; split <;> rfl
theorem an_cA (f : β → Option γ) (o : Option aR) (k : Nat → aM → Option β) (x : Nat → aM → Option β) : (am_cA o k x).bind f = am_cA o (fun a b => (k a b).bind f) (fun a b => (x a b).bind f) := by
  unfold am_cA; split <;> rfl
theorem an_iv (f : β → Option γ) (cal : aY) (hs : List aH) (J : Nat → aL → List Value → aM → Option β) (R : aR → Option β) (o : List Nat) (k : aL → List Value → aM → Option β) (L : aL) (st : List Value) (M : aM) :
    (am_iv cal hs J R o k L st M).bind f = am_iv cal hs (fun a b c d => (J a b c d).bind f) (fun r => (R r).bind f) o (fun a b c => (k a b c).bind f) L st M := by
  unfold am_iv
  split
  · rw [an_if]
    congr 1
    split <;> simp only [an_cI, an_cJ, an_cA, an_cV, an_ct]
  · rfl
set_option maxHeartbeats 4000000 in
theorem an_1 (f : β → Option γ) (cal : aY) (hs : List aH) (J : Nat → aL → List Value → aM → Option β) (R : aR → Option β) (i : aI) (k : aL → List Value → aM → Option β) (L : aL) (st : List Value) (M : aM) :
    (am_1 cal hs J R i k L st M).bind f = am_1 cal hs (fun a b c d => (J a b c d).bind f) (fun r => (R r).bind f) i (fun a b c => (k a b c).bind f) L st M := by
  obtain ⟨ins, len, ops, v⟩ := i
  cases ins
  case ifCond c off => cases c <;> simp only [am_1, an_I1, an_ite, an_jp]
  case if_icmp c off => cases c <;> simp only [am_1, an_I2, an_ite, an_jp]
  case tableswitch =>
    simp only [am_1, an_I1]
    congr 1; funext x r
    split <;> simp only [an_sw, Option.bind_none]
  case getfield =>
    simp only [am_1, an_A1]
    congr 1; funext x r
    split
    · split <;> simp only [Option.bind_assoc]
    · rfl
  case putfield =>
    simp only [am_1]
    split
    · split
      · simp only [an_if, Option.bind_assoc]
      · rfl
    · rfl
  case new =>
    simp only [am_1]
    split
    · simp only [an_if2, Option.bind_none]
    · rfl
  case invokestatic =>
    simp only [am_1]
    split
    · simp only [an_I1, an_A1, an_if, an_ite, Option.bind_assoc, Option.bind_none]
    · simp only [an_I1, an_if]
    · exact an_iv f cal hs J R _ k L st M
  case invokespecial =>
    simp only [am_1]
    split
    · simp only [an_A1, an_if]
    · split
      · simp only [an_if, an_cV, Option.bind_none]
      · rfl
    · rfl
  case invokevirtual =>
    simp only [am_1]
    split
    · split
      · simp only [Option.bind_assoc, an_iv]
      · rfl
    · rfl
  case ireturn =>
    simp only [am_1]
    split
    · rw [an_if]
    · rfl
  case lreturn => simp only [am_1]; split <;> rfl
  case areturn => simp only [am_1]; split <;> rfl
  case return_ => simp only [am_1]; split <;> rfl
  all_goals first
    | rfl
    | (simp only [am_1, an_I1, an_I2, an_J1, an_J2, an_JI, an_A1, an_lI, an_lJ, an_lA, an_dp, an_jp, an_ite, an_if, Option.bind_assoc, Option.bind_none]; done)
theorem an_go (f : β → Option γ) (cal : aY) (hs : List aH) (J : Nat → aL → List Value → aM → Option β) (R : aR → Option β) (is : List aI) : ∀ (L : aL) (st : List Value) (M : aM),
    (am_go cal hs J R is L st M).bind f = am_go cal hs (fun a b c d => (J a b c d).bind f) (fun r => (R r).bind f) is L st M := by
  induction is with
  | nil => intro L st M; rfl
  | cons i r ih =>
    intro L st M
    show (am_1 cal hs J R i (am_go cal hs J R r) L st M).bind f = am_1 cal hs _ _ i (am_go cal hs _ _ r) L st M
    rw [an_1]
    congr 1
    funext a b c
    exact ih a b c
end
def am_oo (cal : aY) (hs : List aH) (is : List aI) (L : aL) (st : List Value) (M : aM) : Option aO := am_go cal hs (fun pc L st M => some (.inl (pc, L, st, M))) (fun r => some (.inr r)) is L st M
def am_nx (J : Nat → aL → List Value → aM → Option aR) : aO → Option aR
  | .inl q => J q.1 q.2.1 q.2.2.1 q.2.2.2
  | .inr r => some r
theorem am_oo_eq (cal : aY) (hs : List aH) (J : Nat → aL → List Value → aM → Option aR) (is : List aI) (L : aL) (st : List Value) (M : aM) : am_go cal hs J some is L st M = (am_oo cal hs is L st M).bind (am_nx J) := by
  unfold am_oo
  rw [an_go]
  rfl
theorem am_ex_mono {cal : aY} {K : aK} : ∀ (n : Nat) (pc : Nat) (L : aL) (st : List Value) (M : aM) (r : aR), am_ex cal K n pc L st M = some r → am_ex cal K (n + 1) pc L st M = some r := by
  intro n
  induction n with
  | zero => intro pc L st M r h; exact nomatch h
  | succ n ih =>
    intro pc L st M r h
    have h1 : am_go cal K.2.1 (am_ex cal K n) some (am_bk K.1 pc) L st M = some r := h
    show am_go cal K.2.1 (am_ex cal K (n + 1)) some (am_bk K.1 pc) L st M = some r
    rw [am_oo_eq] at h1 ⊢
    cases ho : am_oo cal K.2.1 (am_bk K.1 pc) L st M with
    | none => rw [ho] at h1; exact nomatch h1
    | some o =>
      rw [ho] at h1
      cases o with
      | inl q => exact ih _ _ _ _ _ h1
      | inr q => exact h1
theorem am_ex_le {cal : aY} {K : aK} {n n' pc : Nat} {L : aL} {st : List Value} {M : aM} {r : aR} (h : am_ex cal K n pc L st M = some r) (hn : n ≤ n') : am_ex cal K n' pc L st M = some r := by
  induction hn with
  | refl => exact h
  | step _ ih => exact am_ex_mono _ _ _ _ _ _ ih
noncomputable def am_X (cal : aY) (K : aK) (pc : Nat) (L : aL) (st : List Value) (M : aM) : Option aR := @dite _ (∃ r, ∃ n, am_ex cal K n pc L st M = some r) (Classical.propDecidable _) (fun h => some h.choose) (fun _ => none)
theorem am_X_iff {cal : aY} {K : aK} {pc : Nat} {L : aL} {st : List Value} {M : aM} {r : aR} : am_X cal K pc L st M = some r ↔ ∃ n, am_ex cal K n pc L st M = some r := by
  unfold am_X
  by_cases h : ∃ r, ∃ n, am_ex cal K n pc L st M = some r
  · rw [dif_pos h]
    obtain ⟨n, hn⟩ := h.choose_spec
    constructor
    · intro e; exact ⟨n, by rw [hn]; exact e⟩
    · rintro ⟨n', hn'⟩
      have h1 := am_ex_le hn (Nat.le_max_left n n')
      have h2 := am_ex_le hn' (Nat.le_max_right n n')
      rw [h1] at h2
      exact h2
  · rw [dif_neg h]
    constructor
    · intro e; exact nomatch e
    · rintro ⟨n', hn'⟩; exact absurd ⟨r, n', hn'⟩ h
theorem am_X_eq (cal : aY) (K : aK) (pc : Nat) (L : aL) (st : List Value) (M : aM) : am_X cal K pc L st M = am_go cal K.2.1 (am_X cal K) some (am_bk K.1 pc) L st M := by
  apply Option.ext
  intro r
  rw [am_oo_eq]
  constructor
  · intro h
    obtain ⟨n, hn⟩ := am_X_iff.mp h
    cases n with
    | zero => exact nomatch hn
    | succ n =>
      have h1 : am_go cal K.2.1 (am_ex cal K n) some (am_bk K.1 pc) L st M = some r := hn
      rw [am_oo_eq] at h1
      cases ho : am_oo cal K.2.1 (am_bk K.1 pc) L st M with
      | none => rw [ho] at h1; exact nomatch h1
      | some o =>
        rw [ho] at h1
        cases o with
        | inl q => exact am_X_iff.mpr ⟨n, h1⟩
        | inr q => exact h1
  · intro h
    cases ho : am_oo cal K.2.1 (am_bk K.1 pc) L st M with
    | none => rw [ho] at h; exact nomatch h
    | some o =>
      rw [ho] at h
      cases o with
      | inl q =>
        obtain ⟨n, hn⟩ := am_X_iff.mp (show am_X cal K q.1 q.2.1 q.2.2.1 q.2.2.2 = some r from h)
        refine am_X_iff.mpr ⟨n + 1, ?_⟩
        show am_go cal K.2.1 (am_ex cal K n) some (am_bk K.1 pc) L st M = some r
        rw [am_oo_eq, ho]
        exact hn
      | inr q =>
        refine am_X_iff.mpr ⟨1, ?_⟩
        show am_go cal K.2.1 (am_ex cal K 0) some (am_bk K.1 pc) L st M = some r
        rw [am_oo_eq, ho]
        exact h
end
section
/-! the methods as tables: written by a program out of the bytes -/
def k_Actor_init : aK := ([(0, [(.aload_n 0, 1, [0], .null), (.invokespecial 3, 3, [1002, 89, 56, 57], .null), (.aload_n 0, 1, [0], .null), (.new 9, 3, [6, 0, 90, 66, 30], .null), (.dup, 1, [], .null), (.invokespecial 11, 3, [56, 1, 9, 0, 91, 68, 30], .null), (.putfield 12, 3, [0, 0, 2, 109], .null), (.aload_n 0, 1, [0], .null), (.new 18, 3, [4, 0, 92, 93, 32], .null), (.dup, 1, [], .null), (.bipush 6, 2, [], .int 6), (.invokespecial 20, 3, [30, 2, 9, 0, 94, 95, 32], .null), (.putfield 23, 3, [0, 1, 2, 112], .null), (.aload_n 0, 1, [0], .null), (.iconst 0, 1, [], .int 0), (.putfield 27, 3, [0, 2, 0, 115], .null), (.aload_n 0, 1, [0], .null), (.lconst 0, 1, [], .long 0), (.putfield 33, 3, [0, 3, 1, 118], .null), (.aload_n 0, 1, [0], .null), (.sipush (-5000), 3, [], .int (-5000)), (.putfield 37, 3, [0, 6, 0, 127], .null), (.return_, 1, [], .null)])], [[]], [0])
def k_Actor_begin : aK := ([(0, [(.aload_n 0, 1, [0], .null), (.getfield 12, 3, [0, 0, 2, 109], .null), (.aload_n 1, 1, [1], .null), (.invokevirtual 40, 3, [59, 2, 9, 0, 6, 466, 467, 468, 30], .null), (.aload_n 0, 1, [0], .null), (.iconst 1, 1, [], .int 1), (.putfield 27, 3, [0, 2, 0, 115], .null), (.aload_n 0, 1, [0], .null), (.lload_n 2, 1, [2], .null), (.putfield 33, 3, [0, 3, 1, 118], .null), (.return_, 1, [], .null)])], [[]], [0, 1, 2])
def k_Actor_finish : aK := ([(0, [(.aload_n 0, 1, [0], .null), (.iconst 2, 1, [], .int 2), (.putfield 27, 3, [0, 2, 0, 115], .null), (.aload_n 0, 1, [0], .null), (.iload_n 1, 1, [1], .null), (.putfield 37, 3, [0, 6, 0, 127], .null), (.aload_n 0, 1, [0], .null), (.lconst 0, 1, [], .long 0), (.putfield 33, 3, [0, 3, 1, 118], .null), (.aload_n 0, 1, [0], .null), (.getfield 23, 3, [0, 1, 2, 112], .null), (.iconst 0, 1, [], .int 0), (.putfield 44, 3, [4, 1, 0, 101], .null), (.aload_n 0, 1, [0], .null), (.iconst 0, 1, [], .int 0), (.putfield 47, 3, [0, 4, 3, 121], .null), (.aload_n 0, 1, [0], .null), (.iconst 0, 1, [], .int 0), (.putfield 51, 3, [0, 5, 0, 124], .null), (.return_, 1, [], .null)])], [[]], [0, 1])
def k_Evaluator_init : aK := ([(0, [(.aload_n 0, 1, [0], .null), (.invokespecial 3, 3, [1002, 201, 56, 57], .null), (.aload_n 0, 1, [0], .null), (.new 9, 3, [3, 0, 202, 171, 34], .null), (.dup, 1, [], .null), (.invokespecial 11, 3, [22, 1, 9, 0, 203, 173, 34], .null), (.putfield 12, 3, [1, 0, 2, 204], .null), (.aload_n 0, 1, [0], .null), (.bipush 6, 2, [], .int 6), (.newarray .long, 2, [11, 108], .null), (.putfield 18, 3, [1, 1, 2, 206], .null), (.return_, 1, [], .null)])], [[]], [0])
def k_Evaluator_begin : aK := ([(0, [(.aload_n 0, 1, [0], .null), (.iload_n 1, 1, [1], .null), (.putfield 22, 3, [1, 2, 0, 208], .null), (.aload_n 0, 1, [0], .null), (.iconst 0, 1, [], .int 0), (.putfield 26, 3, [1, 3, 0, 209], .null), (.iconst 0, 1, [], .int 0), (.istore 4, 2, [4], .null), (.nop, 0, [13, 0, 2, 4], .null)]),
  (13, [(.iload 4, 2, [4], .null), (.bipush 6, 2, [], .int 6), (.if_icmp .ge 27, 3, [44], .null), (.aload_n 0, 1, [0], .null), (.getfield 18, 3, [1, 1, 2, 206], .null), (.iload 4, 2, [4], .null), (.iload 4, 2, [4], .null), (.iconst 5, 1, [], .int 5), (.if_icmp .ne 7, 3, [36, 0, 2, 4], .null), (.lload_n 2, 1, [2], .null), (.goto 4, 3, [37, 0, 2, 4], .null)]),
  (36, [(.lconst 0, 1, [], .long 0), (.nop, 0, [37, 0, 2, 4], .null)]),
  (37, [(.lastore, 1, [], .null), (.iinc 4 1, 3, [4], .int 1), (.goto (-28), 3, [13, 0, 2, 4], .null)]),
  (44, [(.return_, 1, [], .null)])], [[]], [0, 1, 2])
def k_Evaluator_fits : aK := ([(0, [(.aload_n 0, 1, [0], .null), (.getfield 12, 3, [1, 0, 2, 204], .null), (.invokevirtual 31, 3, [28, 1, 0, 0, 3, 601, 602, 603, 34], .null), (.istore 4, 2, [4], .null), (.iload 4, 2, [4], .null), (.bipush 95, 2, [], .int 95), (.if_icmp .ne 5, 3, [18, 0, 1, 3, 4], .null), (.iconst 1, 1, [], .int 1), (.ireturn, 1, [3], .null)]),
  (18, [(.iload 4, 2, [4], .null), (.bipush 40, 2, [], .int 40), (.if_icmp .ne 73, 3, [95, 0, 1, 4], .null), (.iload_n 3, 1, [3], .null), (.iconst 4, 1, [], .int 4), (.if_icmp .ge 66, 3, [93], .null), (.lload_n 1, 1, [1], .null), (.invokestatic 35, 3, [50, 1, 0, 0, 605, 606, 44], .null), (.ifCond .eq 59, 3, [93], .null), (.aload_n 0, 1, [0], .null), (.lload_n 1, 1, [1], .null), (.invokestatic 39, 3, [51, 1, 1, 0, 608, 609, 44], .null), (.iload_n 3, 1, [3], .null), (.iconst 1, 1, [], .int 1), (.iadd, 1, [], .null), (.invokevirtual 43, 3, [5, 3, 0, 0, 1, 614, 598, 599, 36], .null), (.ifCond .eq 45, 3, [93], .null), (.aload_n 0, 1, [0], .null), (.getfield 12, 3, [1, 0, 2, 204], .null), (.bipush 44, 2, [], .int 44), (.invokevirtual 47, 3, [26, 2, 0, 0, 3, 615, 390, 391, 34], .null), (.ifCond .eq 33, 3, [93], .null), (.aload_n 0, 1, [0], .null), (.lload_n 1, 1, [1], .null), (.invokestatic 51, 3, [53, 1, 1, 0, 616, 617, 44], .null), (.iload_n 3, 1, [3], .null), (.iconst 1, 1, [], .int 1), (.iadd, 1, [], .null), (.invokevirtual 43, 3, [5, 3, 0, 0, 1, 614, 598, 599, 36], .null), (.ifCond .eq 19, 3, [93], .null), (.aload_n 0, 1, [0], .null), (.getfield 12, 3, [1, 0, 2, 204], .null), (.bipush 41, 2, [], .int 41), (.invokevirtual 47, 3, [26, 2, 0, 0, 3, 615, 390, 391, 34], .null), (.ifCond .eq 7, 3, [93], .null), (.iconst 1, 1, [], .int 1), (.goto 4, 3, [94], .null)]),
  (93, [(.iconst 0, 1, [], .int 0), (.nop, 0, [94], .null)]),
  (94, [(.ireturn, 1, [3], .null)]),
  (95, [(.iload 4, 2, [4], .null), (.invokestatic 54, 3, [6, 1, 0, 0, 619, 620, 36], .null), (.istore 5, 2, [5], .null), (.iload 5, 2, [5], .null), (.ifCond .ge 20, 3, [124, 0, 1, 5], .null), (.aload_n 0, 1, [0], .null), (.iload 4, 2, [4], .null), (.invokevirtual 58, 3, [7, 2, 1, 0, 1, 622, 623, 624, 36], .null), (.lload_n 1, 1, [1], .null), (.lcmp, 1, [], .null), (.ifCond .ne 7, 3, [122], .null), (.iconst 1, 1, [], .int 1), (.goto 4, 3, [123], .null)]),
  (122, [(.iconst 0, 1, [], .int 0), (.nop, 0, [123], .null)]),
  (123, [(.ireturn, 1, [3], .null)]),
  (124, [(.aload_n 0, 1, [0], .null), (.getfield 18, 3, [1, 1, 2, 206], .null), (.iload 5, 2, [5], .null), (.laload, 1, [], .null), (.lconst 0, 1, [], .long 0), (.lcmp, 1, [], .null), (.ifCond .ne 11, 3, [144, 0, 1, 5], .null), (.aload_n 0, 1, [0], .null), (.getfield 18, 3, [1, 1, 2, 206], .null), (.iload 5, 2, [5], .null), (.lload_n 1, 1, [1], .null), (.lastore, 1, [], .null), (.nop, 0, [144, 0, 1, 5], .null)]),
  (144, [(.aload_n 0, 1, [0], .null), (.getfield 18, 3, [1, 1, 2, 206], .null), (.iload 5, 2, [5], .null), (.laload, 1, [], .null), (.lload_n 1, 1, [1], .null), (.lcmp, 1, [], .null), (.ifCond .ne 7, 3, [160], .null), (.iconst 1, 1, [], .int 1), (.goto 4, 3, [161], .null)]),
  (160, [(.iconst 0, 1, [], .int 0), (.nop, 0, [161], .null)]),
  (161, [(.ireturn, 1, [3], .null)])], [[]], [0, 1, 3])
def k_Evaluator_variableOf : aK := ([(0, [(.iload_n 0, 1, [0], .null), (.bipush 83, 2, [], .int 83), (.if_icmp .ne 5, 3, [8, 0], .null), (.iconst 5, 1, [], .int 5), (.ireturn, 1, [0], .null)]),
  (8, [(.iload_n 0, 1, [0], .null), (.bipush 65, 2, [], .int 65), (.if_icmp .lt 16, 3, [27], .null), (.iload_n 0, 1, [0], .null), (.bipush 69, 2, [], .int 69), (.if_icmp .gt 10, 3, [27], .null), (.iload_n 0, 1, [0], .null), (.bipush 65, 2, [], .int 65), (.isub, 1, [], .null), (.goto 4, 3, [28], .null)]),
  (27, [(.iconst (-1), 1, [], .int (-1)), (.nop, 0, [28], .null)]),
  (28, [(.ireturn, 1, [0], .null)])], [[]], [0])
def k_Evaluator_constant : aK := ([(0, [(.iload_n 1, 1, [1], .null), (.bipush 97, 2, [], .int 97), (.if_icmp .lt 21, 3, [24, 0, 1], .null), (.iload_n 1, 1, [1], .null), (.bipush 104, 2, [], .int 104), (.if_icmp .gt 15, 3, [24, 0, 1], .null), (.sipush 2000, 3, [], .int 2000), (.iload_n 1, 1, [1], .null), (.iadd, 1, [], .null), (.bipush 97, 2, [], .int 97), (.isub, 1, [], .null), (.invokestatic 73, 3, [42, 1, 1, 0, 626, 456, 44], .null), (.lreturn, 1, [], .null)]),
  (24, [(.iload_n 1, 1, [1], .null), (.bipush 39, 2, [], .int 39), (.if_icmp .ne 33, 3, [60, 1], .null), (.aload_n 0, 1, [0], .null), (.getfield 12, 3, [1, 0, 2, 204], .null), (.invokevirtual 31, 3, [28, 1, 0, 0, 3, 601, 602, 603, 34], .null), (.bipush 48, 2, [], .int 48), (.isub, 1, [], .null), (.istore_n 2, 1, [2], .null), (.iload_n 2, 1, [2], .null), (.bipush 10, 2, [], .int 10), (.imul, 1, [], .null), (.aload_n 0, 1, [0], .null), (.getfield 12, 3, [1, 0, 2, 204], .null), (.invokevirtual 31, 3, [28, 1, 0, 0, 3, 601, 602, 603, 34], .null), (.iadd, 1, [], .null), (.bipush 48, 2, [], .int 48), (.isub, 1, [], .null), (.invokestatic 73, 3, [42, 1, 1, 0, 626, 456, 44], .null), (.lreturn, 1, [], .null)]),
  (60, [(.iload_n 1, 1, [1], .null), (.bipush 48, 2, [], .int 48), (.isub, 1, [], .null), (.invokestatic 73, 3, [42, 1, 1, 0, 626, 456, 44], .null), (.lreturn, 1, [], .null)])], [[]], [0, 1])
def k_Evaluator_guardHolds : aK := ([(0, [(.aload_n 0, 1, [0], .null), (.getfield 12, 3, [1, 0, 2, 204], .null), (.bipush 63, 2, [], .int 63), (.invokevirtual 47, 3, [26, 2, 0, 0, 3, 615, 390, 391, 34], .null), (.ifCond .ne 5, 3, [14, 0], .null), (.iconst 1, 1, [], .int 1), (.ireturn, 1, [3], .null)]),
  (14, [(.aload_n 0, 1, [0], .null), (.iconst 0, 1, [], .int 0), (.invokevirtual 62, 3, [9, 2, 1, 0, 1, 631, 632, 633, 36], .null), (.lstore_n 1, 1, [1], .null), (.lload_n 1, 1, [1], .null), (.lconst 0, 1, [], .long 0), (.lcmp, 1, [], .null), (.ifCond .ne 5, 3, [28, 0, 1], .null), (.iconst 0, 1, [], .int 0), (.ireturn, 1, [3], .null)]),
  (28, [(.aload_n 0, 1, [0], .null), (.getfield 12, 3, [1, 0, 2, 204], .null), (.invokevirtual 31, 3, [28, 1, 0, 0, 3, 601, 602, 603, 34], .null), (.istore_n 3, 1, [3], .null), (.aload_n 0, 1, [0], .null), (.iconst 0, 1, [], .int 0), (.invokevirtual 62, 3, [9, 2, 1, 0, 1, 631, 632, 633, 36], .null), (.lstore 4, 2, [4], .null), (.lload 4, 2, [4], .null), (.lconst 0, 1, [], .long 0), (.lcmp, 1, [], .null), (.ifCond .ne 5, 3, [52, 1, 3, 4], .null), (.iconst 0, 1, [], .int 0), (.ireturn, 1, [3], .null)]),
  (52, [(.iload_n 3, 1, [3], .null), (.bipush 61, 2, [], .int 61), (.if_icmp .ne 16, 3, [71, 1, 4], .null), (.lload_n 1, 1, [1], .null), (.lload 4, 2, [4], .null), (.lcmp, 1, [], .null), (.ifCond .ne 7, 3, [69], .null), (.iconst 1, 1, [], .int 1), (.goto 4, 3, [70], .null)]),
  (69, [(.iconst 0, 1, [], .int 0), (.nop, 0, [70], .null)]),
  (70, [(.ireturn, 1, [3], .null)]),
  (71, [(.lload_n 1, 1, [1], .null), (.invokestatic 66, 3, [54, 1, 0, 0, 647, 648, 44], .null), (.ifCond .eq 22, 3, [97], .null), (.lload 4, 2, [4], .null), (.invokestatic 66, 3, [54, 1, 0, 0, 647, 648, 44], .null), (.ifCond .eq 14, 3, [97], .null), (.lload_n 1, 1, [1], .null), (.lload 4, 2, [4], .null), (.lcmp, 1, [], .null), (.ifCond .ge 7, 3, [97], .null), (.iconst 1, 1, [], .int 1), (.goto 4, 3, [98], .null)]),
  (97, [(.iconst 0, 1, [], .int 0), (.nop, 0, [98], .null)]),
  (98, [(.ireturn, 1, [3], .null)])], [[]], [0])
def k_Evaluator_evaluate : aK := ([(0, [(.aload_n 0, 1, [0], .null), (.getfield 12, 3, [1, 0, 2, 204], .null), (.invokevirtual 31, 3, [28, 1, 0, 0, 3, 601, 602, 603, 34], .null), (.istore_n 2, 1, [2], .null), (.iload_n 2, 1, [2], .null), (.bipush 40, 2, [], .int 40), (.if_icmp .eq 21, 3, [32, 0, 1, 2], .null), (.iload_n 2, 1, [2], .null), (.bipush 43, 2, [], .int 43), (.if_icmp .eq 15, 3, [32, 0, 1, 2], .null), (.iload_n 2, 1, [2], .null), (.bipush 45, 2, [], .int 45), (.if_icmp .eq 9, 3, [32, 0, 1, 2], .null), (.iload_n 2, 1, [2], .null), (.bipush 47, 2, [], .int 47), (.if_icmp .ne 10, 3, [39, 0, 2], .null), (.nop, 0, [32, 0, 1, 2], .null)]),
  (32, [(.aload_n 0, 1, [0], .null), (.iload_n 2, 1, [2], .null), (.iload_n 1, 1, [1], .null), (.invokevirtual 69, 3, [10, 3, 1, 0, 1, 635, 636, 637, 36], .null), (.lreturn, 1, [], .null)]),
  (39, [(.iload_n 2, 1, [2], .null), (.bipush 35, 2, [], .int 35), (.if_icmp .ne 15, 3, [57, 0, 2], .null), (.sipush 3000, 3, [], .int 3000), (.aload_n 0, 1, [0], .null), (.getfield 22, 3, [1, 2, 0, 208], .null), (.iadd, 1, [], .null), (.invokestatic 73, 3, [42, 1, 1, 0, 626, 456, 44], .null), (.lreturn, 1, [], .null)]),
  (57, [(.iload_n 2, 1, [2], .null), (.invokestatic 54, 3, [6, 1, 0, 0, 619, 620, 36], .null), (.istore_n 3, 1, [3], .null), (.iload_n 3, 1, [3], .null), (.ifCond .ge 9, 3, [72, 0, 3], .null), (.aload_n 0, 1, [0], .null), (.iload_n 2, 1, [2], .null), (.invokevirtual 58, 3, [7, 2, 1, 0, 1, 622, 623, 624, 36], .null), (.lreturn, 1, [], .null)]),
  (72, [(.aload_n 0, 1, [0], .null), (.getfield 18, 3, [1, 1, 2, 206], .null), (.iload_n 3, 1, [3], .null), (.laload, 1, [], .null), (.lconst 0, 1, [], .long 0), (.lcmp, 1, [], .null), (.ifCond .ne 11, 3, [91, 0, 3], .null), (.aload_n 0, 1, [0], .null), (.iconst 1, 1, [], .int 1), (.invokevirtual 76, 3, [11, 2, 1, 0, 1, 639, 640, 641, 36], .null), (.goto 9, 3, [97], .null)]),
  (91, [(.aload_n 0, 1, [0], .null), (.getfield 18, 3, [1, 1, 2, 206], .null), (.iload_n 3, 1, [3], .null), (.laload, 1, [], .null), (.nop, 0, [97], .null)]),
  (97, [(.lreturn, 1, [], .null)])], [[]], [0, 1])
def k_Evaluator_evaluateTwo : aK := ([(0, [(.iload_n 2, 1, [2], .null), (.iconst 4, 1, [], .int 4), (.if_icmp .lt 9, 3, [11, 0, 1, 2], .null), (.aload_n 0, 1, [0], .null), (.iconst 1, 1, [], .int 1), (.invokevirtual 76, 3, [11, 2, 1, 0, 1, 639, 640, 641, 36], .null), (.lreturn, 1, [], .null)]),
  (11, [(.aload_n 0, 1, [0], .null), (.iload_n 2, 1, [2], .null), (.iconst 1, 1, [], .int 1), (.iadd, 1, [], .null), (.invokevirtual 62, 3, [9, 2, 1, 0, 1, 631, 632, 633, 36], .null), (.lstore_n 3, 1, [3], .null), (.lload_n 3, 1, [3], .null), (.lconst 0, 1, [], .long 0), (.lcmp, 1, [], .null), (.ifCond .ne 5, 3, [27, 0, 1, 2, 3], .null), (.lconst 0, 1, [], .long 0), (.lreturn, 1, [], .null)]),
  (27, [(.iload_n 1, 1, [1], .null), (.bipush 40, 2, [], .int 40), (.if_icmp .ne 13, 3, [43, 0, 1, 2, 3], .null), (.aload_n 0, 1, [0], .null), (.getfield 12, 3, [1, 0, 2, 204], .null), (.bipush 44, 2, [], .int 44), (.invokevirtual 47, 3, [26, 2, 0, 0, 3, 615, 390, 391, 34], .null), (.pop, 1, [], .null), (.nop, 0, [43, 0, 1, 2, 3], .null)]),
  (43, [(.aload_n 0, 1, [0], .null), (.iload_n 2, 1, [2], .null), (.iconst 1, 1, [], .int 1), (.iadd, 1, [], .null), (.invokevirtual 62, 3, [9, 2, 1, 0, 1, 631, 632, 633, 36], .null), (.lstore 5, 2, [5], .null), (.lload 5, 2, [5], .null), (.lconst 0, 1, [], .long 0), (.lcmp, 1, [], .null), (.ifCond .ne 5, 3, [61, 0, 1, 3, 5], .null), (.lconst 0, 1, [], .long 0), (.lreturn, 1, [], .null)]),
  (61, [(.iload_n 1, 1, [1], .null), (.bipush 40, 2, [], .int 40), (.if_icmp .eq 12, 3, [76, 0, 3, 5], .null), (.aload_n 0, 1, [0], .null), (.iload_n 1, 1, [1], .null), (.lload_n 3, 1, [3], .null), (.lload 5, 2, [5], .null), (.invokevirtual 79, 3, [12, 4, 1, 0, 1, 643, 644, 645, 36], .null), (.lreturn, 1, [], .null)]),
  (76, [(.aload_n 0, 1, [0], .null), (.getfield 12, 3, [1, 0, 2, 204], .null), (.bipush 41, 2, [], .int 41), (.invokevirtual 47, 3, [26, 2, 0, 0, 3, 615, 390, 391, 34], .null), (.pop, 1, [], .null), (.lload_n 3, 1, [3], .null), (.lload 5, 2, [5], .null), (.invokestatic 83, 3, [43, 2, 1, 0, 655, 490, 44], .null), (.lstore 7, 2, [7], .null), (.lload 7, 2, [7], .null), (.lconst 0, 1, [], .long 0), (.lcmp, 1, [], .null), (.ifCond .ne 11, 3, [109, 7], .null), (.aload_n 0, 1, [0], .null), (.iconst 1, 1, [], .int 1), (.invokevirtual 76, 3, [11, 2, 1, 0, 1, 639, 640, 641, 36], .null), (.goto 5, 3, [111], .null)]),
  (109, [(.lload 7, 2, [7], .null), (.nop, 0, [111], .null)]),
  (111, [(.lreturn, 1, [], .null)])], [[]], [0, 1, 2])
def k_Evaluator_failed : aK := ([(0, [(.aload_n 0, 1, [0], .null), (.iload_n 1, 1, [1], .null), (.putfield 26, 3, [1, 3, 0, 209], .null), (.lconst 0, 1, [], .long 0), (.lreturn, 1, [], .null)])], [[]], [0, 1])
def k_Evaluator_calculate : aK := ([(0, [(.lload_n 2, 1, [2], .null), (.invokestatic 66, 3, [54, 1, 0, 0, 647, 648, 44], .null), (.ifCond .eq 11, 3, [15, 0], .null), (.lload 4, 2, [4], .null), (.invokestatic 66, 3, [54, 1, 0, 0, 647, 648, 44], .null), (.ifCond .ne 9, 3, [21, 0, 1, 2, 4], .null), (.nop, 0, [15, 0], .null)]),
  (15, [(.aload_n 0, 1, [0], .null), (.iconst 1, 1, [], .int 1), (.invokevirtual 76, 3, [11, 2, 1, 0, 1, 639, 640, 641, 36], .null), (.lreturn, 1, [], .null)]),
  (21, [(.lload_n 2, 1, [2], .null), (.iconst 0, 1, [], .int 0), (.invokestatic 87, 3, [48, 2, 0, 0, 651, 549, 44], .null), (.istore 6, 2, [6], .null), (.lload 4, 2, [4], .null), (.iconst 0, 1, [], .int 0), (.invokestatic 87, 3, [48, 2, 0, 0, 651, 549, 44], .null), (.istore 7, 2, [7], .null), (.iload_n 1, 1, [1], .null), (.bipush 47, 2, [], .int 47), (.if_icmp .ne 14, 3, [53, 0, 1, 6, 7], .null), (.iload 7, 2, [7], .null), (.ifCond .ne 9, 3, [53, 0, 1, 6, 7], .null), (.aload_n 0, 1, [0], .null), (.iconst 2, 1, [], .int 2), (.invokevirtual 76, 3, [11, 2, 1, 0, 1, 639, 640, 641, 36], .null), (.lreturn, 1, [], .null)]),
  (53, [(.iload_n 1, 1, [1], .null), (.bipush 43, 2, [], .int 43), (.if_icmp .ne 11, 3, [67, 0, 1, 6, 7], .null), (.iload 6, 2, [6], .null), (.iload 7, 2, [7], .null), (.iadd, 1, [], .null), (.goto 22, 3, [86, 0], .null)]),
  (67, [(.iload_n 1, 1, [1], .null), (.bipush 45, 2, [], .int 45), (.if_icmp .ne 11, 3, [81, 0, 6, 7], .null), (.iload 6, 2, [6], .null), (.iload 7, 2, [7], .null), (.isub, 1, [], .null), (.goto 8, 3, [86, 0], .null)]),
  (81, [(.iload 6, 2, [6], .null), (.iload 7, 2, [7], .null), (.idiv, 1, [], .null), (.nop, 0, [86, 0], .null)]),
  (86, [(.istore 8, 2, [8], .null), (.iload 8, 2, [8], .null), (.invokestatic 91, 3, [1003, 652, 653, 654, 47], .null), (.sipush 999, 3, [], .int 999), (.if_icmp .le 11, 3, [107, 8], .null), (.aload_n 0, 1, [0], .null), (.iconst 1, 1, [], .int 1), (.invokevirtual 76, 3, [11, 2, 1, 0, 1, 639, 640, 641, 36], .null), (.goto 8, 3, [112], .null)]),
  (107, [(.iload 8, 2, [8], .null), (.invokestatic 73, 3, [42, 1, 1, 0, 626, 456, 44], .null), (.nop, 0, [112], .null)]),
  (112, [(.lreturn, 1, [], .null)])], [[]], [0, 1, 2, 4])
def k_Grammar_init : aK := ([(0, [(.aload_n 0, 1, [0], .null), (.invokespecial 3, 3, [1002, 169, 56, 57], .null), (.aload_n 0, 1, [0], .null), (.new 9, 3, [3, 0, 170, 171, 34], .null), (.dup, 1, [], .null), (.invokespecial 11, 3, [22, 1, 9, 0, 172, 173, 34], .null), (.putfield 12, 3, [2, 0, 2, 186], .null), (.return_, 1, [], .null)])], [[]], [0])
def k_Grammar_placeOfFault : aK := ([(0, [(.aload_n 0, 1, [0], .null), (.getfield 12, 3, [2, 0, 2, 186], .null), (.aload_n 1, 1, [1], .null), (.invokevirtual 18, 3, [23, 2, 9, 0, 3, 373, 374, 375, 34], .null), (.iconst 0, 1, [], .int 0), (.istore_n 2, 1, [2], .null), (.nop, 0, [10, 0, 2], .null)]),
  (10, [(.iload_n 2, 1, [2], .null), (.bipush 60, 2, [], .int 60), (.if_icmp .ge 71, 3, [84], .null), (.aload_n 0, 1, [0], .null), (.getfield 12, 3, [2, 0, 2, 186], .null), (.invokevirtual 22, 3, [24, 1, 0, 0, 3, 377, 378, 379, 34], .null), (.ifCond .ne 61, 3, [84], .null), (.aload_n 0, 1, [0], .null), (.iconst 0, 1, [], .int 0), (.invokevirtual 26, 3, [15, 2, 0, 0, 2, 381, 382, 383, 33], .null), (.ifCond .eq 33, 3, [64, 0, 2], .null), (.aload_n 0, 1, [0], .null), (.invokevirtual 30, 3, [18, 1, 0, 0, 2, 405, 406, 407, 33], .null), (.ifCond .eq 26, 3, [64, 0, 2], .null), (.aload_n 0, 1, [0], .null), (.getfield 12, 3, [2, 0, 2, 186], .null), (.bipush 58, 2, [], .int 58), (.invokevirtual 33, 3, [26, 2, 0, 0, 3, 389, 390, 391, 34], .null), (.ifCond .eq 14, 3, [64, 0, 2], .null), (.aload_n 0, 1, [0], .null), (.invokevirtual 37, 3, [20, 1, 0, 0, 2, 413, 414, 415, 33], .null), (.ifCond .eq 7, 3, [64, 0, 2], .null), (.iconst 1, 1, [], .int 1), (.goto 4, 3, [65, 0, 2], .null)]),
  (64, [(.iconst 0, 1, [], .int 0), (.nop, 0, [65, 0, 2], .null)]),
  (65, [(.istore_n 3, 1, [3], .null), (.iload_n 3, 1, [3], .null), (.ifCond .ne 11, 3, [78, 0, 2], .null), (.aload_n 0, 1, [0], .null), (.getfield 12, 3, [2, 0, 2, 186], .null), (.getfield 40, 3, [3, 1, 0, 180], .null), (.ireturn, 1, [0], .null)]),
  (78, [(.iinc 2 1, 3, [2], .int 1), (.goto (-71), 3, [10, 0, 2], .null)]),
  (84, [(.bipush (-2), 2, [], .int (-2)), (.ireturn, 1, [0], .null)])], [[]], [0, 1])
def k_Grammar_readPattern : aK := ([(0, [(.aload_n 0, 1, [0], .null), (.getfield 12, 3, [2, 0, 2, 186], .null), (.invokevirtual 44, 3, [25, 1, 0, 0, 3, 385, 386, 387, 34], .null), (.bipush 40, 2, [], .int 40), (.if_icmp .ne 70, 3, [79, 0], .null), (.iload_n 1, 1, [1], .null), (.iconst 4, 1, [], .int 4), (.if_icmp .ge 63, 3, [77], .null), (.aload_n 0, 1, [0], .null), (.getfield 12, 3, [2, 0, 2, 186], .null), (.bipush 40, 2, [], .int 40), (.invokevirtual 33, 3, [26, 2, 0, 0, 3, 389, 390, 391, 34], .null), (.ifCond .eq 51, 3, [77], .null), (.aload_n 0, 1, [0], .null), (.iload_n 1, 1, [1], .null), (.iconst 1, 1, [], .int 1), (.iadd, 1, [], .null), (.invokevirtual 26, 3, [15, 2, 0, 0, 2, 381, 382, 383, 33], .null), (.ifCond .eq 41, 3, [77], .null), (.aload_n 0, 1, [0], .null), (.getfield 12, 3, [2, 0, 2, 186], .null), (.bipush 44, 2, [], .int 44), (.invokevirtual 33, 3, [26, 2, 0, 0, 3, 389, 390, 391, 34], .null), (.ifCond .eq 29, 3, [77], .null), (.aload_n 0, 1, [0], .null), (.iload_n 1, 1, [1], .null), (.iconst 1, 1, [], .int 1), (.iadd, 1, [], .null), (.invokevirtual 26, 3, [15, 2, 0, 0, 2, 381, 382, 383, 33], .null), (.ifCond .eq 19, 3, [77], .null), (.aload_n 0, 1, [0], .null), (.getfield 12, 3, [2, 0, 2, 186], .null), (.bipush 41, 2, [], .int 41), (.invokevirtual 33, 3, [26, 2, 0, 0, 3, 389, 390, 391, 34], .null), (.ifCond .eq 7, 3, [77], .null), (.iconst 1, 1, [], .int 1), (.goto 4, 3, [78], .null)]),
  (77, [(.iconst 0, 1, [], .int 0), (.nop, 0, [78], .null)]),
  (78, [(.ireturn, 1, [3], .null)]),
  (79, [(.aload_n 0, 1, [0], .null), (.getfield 12, 3, [2, 0, 2, 186], .null), (.bipush 95, 2, [], .int 95), (.invokevirtual 33, 3, [26, 2, 0, 0, 3, 389, 390, 391, 34], .null), (.ifCond .ne 10, 3, [98], .null), (.aload_n 0, 1, [0], .null), (.invokevirtual 48, 3, [16, 1, 0, 0, 2, 393, 394, 395, 33], .null), (.ifCond .eq 7, 3, [102], .null), (.nop, 0, [98], .null)]),
  (98, [(.iconst 1, 1, [], .int 1), (.goto 4, 3, [103], .null)]),
  (102, [(.iconst 0, 1, [], .int 0), (.nop, 0, [103], .null)]),
  (103, [(.ireturn, 1, [3], .null)])], [[]], [0, 1])
def k_Grammar_readSimple : aK := ([(0, [(.aload_n 0, 1, [0], .null), (.getfield 12, 3, [2, 0, 2, 186], .null), (.bipush 39, 2, [], .int 39), (.invokevirtual 33, 3, [26, 2, 0, 0, 3, 389, 390, 391, 34], .null), (.ifCond .eq 37, 3, [46, 0], .null), (.aload_n 0, 1, [0], .null), (.getfield 12, 3, [2, 0, 2, 186], .null), (.bipush 48, 2, [], .int 48), (.bipush 57, 2, [], .int 57), (.invokevirtual 57, 3, [27, 3, 0, 0, 3, 397, 398, 399, 34], .null), (.ifCond .eq 21, 3, [44], .null), (.aload_n 0, 1, [0], .null), (.getfield 12, 3, [2, 0, 2, 186], .null), (.bipush 48, 2, [], .int 48), (.bipush 57, 2, [], .int 57), (.invokevirtual 57, 3, [27, 3, 0, 0, 3, 397, 398, 399, 34], .null), (.ifCond .eq 7, 3, [44], .null), (.iconst 1, 1, [], .int 1), (.goto 4, 3, [45], .null)]),
  (44, [(.iconst 0, 1, [], .int 0), (.nop, 0, [45], .null)]),
  (45, [(.ireturn, 1, [3], .null)]),
  (46, [(.aload_n 0, 1, [0], .null), (.getfield 12, 3, [2, 0, 2, 186], .null), (.bipush 48, 2, [], .int 48), (.bipush 57, 2, [], .int 57), (.invokevirtual 57, 3, [27, 3, 0, 0, 3, 397, 398, 399, 34], .null), (.ifCond .ne 24, 3, [81], .null), (.aload_n 0, 1, [0], .null), (.getfield 12, 3, [2, 0, 2, 186], .null), (.bipush 97, 2, [], .int 97), (.bipush 104, 2, [], .int 104), (.invokevirtual 57, 3, [27, 3, 0, 0, 3, 397, 398, 399, 34], .null), (.ifCond .ne 10, 3, [81], .null), (.aload_n 0, 1, [0], .null), (.invokevirtual 61, 3, [17, 1, 0, 0, 2, 401, 402, 403, 33], .null), (.ifCond .eq 7, 3, [85], .null), (.nop, 0, [81], .null)]),
  (81, [(.iconst 1, 1, [], .int 1), (.goto 4, 3, [86], .null)]),
  (85, [(.iconst 0, 1, [], .int 0), (.nop, 0, [86], .null)]),
  (86, [(.ireturn, 1, [3], .null)])], [[]], [0])
def k_Grammar_readVariable : aK := ([(0, [(.aload_n 0, 1, [0], .null), (.getfield 12, 3, [2, 0, 2, 186], .null), (.bipush 65, 2, [], .int 65), (.bipush 69, 2, [], .int 69), (.invokevirtual 57, 3, [27, 3, 0, 0, 3, 397, 398, 399, 34], .null), (.ifCond .ne 15, 3, [26], .null), (.aload_n 0, 1, [0], .null), (.getfield 12, 3, [2, 0, 2, 186], .null), (.bipush 83, 2, [], .int 83), (.invokevirtual 33, 3, [26, 2, 0, 0, 3, 389, 390, 391, 34], .null), (.ifCond .eq 7, 3, [30], .null), (.nop, 0, [26], .null)]),
  (26, [(.iconst 1, 1, [], .int 1), (.goto 4, 3, [31], .null)]),
  (30, [(.iconst 0, 1, [], .int 0), (.nop, 0, [31], .null)]),
  (31, [(.ireturn, 1, [3], .null)])], [[]], [0])
def k_Grammar_readGuard : aK := ([(0, [(.aload_n 0, 1, [0], .null), (.getfield 12, 3, [2, 0, 2, 186], .null), (.bipush 63, 2, [], .int 63), (.invokevirtual 33, 3, [26, 2, 0, 0, 3, 389, 390, 391, 34], .null), (.ifCond .ne 5, 3, [14, 0], .null), (.iconst 1, 1, [], .int 1), (.ireturn, 1, [3], .null)]),
  (14, [(.aload_n 0, 1, [0], .null), (.iconst 0, 1, [], .int 0), (.invokevirtual 51, 3, [19, 2, 0, 0, 2, 409, 410, 411, 33], .null), (.ifCond .eq 39, 3, [58], .null), (.aload_n 0, 1, [0], .null), (.getfield 12, 3, [2, 0, 2, 186], .null), (.bipush 60, 2, [], .int 60), (.invokevirtual 33, 3, [26, 2, 0, 0, 3, 389, 390, 391, 34], .null), (.ifCond .ne 15, 3, [46, 0], .null), (.aload_n 0, 1, [0], .null), (.getfield 12, 3, [2, 0, 2, 186], .null), (.bipush 61, 2, [], .int 61), (.invokevirtual 33, 3, [26, 2, 0, 0, 3, 389, 390, 391, 34], .null), (.ifCond .eq 15, 3, [58], .null), (.nop, 0, [46, 0], .null)]),
  (46, [(.aload_n 0, 1, [0], .null), (.iconst 0, 1, [], .int 0), (.invokevirtual 51, 3, [19, 2, 0, 0, 2, 409, 410, 411, 33], .null), (.ifCond .eq 7, 3, [58], .null), (.iconst 1, 1, [], .int 1), (.goto 4, 3, [59], .null)]),
  (58, [(.iconst 0, 1, [], .int 0), (.nop, 0, [59], .null)]),
  (59, [(.ireturn, 1, [3], .null)])], [[]], [0])
def k_Grammar_readExpression : aK := ([(0, [(.aload_n 0, 1, [0], .null), (.getfield 12, 3, [2, 0, 2, 186], .null), (.invokevirtual 44, 3, [25, 1, 0, 0, 3, 385, 386, 387, 34], .null), (.istore_n 2, 1, [2], .null), (.iload_n 2, 1, [2], .null), (.bipush 40, 2, [], .int 40), (.if_icmp .ne 70, 3, [81, 0, 1, 2], .null), (.iload_n 1, 1, [1], .null), (.iconst 4, 1, [], .int 4), (.if_icmp .ge 63, 3, [79], .null), (.aload_n 0, 1, [0], .null), (.getfield 12, 3, [2, 0, 2, 186], .null), (.bipush 40, 2, [], .int 40), (.invokevirtual 33, 3, [26, 2, 0, 0, 3, 389, 390, 391, 34], .null), (.ifCond .eq 51, 3, [79], .null), (.aload_n 0, 1, [0], .null), (.iload_n 1, 1, [1], .null), (.iconst 1, 1, [], .int 1), (.iadd, 1, [], .null), (.invokevirtual 51, 3, [19, 2, 0, 0, 2, 409, 410, 411, 33], .null), (.ifCond .eq 41, 3, [79], .null), (.aload_n 0, 1, [0], .null), (.getfield 12, 3, [2, 0, 2, 186], .null), (.bipush 44, 2, [], .int 44), (.invokevirtual 33, 3, [26, 2, 0, 0, 3, 389, 390, 391, 34], .null), (.ifCond .eq 29, 3, [79], .null), (.aload_n 0, 1, [0], .null), (.iload_n 1, 1, [1], .null), (.iconst 1, 1, [], .int 1), (.iadd, 1, [], .null), (.invokevirtual 51, 3, [19, 2, 0, 0, 2, 409, 410, 411, 33], .null), (.ifCond .eq 19, 3, [79], .null), (.aload_n 0, 1, [0], .null), (.getfield 12, 3, [2, 0, 2, 186], .null), (.bipush 41, 2, [], .int 41), (.invokevirtual 33, 3, [26, 2, 0, 0, 3, 389, 390, 391, 34], .null), (.ifCond .eq 7, 3, [79], .null), (.iconst 1, 1, [], .int 1), (.goto 4, 3, [80], .null)]),
  (79, [(.iconst 0, 1, [], .int 0), (.nop, 0, [80], .null)]),
  (80, [(.ireturn, 1, [3], .null)]),
  (81, [(.iload_n 2, 1, [2], .null), (.bipush 43, 2, [], .int 43), (.if_icmp .eq 15, 3, [99, 0, 1, 2], .null), (.iload_n 2, 1, [2], .null), (.bipush 45, 2, [], .int 45), (.if_icmp .eq 9, 3, [99, 0, 1, 2], .null), (.iload_n 2, 1, [2], .null), (.bipush 47, 2, [], .int 47), (.if_icmp .ne 45, 3, [141, 0], .null), (.nop, 0, [99, 0, 1, 2], .null)]),
  (99, [(.iload_n 1, 1, [1], .null), (.iconst 4, 1, [], .int 4), (.if_icmp .ge 38, 3, [139], .null), (.aload_n 0, 1, [0], .null), (.getfield 12, 3, [2, 0, 2, 186], .null), (.iload_n 2, 1, [2], .null), (.invokevirtual 33, 3, [26, 2, 0, 0, 3, 389, 390, 391, 34], .null), (.ifCond .eq 27, 3, [139], .null), (.aload_n 0, 1, [0], .null), (.iload_n 1, 1, [1], .null), (.iconst 1, 1, [], .int 1), (.iadd, 1, [], .null), (.invokevirtual 51, 3, [19, 2, 0, 0, 2, 409, 410, 411, 33], .null), (.ifCond .eq 17, 3, [139], .null), (.aload_n 0, 1, [0], .null), (.iload_n 1, 1, [1], .null), (.iconst 1, 1, [], .int 1), (.iadd, 1, [], .null), (.invokevirtual 51, 3, [19, 2, 0, 0, 2, 409, 410, 411, 33], .null), (.ifCond .eq 7, 3, [139], .null), (.iconst 1, 1, [], .int 1), (.goto 4, 3, [140], .null)]),
  (139, [(.iconst 0, 1, [], .int 0), (.nop, 0, [140], .null)]),
  (140, [(.ireturn, 1, [3], .null)]),
  (141, [(.aload_n 0, 1, [0], .null), (.getfield 12, 3, [2, 0, 2, 186], .null), (.bipush 35, 2, [], .int 35), (.invokevirtual 33, 3, [26, 2, 0, 0, 3, 389, 390, 391, 34], .null), (.ifCond .ne 10, 3, [160], .null), (.aload_n 0, 1, [0], .null), (.invokevirtual 48, 3, [16, 1, 0, 0, 2, 393, 394, 395, 33], .null), (.ifCond .eq 7, 3, [164], .null), (.nop, 0, [160], .null)]),
  (160, [(.iconst 1, 1, [], .int 1), (.goto 4, 3, [165], .null)]),
  (164, [(.iconst 0, 1, [], .int 0), (.nop, 0, [165], .null)]),
  (165, [(.ireturn, 1, [3], .null)])], [[]], [0, 1])
def k_Grammar_readActions : aK := ([(0, [(.iconst 0, 1, [], .int 0), (.istore_n 1, 1, [1], .null), (.nop, 0, [2, 0, 1], .null)]),
  (2, [(.iload_n 1, 1, [1], .null), (.bipush 60, 2, [], .int 60), (.if_icmp .ge 32, 3, [37], .null), (.aload_n 0, 1, [0], .null), (.getfield 12, 3, [2, 0, 2, 186], .null), (.bipush 59, 2, [], .int 59), (.invokevirtual 33, 3, [26, 2, 0, 0, 3, 389, 390, 391, 34], .null), (.ifCond .eq 5, 3, [22, 0, 1], .null), (.iconst 1, 1, [], .int 1), (.ireturn, 1, [3], .null)]),
  (22, [(.aload_n 0, 1, [0], .null), (.invokevirtual 54, 3, [21, 1, 0, 0, 2, 417, 418, 419, 33], .null), (.ifCond .ne 5, 3, [31, 0, 1], .null), (.iconst 0, 1, [], .int 0), (.ireturn, 1, [3], .null)]),
  (31, [(.iinc 1 1, 3, [1], .int 1), (.goto (-32), 3, [2, 0, 1], .null)]),
  (37, [(.iconst 0, 1, [], .int 0), (.ireturn, 1, [3], .null)])], [[]], [0])
def k_Grammar_readAction : aK := ([(0, [(.aload_n 0, 1, [0], .null), (.getfield 12, 3, [2, 0, 2, 186], .null), (.bipush 33, 2, [], .int 33), (.invokevirtual 33, 3, [26, 2, 0, 0, 3, 389, 390, 391, 34], .null), (.ifCond .eq 25, 3, [34, 0], .null), (.aload_n 0, 1, [0], .null), (.iconst 0, 1, [], .int 0), (.invokevirtual 51, 3, [19, 2, 0, 0, 2, 409, 410, 411, 33], .null), (.ifCond .eq 15, 3, [32], .null), (.aload_n 0, 1, [0], .null), (.iconst 0, 1, [], .int 0), (.invokevirtual 51, 3, [19, 2, 0, 0, 2, 409, 410, 411, 33], .null), (.ifCond .eq 7, 3, [32], .null), (.iconst 1, 1, [], .int 1), (.goto 4, 3, [33], .null)]),
  (32, [(.iconst 0, 1, [], .int 0), (.nop, 0, [33], .null)]),
  (33, [(.ireturn, 1, [3], .null)]),
  (34, [(.aload_n 0, 1, [0], .null), (.getfield 12, 3, [2, 0, 2, 186], .null), (.bipush 126, 2, [], .int 126), (.invokevirtual 33, 3, [26, 2, 0, 0, 3, 389, 390, 391, 34], .null), (.ifCond .ne 27, 3, [70, 0], .null), (.aload_n 0, 1, [0], .null), (.getfield 12, 3, [2, 0, 2, 186], .null), (.bipush 38, 2, [], .int 38), (.invokevirtual 33, 3, [26, 2, 0, 0, 3, 389, 390, 391, 34], .null), (.ifCond .ne 15, 3, [70, 0], .null), (.aload_n 0, 1, [0], .null), (.getfield 12, 3, [2, 0, 2, 186], .null), (.bipush 36, 2, [], .int 36), (.invokevirtual 33, 3, [26, 2, 0, 0, 3, 389, 390, 391, 34], .null), (.ifCond .eq 9, 3, [76, 0], .null), (.nop, 0, [70, 0], .null)]),
  (70, [(.aload_n 0, 1, [0], .null), (.iconst 0, 1, [], .int 0), (.invokevirtual 51, 3, [19, 2, 0, 0, 2, 409, 410, 411, 33], .null), (.ireturn, 1, [3], .null)]),
  (76, [(.aload_n 0, 1, [0], .null), (.getfield 12, 3, [2, 0, 2, 186], .null), (.bipush 64, 2, [], .int 64), (.invokevirtual 33, 3, [26, 2, 0, 0, 3, 389, 390, 391, 34], .null), (.ifCond .eq 30, 3, [115, 0], .null), (.aload_n 0, 1, [0], .null), (.getfield 12, 3, [2, 0, 2, 186], .null), (.bipush 48, 2, [], .int 48), (.bipush 50, 2, [], .int 50), (.invokevirtual 57, 3, [27, 3, 0, 0, 3, 397, 398, 399, 34], .null), (.ifCond .eq 14, 3, [113], .null), (.aload_n 0, 1, [0], .null), (.invokevirtual 61, 3, [17, 1, 0, 0, 2, 401, 402, 403, 33], .null), (.ifCond .eq 7, 3, [113], .null), (.iconst 1, 1, [], .int 1), (.goto 4, 3, [114], .null)]),
  (113, [(.iconst 0, 1, [], .int 0), (.nop, 0, [114], .null)]),
  (114, [(.ireturn, 1, [3], .null)]),
  (115, [(.aload_n 0, 1, [0], .null), (.getfield 12, 3, [2, 0, 2, 186], .null), (.bipush 42, 2, [], .int 42), (.invokevirtual 33, 3, [26, 2, 0, 0, 3, 389, 390, 391, 34], .null), (.ifCond .eq 21, 3, [145], .null), (.aload_n 0, 1, [0], .null), (.getfield 12, 3, [2, 0, 2, 186], .null), (.bipush 48, 2, [], .int 48), (.bipush 49, 2, [], .int 49), (.invokevirtual 57, 3, [27, 3, 0, 0, 3, 397, 398, 399, 34], .null), (.ifCond .eq 7, 3, [145], .null), (.iconst 1, 1, [], .int 1), (.goto 4, 3, [146], .null)]),
  (145, [(.iconst 0, 1, [], .int 0), (.nop, 0, [146], .null)]),
  (146, [(.ireturn, 1, [3], .null)])], [[]], [0])
def k_Reader_init : aK := ([(0, [(.aload_n 0, 1, [0], .null), (.invokespecial 3, 3, [1002, 175, 56, 57], .null), (.aload_n 0, 1, [0], .null), (.new 9, 3, [6, 0, 176, 66, 30], .null), (.dup, 1, [], .null), (.invokespecial 11, 3, [56, 1, 9, 0, 177, 68, 30], .null), (.putfield 12, 3, [3, 0, 2, 178], .null), (.return_, 1, [], .null)])], [[]], [0])
def k_Reader_open : aK := ([(0, [(.aload_n 0, 1, [0], .null), (.aload_n 1, 1, [1], .null), (.putfield 12, 3, [3, 0, 2, 178], .null), (.aload_n 0, 1, [0], .null), (.iconst 0, 1, [], .int 0), (.putfield 18, 3, [3, 1, 0, 179], .null), (.return_, 1, [], .null)])], [[]], [0, 1])
def k_Reader_isAtEnd : aK := ([(0, [(.aload_n 0, 1, [0], .null), (.getfield 18, 3, [3, 1, 0, 179], .null), (.aload_n 0, 1, [0], .null), (.getfield 12, 3, [3, 0, 2, 178], .null), (.getfield 22, 3, [6, 1, 0, 75], .null), (.if_icmp .lt 7, 3, [18], .null), (.iconst 1, 1, [], .int 1), (.goto 4, 3, [19], .null)]),
  (18, [(.iconst 0, 1, [], .int 0), (.nop, 0, [19], .null)]),
  (19, [(.ireturn, 1, [3], .null)])], [[]], [0])
def k_Reader_sign : aK := ([(0, [(.aload_n 0, 1, [0], .null), (.getfield 18, 3, [3, 1, 0, 179], .null), (.aload_n 0, 1, [0], .null), (.getfield 12, 3, [3, 0, 2, 178], .null), (.getfield 22, 3, [6, 1, 0, 75], .null), (.if_icmp .ge 18, 3, [29], .null), (.aload_n 0, 1, [0], .null), (.getfield 12, 3, [3, 0, 2, 178], .null), (.getfield 25, 3, [6, 0, 2, 72], .null), (.aload_n 0, 1, [0], .null), (.getfield 18, 3, [3, 1, 0, 179], .null), (.caload, 1, [], .null), (.goto 4, 3, [30], .null)]),
  (29, [(.iconst 0, 1, [], .int 0), (.nop, 0, [30], .null)]),
  (30, [(.ireturn, 1, [4], .null)])], [[]], [0])
def k_Reader_accept : aK := ([(0, [(.aload_n 0, 1, [0], .null), (.getfield 18, 3, [3, 1, 0, 179], .null), (.aload_n 0, 1, [0], .null), (.getfield 12, 3, [3, 0, 2, 178], .null), (.getfield 22, 3, [6, 1, 0, 75], .null), (.if_icmp .ge 23, 3, [34, 0], .null), (.aload_n 0, 1, [0], .null), (.getfield 12, 3, [3, 0, 2, 178], .null), (.getfield 25, 3, [6, 0, 2, 72], .null), (.aload_n 0, 1, [0], .null), (.getfield 18, 3, [3, 1, 0, 179], .null), (.caload, 1, [], .null), (.iload_n 1, 1, [1], .null), (.if_icmp .ne 7, 3, [34, 0], .null), (.iconst 1, 1, [], .int 1), (.goto 4, 3, [35, 0], .null)]),
  (34, [(.iconst 0, 1, [], .int 0), (.nop, 0, [35, 0], .null)]),
  (35, [(.istore_n 2, 1, [2], .null), (.aload_n 0, 1, [0], .null), (.dup, 1, [], .null), (.getfield 18, 3, [3, 1, 0, 179], .null), (.iload_n 2, 1, [2], .null), (.ifCond .eq 7, 3, [49, 2], .null), (.iconst 1, 1, [], .int 1), (.goto 4, 3, [50, 2], .null)]),
  (49, [(.iconst 0, 1, [], .int 0), (.nop, 0, [50, 2], .null)]),
  (50, [(.iadd, 1, [], .null), (.putfield 18, 3, [3, 1, 0, 179], .null), (.iload_n 2, 1, [2], .null), (.ireturn, 1, [3], .null)])], [[]], [0, 1])
def k_Reader_acceptFrom : aK := ([(0, [(.aload_n 0, 1, [0], .null), (.getfield 18, 3, [3, 1, 0, 179], .null), (.aload_n 0, 1, [0], .null), (.getfield 12, 3, [3, 0, 2, 178], .null), (.getfield 22, 3, [6, 1, 0, 75], .null), (.if_icmp .ge 39, 3, [50, 0], .null), (.aload_n 0, 1, [0], .null), (.getfield 12, 3, [3, 0, 2, 178], .null), (.getfield 25, 3, [6, 0, 2, 72], .null), (.aload_n 0, 1, [0], .null), (.getfield 18, 3, [3, 1, 0, 179], .null), (.caload, 1, [], .null), (.iload_n 1, 1, [1], .null), (.if_icmp .lt 23, 3, [50, 0], .null), (.aload_n 0, 1, [0], .null), (.getfield 12, 3, [3, 0, 2, 178], .null), (.getfield 25, 3, [6, 0, 2, 72], .null), (.aload_n 0, 1, [0], .null), (.getfield 18, 3, [3, 1, 0, 179], .null), (.caload, 1, [], .null), (.iload_n 2, 1, [2], .null), (.if_icmp .gt 7, 3, [50, 0], .null), (.iconst 1, 1, [], .int 1), (.goto 4, 3, [51, 0], .null)]),
  (50, [(.iconst 0, 1, [], .int 0), (.nop, 0, [51, 0], .null)]),
  (51, [(.istore_n 3, 1, [3], .null), (.aload_n 0, 1, [0], .null), (.dup, 1, [], .null), (.getfield 18, 3, [3, 1, 0, 179], .null), (.iload_n 3, 1, [3], .null), (.ifCond .eq 7, 3, [65, 3], .null), (.iconst 1, 1, [], .int 1), (.goto 4, 3, [66, 3], .null)]),
  (65, [(.iconst 0, 1, [], .int 0), (.nop, 0, [66, 3], .null)]),
  (66, [(.iadd, 1, [], .null), (.putfield 18, 3, [3, 1, 0, 179], .null), (.iload_n 3, 1, [3], .null), (.ireturn, 1, [3], .null)])], [[]], [0, 1, 2])
def k_Reader_next : aK := ([(0, [(.aload_n 0, 1, [0], .null), (.getfield 18, 3, [3, 1, 0, 179], .null), (.aload_n 0, 1, [0], .null), (.getfield 12, 3, [3, 0, 2, 178], .null), (.getfield 22, 3, [6, 1, 0, 75], .null), (.if_icmp .lt 5, 3, [16, 0], .null), (.iconst 0, 1, [], .int 0), (.ireturn, 1, [4], .null)]),
  (16, [(.aload_n 0, 1, [0], .null), (.dup, 1, [], .null), (.getfield 18, 3, [3, 1, 0, 179], .null), (.iconst 1, 1, [], .int 1), (.iadd, 1, [], .null), (.putfield 18, 3, [3, 1, 0, 179], .null), (.aload_n 0, 1, [0], .null), (.getfield 12, 3, [3, 0, 2, 178], .null), (.getfield 25, 3, [6, 0, 2, 72], .null), (.aload_n 0, 1, [0], .null), (.getfield 18, 3, [3, 1, 0, 179], .null), (.iconst 1, 1, [], .int 1), (.isub, 1, [], .null), (.caload, 1, [], .null), (.ireturn, 1, [4], .null)])], [[]], [0])
def k_Reader_skipPast : aK := ([(0, [(.iconst 0, 1, [], .int 0), (.istore_n 2, 1, [2], .null), (.nop, 0, [2, 0, 1, 2], .null)]),
  (2, [(.iload_n 2, 1, [2], .null), (.bipush 60, 2, [], .int 60), (.if_icmp .ge 18, 3, [23], .null), (.aload_n 0, 1, [0], .null), (.invokevirtual 29, 3, [28, 1, 0, 0, 3, 660, 602, 603, 34], .null), (.iload_n 1, 1, [1], .null), (.if_icmp .ne 4, 3, [17, 0, 1, 2], .null), (.return_, 1, [], .null)]),
  (17, [(.iinc 2 1, 3, [2], .int 1), (.goto (-18), 3, [2, 0, 1, 2], .null)]),
  (23, [(.return_, 1, [], .null)])], [[]], [0, 1])
def k_Row_init : aK := ([(0, [(.aload_n 0, 1, [0], .null), (.invokespecial 1, 3, [1002, 97, 56, 57], .null), (.aload_n 0, 1, [0], .null), (.iload_n 1, 1, [1], .null), (.newarray .long, 2, [11, 108], .null), (.putfield 7, 3, [4, 0, 2, 98], .null), (.return_, 1, [], .null)])], [[]], [0, 1])
def k_Row_put : aK := ([(0, [(.aload_n 0, 1, [0], .null), (.getfield 13, 3, [4, 1, 0, 99], .null), (.aload_n 0, 1, [0], .null), (.getfield 7, 3, [4, 0, 2, 98], .null), (.arraylength, 1, [11], .null), (.if_icmp .ge 23, 3, [32], .null), (.aload_n 0, 1, [0], .null), (.getfield 7, 3, [4, 0, 2, 98], .null), (.aload_n 0, 1, [0], .null), (.getfield 13, 3, [4, 1, 0, 99], .null), (.lload_n 1, 1, [1], .null), (.lastore, 1, [], .null), (.aload_n 0, 1, [0], .null), (.dup, 1, [], .null), (.getfield 13, 3, [4, 1, 0, 99], .null), (.iconst 1, 1, [], .int 1), (.iadd, 1, [], .null), (.putfield 13, 3, [4, 1, 0, 99], .null), (.nop, 0, [32], .null)]),
  (32, [(.return_, 1, [], .null)])], [[]], [0, 1])
def k_Row_at : aK := ([(0, [(.iload_n 1, 1, [1], .null), (.ifCond .lt 11, 3, [12], .null), (.iload_n 1, 1, [1], .null), (.aload_n 0, 1, [0], .null), (.getfield 13, 3, [4, 1, 0, 99], .null), (.if_icmp .lt 7, 3, [16, 0, 1], .null), (.nop, 0, [12], .null)]),
  (12, [(.lconst 0, 1, [], .long 0), (.goto 9, 3, [22], .null)]),
  (16, [(.aload_n 0, 1, [0], .null), (.getfield 7, 3, [4, 0, 2, 98], .null), (.iload_n 1, 1, [1], .null), (.laload, 1, [], .null), (.nop, 0, [22], .null)]),
  (22, [(.lreturn, 1, [], .null)])], [[]], [0, 1])
def k_Row_take : aK := ([(0, [(.iload_n 1, 1, [1], .null), (.ifCond .lt 11, 3, [12], .null), (.iload_n 1, 1, [1], .null), (.aload_n 0, 1, [0], .null), (.getfield 13, 3, [4, 1, 0, 99], .null), (.if_icmp .lt 4, 3, [13, 0, 1], .null), (.nop, 0, [12], .null)]),
  (12, [(.return_, 1, [], .null)]),
  (13, [(.iload_n 1, 1, [1], .null), (.iconst 1, 1, [], .int 1), (.iadd, 1, [], .null), (.istore_n 2, 1, [2], .null), (.nop, 0, [17, 0, 2], .null)]),
  (17, [(.iload_n 2, 1, [2], .null), (.aload_n 0, 1, [0], .null), (.getfield 13, 3, [4, 1, 0, 99], .null), (.if_icmp .ge 23, 3, [45, 0], .null), (.aload_n 0, 1, [0], .null), (.getfield 7, 3, [4, 0, 2, 98], .null), (.iload_n 2, 1, [2], .null), (.iconst 1, 1, [], .int 1), (.isub, 1, [], .null), (.aload_n 0, 1, [0], .null), (.getfield 7, 3, [4, 0, 2, 98], .null), (.iload_n 2, 1, [2], .null), (.laload, 1, [], .null), (.lastore, 1, [], .null), (.iinc 2 1, 3, [2], .int 1), (.goto (-25), 3, [17, 0, 2], .null)]),
  (45, [(.aload_n 0, 1, [0], .null), (.dup, 1, [], .null), (.getfield 13, 3, [4, 1, 0, 99], .null), (.iconst 1, 1, [], .int 1), (.isub, 1, [], .null), (.putfield 13, 3, [4, 1, 0, 99], .null), (.return_, 1, [], .null)])], [[]], [0, 1])
def k_Stepper_init : aK := ([(0, [(.aload_n 0, 1, [0], .null), (.invokespecial 3, 3, [1002, 195, 56, 57], .null), (.aload_n 0, 1, [0], .null), (.aload_n 1, 1, [1], .null), (.putfield 9, 3, [5, 0, 2, 220], .null), (.aload_n 0, 1, [0], .null), (.new 15, 3, [1, 0, 196, 197, 36], .null), (.dup, 1, [], .null), (.invokespecial 17, 3, [3, 1, 9, 0, 198, 199, 36], .null), (.putfield 18, 3, [5, 1, 2, 221], .null), (.return_, 1, [], .null)])], [[]], [0, 1])
def k_Stepper_find : aK := ([(0, [(.aload_n 0, 1, [0], .null), (.iload_n 1, 1, [1], .null), (.putfield 22, 3, [5, 2, 0, 222], .null), (.aload_n 0, 1, [0], .null), (.getfield 9, 3, [5, 0, 2, 220], .null), (.getfield 26, 3, [7, 2, 2, 152], .null), (.iload_n 1, 1, [1], .null), (.aaload, 1, [15], .null), (.getfield 32, 3, [0, 1, 2, 113], .null), (.astore_n 2, 1, [2], .null), (.iconst 0, 1, [], .int 0), (.istore_n 3, 1, [3], .null), (.nop, 0, [20, 0, 2, 3], .null)]),
  (20, [(.iload_n 3, 1, [3], .null), (.aload_n 2, 1, [2], .null), (.getfield 38, 3, [4, 1, 0, 100], .null), (.if_icmp .ge 33, 3, [58], .null), (.aload_n 0, 1, [0], .null), (.aload_n 2, 1, [2], .null), (.iload_n 3, 1, [3], .null), (.invokevirtual 43, 3, [32, 2, 1, 0, 4, 586, 536, 537, 32], .null), (.invokevirtual 47, 3, [36, 2, 0, 0, 5, 587, 588, 589, 35], .null), (.istore 4, 2, [4], .null), (.iload 4, 2, [4], .null), (.ifCond .lt 11, 3, [52, 0, 2, 3], .null), (.iload_n 3, 1, [3], .null), (.bipush 100, 2, [], .int 100), (.imul, 1, [], .null), (.iload 4, 2, [4], .null), (.iadd, 1, [], .null), (.ireturn, 1, [0], .null)]),
  (52, [(.iinc 3 1, 3, [3], .int 1), (.goto (-35), 3, [20, 0, 2, 3], .null)]),
  (58, [(.iconst (-1), 1, [], .int (-1)), (.ireturn, 1, [0], .null)])], [[]], [0, 1])
def k_Stepper_findClause : aK := ([(0, [(.aload_n 0, 1, [0], .null), (.getfield 9, 3, [5, 0, 2, 220], .null), (.getfield 26, 3, [7, 2, 2, 152], .null), (.aload_n 0, 1, [0], .null), (.getfield 22, 3, [5, 2, 0, 222], .null), (.aaload, 1, [15], .null), (.astore_n 3, 1, [3], .null), (.aload_n 0, 1, [0], .null), (.getfield 18, 3, [5, 1, 2, 221], .null), (.getfield 51, 3, [1, 0, 2, 205], .null), (.aload_n 3, 1, [3], .null), (.getfield 55, 3, [0, 0, 2, 110], .null), (.invokevirtual 59, 3, [23, 2, 9, 0, 3, 591, 374, 375, 34], .null), (.iconst 0, 1, [], .int 0), (.istore 4, 2, [4], .null), (.nop, 0, [30, 0, 1, 3, 4], .null)]),
  (30, [(.iload 4, 2, [4], .null), (.bipush 60, 2, [], .int 60), (.if_icmp .ge 74, 3, [108], .null), (.aload_n 0, 1, [0], .null), (.getfield 18, 3, [5, 1, 2, 221], .null), (.getfield 51, 3, [1, 0, 2, 205], .null), (.invokevirtual 65, 3, [24, 1, 0, 0, 3, 592, 378, 379, 34], .null), (.ifCond .ne 61, 3, [108], .null), (.aload_n 0, 1, [0], .null), (.getfield 18, 3, [5, 1, 2, 221], .null), (.aload_n 0, 1, [0], .null), (.getfield 22, 3, [5, 2, 0, 222], .null), (.aload_n 3, 1, [3], .null), (.getfield 69, 3, [0, 3, 1, 119], .null), (.invokevirtual 73, 3, [4, 3, 9, 0, 1, 593, 594, 595, 36], .null), (.aload_n 0, 1, [0], .null), (.getfield 18, 3, [5, 1, 2, 221], .null), (.lload_n 1, 1, [1], .null), (.iconst 0, 1, [], .int 0), (.invokevirtual 77, 3, [5, 3, 0, 0, 1, 597, 598, 599, 36], .null), (.ifCond .eq 16, 3, [90, 0, 1, 3, 4], .null), (.aload_n 0, 1, [0], .null), (.getfield 18, 3, [5, 1, 2, 221], .null), (.invokevirtual 81, 3, [8, 1, 0, 0, 1, 627, 628, 629, 36], .null), (.ifCond .eq 6, 3, [90, 0, 1, 3, 4], .null), (.iload 4, 2, [4], .null), (.ireturn, 1, [0], .null)]),
  (90, [(.aload_n 0, 1, [0], .null), (.getfield 18, 3, [5, 1, 2, 221], .null), (.getfield 51, 3, [1, 0, 2, 205], .null), (.bipush 59, 2, [], .int 59), (.invokevirtual 84, 3, [29, 2, 9, 0, 3, 656, 657, 658, 34], .null), (.iinc 4 1, 3, [4], .int 1), (.goto (-75), 3, [30, 0, 1, 3, 4], .null)]),
  (108, [(.iconst (-1), 1, [], .int (-1)), (.ireturn, 1, [0], .null)])], [[]], [0, 1])
def k_Stepper_perform : aK := ([(0, [(.aload_n 0, 1, [0], .null), (.getfield 9, 3, [5, 0, 2, 220], .null), (.getfield 26, 3, [7, 2, 2, 152], .null), (.aload_n 0, 1, [0], .null), (.getfield 22, 3, [5, 2, 0, 222], .null), (.aaload, 1, [15], .null), (.astore_n 2, 1, [2], .null), (.aload_n 2, 1, [2], .null), (.getfield 32, 3, [0, 1, 2, 113], .null), (.iload_n 1, 1, [1], .null), (.invokevirtual 88, 3, [33, 2, 9, 0, 4, 666, 545, 546, 32], .null), (.aload_n 0, 1, [0], .null), (.aload_n 2, 1, [2], .null), (.getfield 69, 3, [0, 3, 1, 119], .null), (.putfield 92, 3, [5, 3, 1, 223], .null), (.aload_n 0, 1, [0], .null), (.sipush (-5000), 3, [], .int (-5000)), (.putfield 95, 3, [5, 4, 0, 224], .null), (.aload_n 0, 1, [0], .null), (.getfield 18, 3, [5, 1, 2, 221], .null), (.getfield 51, 3, [1, 0, 2, 205], .null), (.bipush 58, 2, [], .int 58), (.invokevirtual 98, 3, [26, 2, 0, 0, 3, 667, 390, 391, 34], .null), (.pop, 1, [], .null), (.iconst 0, 1, [], .int 0), (.istore_n 3, 1, [3], .null), (.nop, 0, [51, 0, 2, 3], .null)]),
  (51, [(.iload_n 3, 1, [3], .null), (.bipush 60, 2, [], .int 60), (.if_icmp .ge 82, 3, [136, 0, 2], .null), (.aload_n 0, 1, [0], .null), (.getfield 95, 3, [5, 4, 0, 224], .null), (.sipush (-5000), 3, [], .int (-5000)), (.if_icmp .ne 72, 3, [136, 0, 2], .null), (.aload_n 0, 1, [0], .null), (.getfield 18, 3, [5, 1, 2, 221], .null), (.getfield 51, 3, [1, 0, 2, 205], .null), (.bipush 59, 2, [], .int 59), (.invokevirtual 98, 3, [26, 2, 0, 0, 3, 667, 390, 391, 34], .null), (.ifCond .ne 57, 3, [136, 0, 2], .null), (.aload_n 0, 1, [0], .null), (.aload_n 0, 1, [0], .null), (.getfield 18, 3, [5, 1, 2, 221], .null), (.getfield 51, 3, [1, 0, 2, 205], .null), (.invokevirtual 102, 3, [28, 1, 0, 0, 3, 668, 602, 603, 34], .null), (.invokevirtual 106, 3, [38, 2, 9, 0, 5, 669, 670, 671, 35], .null), (.aload_n 0, 1, [0], .null), (.getfield 18, 3, [5, 1, 2, 221], .null), (.getfield 109, 3, [1, 3, 0, 210], .null), (.ifCond .eq 27, 3, [130, 0, 2, 3], .null), (.aload_n 0, 1, [0], .null), (.aload_n 0, 1, [0], .null), (.getfield 18, 3, [5, 1, 2, 221], .null), (.getfield 109, 3, [1, 3, 0, 210], .null), (.iconst 1, 1, [], .int 1), (.if_icmp .ne 9, 3, [124, 0, 2, 3], .null), (.sipush 2005, 3, [], .int 2005), (.goto 6, 3, [127, 0, 2, 3], .null)]),
  (124, [(.sipush 2003, 3, [], .int 2003), (.nop, 0, [127, 0, 2, 3], .null)]),
  (127, [(.putfield 95, 3, [5, 4, 0, 224], .null), (.nop, 0, [130, 0, 2, 3], .null)]),
  (130, [(.iinc 3 1, 3, [3], .int 1), (.goto (-82), 3, [51, 0, 2, 3], .null)]),
  (136, [(.aload_n 0, 1, [0], .null), (.getfield 95, 3, [5, 4, 0, 224], .null), (.sipush (-5000), 3, [], .int (-5000)), (.if_icmp .ne 14, 3, [157, 0], .null), (.aload_n 2, 1, [2], .null), (.aload_n 0, 1, [0], .null), (.getfield 92, 3, [5, 3, 1, 223], .null), (.putfield 69, 3, [0, 3, 1, 119], .null), (.goto 18, 3, [172, 0], .null)]),
  (157, [(.aload_n 0, 1, [0], .null), (.getfield 9, 3, [5, 0, 2, 220], .null), (.aload_n 0, 1, [0], .null), (.getfield 22, 3, [5, 2, 0, 222], .null), (.aload_n 0, 1, [0], .null), (.getfield 95, 3, [5, 4, 0, 224], .null), (.invokevirtual 112, 3, [63, 3, 9, 0, 7, 701, 556, 557, 29], .null), (.nop, 0, [172, 0], .null)]),
  (172, [(.aload_n 0, 1, [0], .null), (.getfield 18, 3, [5, 1, 2, 221], .null), (.getfield 109, 3, [1, 3, 0, 210], .null), (.ireturn, 1, [0], .null)])], [[]], [0, 1])
def k_Stepper_act : aK := ([(0, [(.iload_n 1, 1, [1], .null), (.bipush 33, 2, [], .int 33), (.if_icmp .ne 10, 3, [13, 0, 1], .null), (.aload_n 0, 1, [0], .null), (.invokevirtual 116, 3, [39, 1, 9, 0, 5, 673, 674, 675, 35], .null), (.goto 81, 3, [91], .null)]),
  (13, [(.iload_n 1, 1, [1], .null), (.bipush 64, 2, [], .int 64), (.if_icmp .ne 10, 3, [26, 0, 1], .null), (.aload_n 0, 1, [0], .null), (.invokevirtual 119, 3, [40, 1, 9, 0, 5, 686, 687, 688, 35], .null), (.goto 68, 3, [91], .null)]),
  (26, [(.iload_n 1, 1, [1], .null), (.bipush 42, 2, [], .int 42), (.if_icmp .ne 41, 3, [70, 0, 1], .null), (.aload_n 0, 1, [0], .null), (.getfield 9, 3, [5, 0, 2, 220], .null), (.getfield 26, 3, [7, 2, 2, 152], .null), (.aload_n 0, 1, [0], .null), (.getfield 22, 3, [5, 2, 0, 222], .null), (.aaload, 1, [15], .null), (.aload_n 0, 1, [0], .null), (.getfield 18, 3, [5, 1, 2, 221], .null), (.getfield 51, 3, [1, 0, 2, 205], .null), (.invokevirtual 102, 3, [28, 1, 0, 0, 3, 668, 602, 603, 34], .null), (.bipush 49, 2, [], .int 49), (.if_icmp .ne 7, 3, [63], .null), (.iconst 1, 1, [], .int 1), (.goto 4, 3, [64], .null)]),
  (63, [(.iconst 0, 1, [], .int 0), (.nop, 0, [64], .null)]),
  (64, [(.putfield 122, 3, [0, 4, 3, 122], .null), (.goto 24, 3, [91], .null)]),
  (70, [(.aload_n 0, 1, [0], .null), (.getfield 18, 3, [5, 1, 2, 221], .null), (.iconst 0, 1, [], .int 0), (.invokevirtual 126, 3, [9, 2, 1, 0, 1, 677, 632, 633, 36], .null), (.lstore_n 2, 1, [2], .null), (.lload_n 2, 1, [2], .null), (.lconst 0, 1, [], .long 0), (.lcmp, 1, [], .null), (.ifCond .eq 9, 3, [91], .null), (.aload_n 0, 1, [0], .null), (.iload_n 1, 1, [1], .null), (.lload_n 2, 1, [2], .null), (.invokevirtual 131, 3, [41, 3, 9, 0, 5, 697, 698, 699, 35], .null), (.nop, 0, [91], .null)]),
  (91, [(.return_, 1, [], .null)])], [[]], [0, 1])
def k_Stepper_putUnderWay : aK := ([(0, [(.aload_n 0, 1, [0], .null), (.getfield 18, 3, [5, 1, 2, 221], .null), (.iconst 0, 1, [], .int 0), (.invokevirtual 126, 3, [9, 2, 1, 0, 1, 677, 632, 633, 36], .null), (.lstore_n 1, 1, [1], .null), (.lload_n 1, 1, [1], .null), (.lconst 0, 1, [], .long 0), (.lcmp, 1, [], .null), (.ifCond .ne 4, 3, [16, 0, 1], .null), (.return_, 1, [], .null)]),
  (16, [(.aload_n 0, 1, [0], .null), (.getfield 18, 3, [5, 1, 2, 221], .null), (.iconst 0, 1, [], .int 0), (.invokevirtual 126, 3, [9, 2, 1, 0, 1, 677, 632, 633, 36], .null), (.lstore_n 3, 1, [3], .null), (.lload_n 3, 1, [3], .null), (.lconst 0, 1, [], .long 0), (.lcmp, 1, [], .null), (.ifCond .ne 4, 3, [32, 0, 1, 3], .null), (.return_, 1, [], .null)]),
  (32, [(.lload_n 1, 1, [1], .null), (.invokestatic 139, 3, [55, 1, 0, 0, 678, 679, 44], .null), (.ifCond .ne 13, 3, [49, 0, 1, 3], .null), (.aload_n 0, 1, [0], .null), (.getfield 18, 3, [5, 1, 2, 221], .null), (.iconst 1, 1, [], .int 1), (.invokevirtual 146, 3, [11, 2, 1, 0, 1, 682, 640, 641, 36], .null), (.pop2, 1, [], .null), (.return_, 1, [], .null)]),
  (49, [(.aload_n 0, 1, [0], .null), (.getfield 9, 3, [5, 0, 2, 220], .null), (.aload_n 0, 1, [0], .null), (.getfield 22, 3, [5, 2, 0, 222], .null), (.lload_n 1, 1, [1], .null), (.iconst 0, 1, [], .int 0), (.invokestatic 135, 3, [48, 2, 0, 0, 683, 549, 44], .null), (.sipush 3000, 3, [], .int 3000), (.isub, 1, [], .null), (.invokevirtual 149, 3, [62, 3, 2, 0, 7, 684, 482, 483, 29], .null), (.astore 5, 2, [5], .null), (.aload 5, 2, [5], .null), (.getfield 38, 3, [4, 1, 0, 100], .null), (.iconst 4, 1, [], .int 4), (.if_icmp .lt 13, 3, [90, 3, 5], .null), (.aload_n 0, 1, [0], .null), (.getfield 18, 3, [5, 1, 2, 221], .null), (.iconst 1, 1, [], .int 1), (.invokevirtual 146, 3, [11, 2, 1, 0, 1, 682, 640, 641, 36], .null), (.pop2, 1, [], .null), (.return_, 1, [], .null)]),
  (90, [(.aload 5, 2, [5], .null), (.lload_n 3, 1, [3], .null), (.invokevirtual 153, 3, [31, 2, 9, 0, 4, 685, 508, 509, 32], .null), (.return_, 1, [], .null)])], [[]], [0])
def k_Stepper_makeLinked : aK := ([(0, [(.aload_n 0, 1, [0], .null), (.getfield 18, 3, [5, 1, 2, 221], .null), (.getfield 51, 3, [1, 0, 2, 205], .null), (.invokevirtual 102, 3, [28, 1, 0, 0, 3, 668, 602, 603, 34], .null), (.bipush 48, 2, [], .int 48), (.isub, 1, [], .null), (.istore_n 1, 1, [1], .null), (.aload_n 0, 1, [0], .null), (.getfield 18, 3, [5, 1, 2, 221], .null), (.getfield 51, 3, [1, 0, 2, 205], .null), (.invokevirtual 102, 3, [28, 1, 0, 0, 3, 668, 602, 603, 34], .null), (.invokestatic 157, 3, [6, 1, 0, 0, 690, 620, 36], .null), (.istore_n 2, 1, [2], .null), (.iload_n 1, 1, [1], .null), (.ifCond .lt 12, 3, [41, 0], .null), (.iload_n 1, 1, [1], .null), (.iconst 3, 1, [], .int 3), (.if_icmp .ge 7, 3, [41, 0], .null), (.iload_n 2, 1, [2], .null), (.ifCond .ge 13, 3, [51, 0, 1, 2], .null), (.nop, 0, [41, 0], .null)]),
  (41, [(.aload_n 0, 1, [0], .null), (.getfield 18, 3, [5, 1, 2, 221], .null), (.iconst 1, 1, [], .int 1), (.invokevirtual 146, 3, [11, 2, 1, 0, 1, 682, 640, 641, 36], .null), (.pop2, 1, [], .null), (.return_, 1, [], .null)]),
  (51, [(.aload_n 0, 1, [0], .null), (.getfield 9, 3, [5, 0, 2, 220], .null), (.iload_n 1, 1, [1], .null), (.iconst 0, 1, [], .int 0), (.invokestatic 161, 3, [42, 1, 1, 0, 691, 456, 44], .null), (.invokevirtual 164, 3, [61, 3, 0, 0, 7, 692, 459, 460, 29], .null), (.istore_n 3, 1, [3], .null), (.iload_n 3, 1, [3], .null), (.ifCond .ge 13, 3, [78, 0, 2, 3], .null), (.aload_n 0, 1, [0], .null), (.getfield 18, 3, [5, 1, 2, 221], .null), (.iconst 1, 1, [], .int 1), (.invokevirtual 146, 3, [11, 2, 1, 0, 1, 682, 640, 641, 36], .null), (.pop2, 1, [], .null), (.return_, 1, [], .null)]),
  (78, [(.aload_n 0, 1, [0], .null), (.getfield 9, 3, [5, 0, 2, 220], .null), (.aload_n 0, 1, [0], .null), (.getfield 22, 3, [5, 2, 0, 222], .null), (.iload_n 3, 1, [3], .null), (.invokevirtual 143, 3, [64, 3, 9, 0, 7, 693, 694, 695, 29], .null), (.aload_n 0, 1, [0], .null), (.getfield 18, 3, [5, 1, 2, 221], .null), (.getfield 168, 3, [1, 1, 2, 207], .null), (.iload_n 2, 1, [2], .null), (.sipush 3000, 3, [], .int 3000), (.iload_n 3, 1, [3], .null), (.iadd, 1, [], .null), (.invokestatic 161, 3, [42, 1, 1, 0, 691, 456, 44], .null), (.lastore, 1, [], .null), (.return_, 1, [], .null)])], [[]], [0])
def k_Stepper_use : aK := ([(0, [(.iload_n 1, 1, [1], .null), (.bipush 126, 2, [], .int 126), (.if_icmp .ne 11, 3, [14, 0, 1, 2], .null), (.aload_n 0, 1, [0], .null), (.lload_n 2, 1, [2], .null), (.putfield 92, 3, [5, 3, 1, 223], .null), (.goto 60, 3, [71], .null)]),
  (14, [(.iload_n 1, 1, [1], .null), (.bipush 36, 2, [], .int 36), (.if_icmp .ne 15, 3, [32, 0, 2], .null), (.aload_n 0, 1, [0], .null), (.lload_n 2, 1, [2], .null), (.iconst 0, 1, [], .int 0), (.invokestatic 135, 3, [48, 2, 0, 0, 683, 549, 44], .null), (.putfield 95, 3, [5, 4, 0, 224], .null), (.goto 42, 3, [71], .null)]),
  (32, [(.lload_n 2, 1, [2], .null), (.invokestatic 139, 3, [55, 1, 0, 0, 678, 679, 44], .null), (.ifCond .eq 26, 3, [62, 0], .null), (.aload_n 0, 1, [0], .null), (.getfield 9, 3, [5, 0, 2, 220], .null), (.aload_n 0, 1, [0], .null), (.getfield 22, 3, [5, 2, 0, 222], .null), (.lload_n 2, 1, [2], .null), (.iconst 0, 1, [], .int 0), (.invokestatic 135, 3, [48, 2, 0, 0, 683, 549, 44], .null), (.sipush 3000, 3, [], .int 3000), (.isub, 1, [], .null), (.invokevirtual 143, 3, [64, 3, 9, 0, 7, 693, 694, 695, 29], .null), (.goto 12, 3, [71], .null)]),
  (62, [(.aload_n 0, 1, [0], .null), (.getfield 18, 3, [5, 1, 2, 221], .null), (.iconst 1, 1, [], .int 1), (.invokevirtual 146, 3, [11, 2, 1, 0, 1, 682, 640, 641, 36], .null), (.pop2, 1, [], .null), (.nop, 0, [71], .null)]),
  (71, [(.return_, 1, [], .null)])], [[]], [0, 1, 2])
def k_Term_ofLeaf : aK := ([(0, [(.iload_n 0, 1, [0], .null), (.sipush 1000, 3, [], .int 1000), (.iadd, 1, [], .null), (.i2l, 1, [], .null), (.lreturn, 1, [], .null)])], [[]], [0])
def k_Term_pair : aK := ([(0, [(.lload_n 0, 1, [0], .null), (.invokestatic 23, 3, [44, 1, 0, 0, 492, 493, 44], .null), (.istore 4, 2, [4], .null), (.lload_n 2, 1, [2], .null), (.invokestatic 23, 3, [44, 1, 0, 0, 492, 493, 44], .null), (.istore 5, 2, [5], .null), (.iload 4, 2, [4], .null), (.iload 5, 2, [5], .null), (.iadd, 1, [], .null), (.iconst 4, 1, [], .int 4), (.if_icmp .le 5, 3, [23, 0, 2, 4, 5], .null), (.lconst 0, 1, [], .long 0), (.lreturn, 1, [], .null)]),
  (23, [(.lload_n 0, 1, [0], .null), (.invokestatic 27, 3, [45, 1, 0, 0, 496, 497, 44], .null), (.getstatic 30, 3, [2, 499], .null), (.iload 4, 2, [4], .null), (.iaload, 1, [], .null), (.iadd, 1, [], .null), (.istore 6, 2, [6], .null), (.lload_n 2, 1, [2], .null), (.invokestatic 27, 3, [45, 1, 0, 0, 496, 497, 44], .null), (.getstatic 30, 3, [2, 499], .null), (.iload 5, 2, [5], .null), (.iaload, 1, [], .null), (.iadd, 1, [], .null), (.istore 7, 2, [7], .null), (.lload_n 0, 1, [0], .null), (.ldc2_w 34, 3, [501], .long 281474976710655), (.land, 1, [], .null), (.lload_n 2, 1, [2], .null), (.ldc2_w 34, 3, [501], .long 281474976710655), (.land, 1, [], .null), (.iload 4, 2, [4], .null), (.bipush 12, 2, [], .int 12), (.imul, 1, [], .null), (.lshl, 1, [], .null), (.lor, 1, [], .null), (.lstore 8, 2, [8], .null), (.lload 8, 2, [8], .null), (.iload 6, 2, [6], .null), (.getstatic 36, 3, [1, 502], .null), (.iload 5, 2, [5], .null), (.iaload, 1, [], .null), (.imul, 1, [], .null), (.iload 7, 2, [7], .null), (.iadd, 1, [], .null), (.invokestatic 39, 3, [46, 2, 1, 0, 504, 505, 44], .null), (.lreturn, 1, [], .null)])], [[]], [0, 2])
def k_Term_countLeaves : aK := ([(0, [(.iconst 0, 1, [], .int 0), (.istore_n 2, 1, [2], .null), (.iconst 0, 1, [], .int 0), (.istore_n 3, 1, [3], .null), (.nop, 0, [4, 0, 2, 3], .null)]),
  (4, [(.iload_n 3, 1, [3], .null), (.iconst 4, 1, [], .int 4), (.if_icmp .ge 32, 3, [38, 2], .null), (.iload_n 2, 1, [2], .null), (.lload_n 0, 1, [0], .null), (.iload_n 3, 1, [3], .null), (.bipush 12, 2, [], .int 12), (.imul, 1, [], .null), (.lushr, 1, [], .null), (.ldc2_w 17, 3, [495], .long 4095), (.land, 1, [], .null), (.lconst 0, 1, [], .long 0), (.lcmp, 1, [], .null), (.ifCond .ne 7, 3, [29, 0, 3], .null), (.iconst 0, 1, [], .int 0), (.goto 4, 3, [30, 0, 3], .null)]),
  (29, [(.iconst 1, 1, [], .int 1), (.nop, 0, [30, 0, 3], .null)]),
  (30, [(.iadd, 1, [], .null), (.istore_n 2, 1, [2], .null), (.iinc 3 1, 3, [3], .int 1), (.goto (-31), 3, [4, 0, 2, 3], .null)]),
  (38, [(.iload_n 2, 1, [2], .null), (.ireturn, 1, [0], .null)])], [[]], [0])
def k_Term_shapeOf : aK := ([(0, [(.lload_n 0, 1, [0], .null), (.bipush 48, 2, [], .int 48), (.lushr, 1, [], .null), (.l2i, 1, [], .null), (.sipush 4095, 3, [], .int 4095), (.iand, 1, [], .null), (.ireturn, 1, [0], .null)])], [[]], [0])
def k_Term_build : aK := ([(0, [(.lload_n 0, 1, [0], .null), (.iload_n 2, 1, [2], .null), (.i2l, 1, [], .null), (.bipush 48, 2, [], .int 48), (.lshl, 1, [], .null), (.lor, 1, [], .null), (.lreturn, 1, [], .null)])], [[]], [0, 2])
def k_Term_isSignal : aK := ([(0, [(.lload_n 0, 1, [0], .null), (.ldc2_w 11, 3, [542], .long 4611686018427387904), (.land, 1, [], .null), (.lconst 0, 1, [], .long 0), (.lcmp, 1, [], .null), (.ifCond .eq 7, 3, [14], .null), (.iconst 1, 1, [], .int 1), (.goto 4, 3, [15], .null)]),
  (14, [(.iconst 0, 1, [], .int 0), (.nop, 0, [15], .null)]),
  (15, [(.ireturn, 1, [3], .null)])], [[]], [0])
def k_Term_leafAt : aK := ([(0, [(.lload_n 0, 1, [0], .null), (.iload_n 2, 1, [2], .null), (.bipush 12, 2, [], .int 12), (.imul, 1, [], .null), (.lushr, 1, [], .null), (.l2i, 1, [], .null), (.sipush 4095, 3, [], .int 4095), (.iand, 1, [], .null), (.istore_n 3, 1, [3], .null), (.iload_n 3, 1, [3], .null), (.ifCond .ne 9, 3, [22, 3], .null), (.sipush (-5000), 3, [], .int (-5000)), (.goto 8, 3, [27], .null)]),
  (22, [(.iload_n 3, 1, [3], .null), (.sipush 1000, 3, [], .int 1000), (.isub, 1, [], .null), (.nop, 0, [27], .null)]),
  (27, [(.ireturn, 1, [0], .null)])], [[]], [0, 2])
def k_Term_signal : aK := ([(0, [(.ldc2_w 11, 3, [542], .long 4611686018427387904), (.iload_n 0, 1, [0], .null), (.invokestatic 13, 3, [42, 1, 1, 0, 567, 456, 44], .null), (.lor, 1, [], .null), (.lreturn, 1, [], .null)])], [[]], [0])
def k_Term_isPair : aK := ([(0, [(.lload_n 0, 1, [0], .null), (.ldc2_w 17, 3, [495], .long 4095), (.lcmp, 1, [], .null), (.ifCond .le 7, 3, [12], .null), (.iconst 1, 1, [], .int 1), (.goto 4, 3, [13], .null)]),
  (12, [(.iconst 0, 1, [], .int 0), (.nop, 0, [13], .null)]),
  (13, [(.ireturn, 1, [3], .null)])], [[]], [0])
def k_Term_left : aK := ([(0, [(.lload_n 0, 1, [0], .null), (.invokestatic 43, 3, [52, 1, 0, 0, 611, 612, 44], .null), (.istore_n 2, 1, [2], .null), (.lload_n 0, 1, [0], .null), (.invokestatic 23, 3, [44, 1, 0, 0, 492, 493, 44], .null), (.iload_n 2, 1, [2], .null), (.isub, 1, [], .null), (.istore_n 3, 1, [3], .null), (.lload_n 0, 1, [0], .null), (.lconst 1, 1, [], .long 1), (.iload_n 2, 1, [2], .null), (.bipush 12, 2, [], .int 12), (.imul, 1, [], .null), (.lshl, 1, [], .null), (.lconst 1, 1, [], .long 1), (.lsub, 1, [], .null), (.land, 1, [], .null), (.lstore 4, 2, [4], .null), (.lload 4, 2, [4], .null), (.lload_n 0, 1, [0], .null), (.invokestatic 27, 3, [45, 1, 0, 0, 496, 497, 44], .null), (.getstatic 36, 3, [1, 502], .null), (.iload_n 3, 1, [3], .null), (.iaload, 1, [], .null), (.idiv, 1, [], .null), (.getstatic 30, 3, [2, 499], .null), (.iload_n 2, 1, [2], .null), (.iaload, 1, [], .null), (.isub, 1, [], .null), (.invokestatic 39, 3, [46, 2, 1, 0, 504, 505, 44], .null), (.lreturn, 1, [], .null)])], [[]], [0])
def k_Term_countLeftLeaves : aK := ([(0, [(.lload_n 0, 1, [0], .null), (.invokestatic 23, 3, [44, 1, 0, 0, 492, 493, 44], .null), (.istore_n 2, 1, [2], .null), (.iconst 0, 1, [], .int 0), (.istore_n 3, 1, [3], .null), (.iconst 1, 1, [], .int 1), (.istore 4, 2, [4], .null), (.nop, 0, [10, 0, 2, 3, 4], .null)]),
  (10, [(.iload 4, 2, [4], .null), (.iload_n 2, 1, [2], .null), (.if_icmp .ge 43, 3, [56, 2], .null), (.lload_n 0, 1, [0], .null), (.invokestatic 27, 3, [45, 1, 0, 0, 496, 497, 44], .null), (.getstatic 36, 3, [1, 502], .null), (.iload_n 2, 1, [2], .null), (.iload 4, 2, [4], .null), (.isub, 1, [], .null), (.iaload, 1, [], .null), (.idiv, 1, [], .null), (.bipush 10, 2, [], .int 10), (.irem, 1, [], .null), (.istore 5, 2, [5], .null), (.iload_n 3, 1, [3], .null), (.bipush 8, 2, [], .int 8), (.iload 5, 2, [5], .null), (.ishr, 1, [], .null), (.iadd, 1, [], .null), (.istore_n 3, 1, [3], .null), (.iload_n 3, 1, [3], .null), (.iconst 4, 1, [], .int 4), (.if_icmp .lt 6, 3, [50, 0, 2, 3, 4], .null), (.iload 4, 2, [4], .null), (.ireturn, 1, [0], .null)]),
  (50, [(.iinc 4 1, 3, [4], .int 1), (.goto (-43), 3, [10, 0, 2, 3, 4], .null)]),
  (56, [(.iload_n 2, 1, [2], .null), (.ireturn, 1, [0], .null)])], [[]], [0])
def k_Term_right : aK := ([(0, [(.lload_n 0, 1, [0], .null), (.invokestatic 43, 3, [52, 1, 0, 0, 611, 612, 44], .null), (.istore_n 2, 1, [2], .null), (.lload_n 0, 1, [0], .null), (.invokestatic 23, 3, [44, 1, 0, 0, 492, 493, 44], .null), (.iload_n 2, 1, [2], .null), (.isub, 1, [], .null), (.istore_n 3, 1, [3], .null), (.lload_n 0, 1, [0], .null), (.ldc2_w 34, 3, [501], .long 281474976710655), (.land, 1, [], .null), (.iload_n 2, 1, [2], .null), (.bipush 12, 2, [], .int 12), (.imul, 1, [], .null), (.lushr, 1, [], .null), (.lstore 4, 2, [4], .null), (.lload 4, 2, [4], .null), (.lload_n 0, 1, [0], .null), (.invokestatic 27, 3, [45, 1, 0, 0, 496, 497, 44], .null), (.getstatic 36, 3, [1, 502], .null), (.iload_n 3, 1, [3], .null), (.iaload, 1, [], .null), (.irem, 1, [], .null), (.getstatic 30, 3, [2, 499], .null), (.iload_n 3, 1, [3], .null), (.iaload, 1, [], .null), (.isub, 1, [], .null), (.invokestatic 39, 3, [46, 2, 1, 0, 504, 505, 44], .null), (.lreturn, 1, [], .null)])], [[]], [0])
def k_Term_isInt : aK := ([(0, [(.lload_n 0, 1, [0], .null), (.ldc2_w 19, 3, [650], .long 1999), (.lcmp, 1, [], .null), (.ifCond .gt 7, 3, [12], .null), (.iconst 1, 1, [], .int 1), (.goto 4, 3, [13], .null)]),
  (12, [(.iconst 0, 1, [], .int 0), (.nop, 0, [13], .null)]),
  (13, [(.ireturn, 1, [3], .null)])], [[]], [0])
def k_Term_isActor : aK := ([(0, [(.lload_n 0, 1, [0], .null), (.ldc2_w 21, 3, [681], .long 4000), (.lcmp, 1, [], .null), (.ifCond .lt 15, 3, [20], .null), (.lload_n 0, 1, [0], .null), (.ldc2_w 17, 3, [495], .long 4095), (.lcmp, 1, [], .null), (.ifCond .gt 7, 3, [20], .null), (.iconst 1, 1, [], .int 1), (.goto 4, 3, [21], .null)]),
  (20, [(.iconst 0, 1, [], .int 0), (.nop, 0, [21], .null)]),
  (21, [(.ireturn, 1, [3], .null)])], [[]], [0])
def k_Text_init : aK := ([(0, [(.aload_n 0, 1, [0], .null), (.invokespecial 3, 3, [1002, 70, 56, 57], .null), (.aload_n 0, 1, [0], .null), (.bipush 60, 2, [], .int 60), (.newarray .char, 2, [13, 82], .null), (.putfield 9, 3, [6, 0, 2, 71], .null), (.return_, 1, [], .null)])], [[]], [0])
def k_Text_append : aK := ([(0, [(.aload_n 0, 1, [0], .null), (.getfield 15, 3, [6, 1, 0, 73], .null), (.bipush 60, 2, [], .int 60), (.if_icmp .ge 23, 3, [29], .null), (.aload_n 0, 1, [0], .null), (.getfield 9, 3, [6, 0, 2, 71], .null), (.aload_n 0, 1, [0], .null), (.getfield 15, 3, [6, 1, 0, 73], .null), (.iload_n 1, 1, [1], .null), (.castore, 1, [], .null), (.aload_n 0, 1, [0], .null), (.dup, 1, [], .null), (.getfield 15, 3, [6, 1, 0, 73], .null), (.iconst 1, 1, [], .int 1), (.iadd, 1, [], .null), (.putfield 15, 3, [6, 1, 0, 73], .null), (.nop, 0, [29], .null)]),
  (29, [(.return_, 1, [], .null)])], [[]], [0, 1])
def k_Text_countClauses : aK := ([(0, [(.iconst 0, 1, [], .int 0), (.istore_n 1, 1, [1], .null), (.iconst 0, 1, [], .int 0), (.istore_n 2, 1, [2], .null), (.nop, 0, [4, 0, 1, 2], .null)]),
  (4, [(.iload_n 2, 1, [2], .null), (.aload_n 0, 1, [0], .null), (.getfield 15, 3, [6, 1, 0, 73], .null), (.if_icmp .ge 28, 3, [37, 1], .null), (.iload_n 1, 1, [1], .null), (.aload_n 0, 1, [0], .null), (.getfield 9, 3, [6, 0, 2, 71], .null), (.iload_n 2, 1, [2], .null), (.caload, 1, [], .null), (.bipush 59, 2, [], .int 59), (.if_icmp .ne 7, 3, [28, 0, 2], .null), (.iconst 1, 1, [], .int 1), (.goto 4, 3, [29, 0, 2], .null)]),
  (28, [(.iconst 0, 1, [], .int 0), (.nop, 0, [29, 0, 2], .null)]),
  (29, [(.iadd, 1, [], .null), (.istore_n 1, 1, [1], .null), (.iinc 2 1, 3, [2], .int 1), (.goto (-30), 3, [4, 0, 1, 2], .null)]),
  (37, [(.iload_n 1, 1, [1], .null), (.ireturn, 1, [0], .null)])], [[]], [0])
def k_Text_copyFrom : aK := ([(0, [(.aload_n 1, 1, [1], .null), (.getfield 9, 3, [6, 0, 2, 71], .null), (.iconst 0, 1, [], .int 0), (.aload_n 0, 1, [0], .null), (.getfield 9, 3, [6, 0, 2, 71], .null), (.iconst 0, 1, [], .int 0), (.bipush 60, 2, [], .int 60), (.invokestatic 19, 3, [1001, 470, 471, 472, 45], .null), (.aload_n 0, 1, [0], .null), (.aload_n 1, 1, [1], .null), (.getfield 15, 3, [6, 1, 0, 73], .null), (.putfield 15, 3, [6, 1, 0, 73], .null), (.return_, 1, [], .null)])], [[]], [0, 1])
def k_World_init : aK := ([(0, [(.aload_n 0, 1, [0], .null), (.invokespecial 3, 3, [1002, 63, 56, 57], .null), (.aload_n 0, 1, [0], .null), (.iconst 3, 1, [], .int 3), (.anewarray 9, 3, [14, 64, 65], .null), (.putfield 11, 3, [7, 0, 2, 147], .null), (.aload_n 0, 1, [0], .null), (.iconst 3, 1, [], .int 3), (.newarray .boolean, 2, [12, 81], .null), (.putfield 17, 3, [7, 1, 2, 149], .null), (.iconst 0, 1, [], .int 0), (.istore_n 1, 1, [1], .null), (.nop, 0, [21, 0, 1], .null)]),
  (21, [(.iload_n 1, 1, [1], .null), (.iconst 3, 1, [], .int 3), (.if_icmp .ge 29, 3, [52, 0], .null), (.aload_n 0, 1, [0], .null), (.getfield 11, 3, [7, 0, 2, 147], .null), (.iload_n 1, 1, [1], .null), (.new 9, 3, [6, 0, 64, 66, 30], .null), (.dup, 1, [], .null), (.invokespecial 21, 3, [56, 1, 9, 0, 67, 68, 30], .null), (.aastore, 1, [14, 6], .null), (.aload_n 0, 1, [0], .null), (.getfield 17, 3, [7, 1, 2, 149], .null), (.iload_n 1, 1, [1], .null), (.iconst 1, 1, [], .int 1), (.bastore, 1, [], .null), (.iinc 1 1, 3, [1], .int 1), (.goto (-28), 3, [21, 0, 1], .null)]),
  (52, [(.aload_n 0, 1, [0], .null), (.bipush 6, 2, [], .int 6), (.anewarray 22, 3, [15, 83, 84], .null), (.putfield 24, 3, [7, 2, 2, 151], .null), (.iconst 0, 1, [], .int 0), (.istore_n 1, 1, [1], .null), (.nop, 0, [63, 0, 1], .null)]),
  (63, [(.iload_n 1, 1, [1], .null), (.bipush 6, 2, [], .int 6), (.if_icmp .ge 22, 3, [88, 0], .null), (.aload_n 0, 1, [0], .null), (.getfield 24, 3, [7, 2, 2, 151], .null), (.iload_n 1, 1, [1], .null), (.new 22, 3, [0, 0, 83, 85, 31], .null), (.dup, 1, [], .null), (.invokespecial 28, 3, [0, 1, 9, 0, 86, 87, 31], .null), (.aastore, 1, [15, 0], .null), (.iinc 1 1, 3, [1], .int 1), (.goto (-22), 3, [63, 0, 1], .null)]),
  (88, [(.aload_n 0, 1, [0], .null), (.bipush 42, 2, [], .int 42), (.anewarray 29, 3, [16, 144, 145], .null), (.putfield 31, 3, [7, 3, 2, 154], .null), (.iconst 0, 1, [], .int 0), (.istore_n 1, 1, [1], .null), (.nop, 0, [99, 0, 1], .null)]),
  (99, [(.iload_n 1, 1, [1], .null), (.aload_n 0, 1, [0], .null), (.getfield 31, 3, [7, 3, 2, 154], .null), (.arraylength, 1, [16], .null), (.if_icmp .ge 24, 3, [129], .null), (.aload_n 0, 1, [0], .null), (.getfield 31, 3, [7, 3, 2, 154], .null), (.iload_n 1, 1, [1], .null), (.new 29, 3, [4, 0, 144, 93, 32], .null), (.dup, 1, [], .null), (.bipush 8, 2, [], .int 8), (.invokespecial 35, 3, [30, 2, 9, 0, 146, 95, 32], .null), (.aastore, 1, [16, 4], .null), (.iinc 1 1, 3, [1], .int 1), (.goto (-27), 3, [99, 0, 1], .null)]),
  (129, [(.return_, 1, [], .null)])], [[]], [0])
def k_World_make : aK := ([(0, [(.aload_n 0, 1, [0], .null), (.getfield 17, 3, [7, 1, 2, 149], .null), (.iload_n 1, 1, [1], .null), (.baload, 1, [], .null), (.ifCond .ne 5, 3, [11, 0, 1, 2], .null), (.iconst (-1), 1, [], .int (-1)), (.ireturn, 1, [0], .null)]),
  (11, [(.iconst 0, 1, [], .int 0), (.istore 4, 2, [4], .null), (.nop, 0, [14, 0, 1, 2, 4], .null)]),
  (14, [(.iload 4, 2, [4], .null), (.bipush 6, 2, [], .int 6), (.if_icmp .ge 42, 3, [60], .null), (.aload_n 0, 1, [0], .null), (.getfield 24, 3, [7, 2, 2, 151], .null), (.iload 4, 2, [4], .null), (.aaload, 1, [15], .null), (.getfield 38, 3, [0, 2, 0, 116], .null), (.ifCond .ne 23, 3, [54, 0, 1, 2, 4], .null), (.aload_n 0, 1, [0], .null), (.getfield 24, 3, [7, 2, 2, 151], .null), (.iload 4, 2, [4], .null), (.aaload, 1, [15], .null), (.aload_n 0, 1, [0], .null), (.getfield 11, 3, [7, 0, 2, 147], .null), (.iload_n 1, 1, [1], .null), (.aaload, 1, [14], .null), (.lload_n 2, 1, [2], .null), (.invokevirtual 42, 3, [1, 3, 9, 0, 0, 462, 463, 464, 31], .null), (.iload 4, 2, [4], .null), (.ireturn, 1, [0], .null)]),
  (54, [(.iinc 4 1, 3, [4], .int 1), (.goto (-43), 3, [14, 0, 1, 2, 4], .null)]),
  (60, [(.iconst (-1), 1, [], .int (-1)), (.ireturn, 1, [0], .null)])], [[]], [0, 1, 2])
def k_World_way : aK := ([(0, [(.aload_n 0, 1, [0], .null), (.getfield 31, 3, [7, 3, 2, 154], .null), (.iload_n 1, 1, [1], .null), (.bipush 6, 2, [], .int 6), (.imul, 1, [], .null), (.iload_n 2, 1, [2], .null), (.iadd, 1, [], .null), (.aaload, 1, [16], .null), (.areturn, 1, [], .null)])], [[]], [0, 1, 2])
def k_World_end : aK := ([(0, [(.aload_n 0, 1, [0], .null), (.getfield 24, 3, [7, 2, 2, 151], .null), (.iload_n 1, 1, [1], .null), (.aaload, 1, [15], .null), (.getfield 46, 3, [0, 5, 0, 125], .null), (.istore_n 3, 1, [3], .null), (.aload_n 0, 1, [0], .null), (.getfield 24, 3, [7, 2, 2, 151], .null), (.iload_n 1, 1, [1], .null), (.aaload, 1, [15], .null), (.iload_n 2, 1, [2], .null), (.invokevirtual 49, 3, [2, 2, 9, 0, 0, 559, 560, 561, 31], .null), (.iconst 0, 1, [], .int 0), (.istore 4, 2, [4], .null), (.nop, 0, [23, 0, 1, 2, 3, 4], .null)]),
  (23, [(.iload 4, 2, [4], .null), (.bipush 6, 2, [], .int 6), (.if_icmp .ge 52, 3, [79], .null), (.iload_n 3, 1, [3], .null), (.iload 4, 2, [4], .null), (.ishr, 1, [], .null), (.iconst 1, 1, [], .int 1), (.iand, 1, [], .null), (.ifCond .eq 37, 3, [73, 0, 1, 2, 3, 4], .null), (.aload_n 0, 1, [0], .null), (.iload_n 1, 1, [1], .null), (.iload 4, 2, [4], .null), (.invokevirtual 52, 3, [62, 3, 2, 0, 7, 563, 482, 483, 29], .null), (.iload_n 2, 1, [2], .null), (.invokestatic 56, 3, [49, 1, 1, 0, 564, 565, 44], .null), (.invokevirtual 62, 3, [31, 2, 9, 0, 4, 568, 508, 509, 32], .null), (.aload_n 0, 1, [0], .null), (.getfield 24, 3, [7, 2, 2, 151], .null), (.iload 4, 2, [4], .null), (.aaload, 1, [15], .null), (.dup, 1, [], .null), (.getfield 46, 3, [0, 5, 0, 125], .null), (.iconst 1, 1, [], .int 1), (.iload_n 1, 1, [1], .null), (.ishl, 1, [], .null), (.iconst (-1), 1, [], .int (-1)), (.ixor, 1, [], .null), (.iand, 1, [], .null), (.putfield 46, 3, [0, 5, 0, 125], .null), (.nop, 0, [73, 0, 1, 2, 3, 4], .null)]),
  (73, [(.iinc 4 1, 3, [4], .int 1), (.goto (-53), 3, [23, 0, 1, 2, 3, 4], .null)]),
  (79, [(.return_, 1, [], .null)])], [[]], [0, 1, 2])
def k_World_link : aK := ([(0, [(.iload_n 1, 1, [1], .null), (.iload_n 2, 1, [2], .null), (.if_icmp .eq 50, 3, [52], .null), (.aload_n 0, 1, [0], .null), (.getfield 24, 3, [7, 2, 2, 151], .null), (.iload_n 2, 1, [2], .null), (.aaload, 1, [15], .null), (.getfield 38, 3, [0, 2, 0, 116], .null), (.iconst 1, 1, [], .int 1), (.if_icmp .ne 37, 3, [52], .null), (.aload_n 0, 1, [0], .null), (.getfield 24, 3, [7, 2, 2, 151], .null), (.iload_n 1, 1, [1], .null), (.aaload, 1, [15], .null), (.dup, 1, [], .null), (.getfield 46, 3, [0, 5, 0, 125], .null), (.iconst 1, 1, [], .int 1), (.iload_n 2, 1, [2], .null), (.ishl, 1, [], .null), (.ior, 1, [], .null), (.putfield 46, 3, [0, 5, 0, 125], .null), (.aload_n 0, 1, [0], .null), (.getfield 24, 3, [7, 2, 2, 151], .null), (.iload_n 2, 1, [2], .null), (.aaload, 1, [15], .null), (.dup, 1, [], .null), (.getfield 46, 3, [0, 5, 0, 125], .null), (.iconst 1, 1, [], .int 1), (.iload_n 1, 1, [1], .null), (.ishl, 1, [], .null), (.ior, 1, [], .null), (.putfield 46, 3, [0, 5, 0, 125], .null), (.nop, 0, [52], .null)]),
  (52, [(.return_, 1, [], .null)])], [[]], [0, 1, 2])
def k_World_countFree : aK := ([(0, [(.iconst 0, 1, [], .int 0), (.istore_n 1, 1, [1], .null), (.iconst 0, 1, [], .int 0), (.istore_n 2, 1, [2], .null), (.nop, 0, [4, 0, 1, 2], .null)]),
  (4, [(.iload_n 2, 1, [2], .null), (.bipush 6, 2, [], .int 6), (.if_icmp .ge 29, 3, [36, 1], .null), (.iload_n 1, 1, [1], .null), (.aload_n 0, 1, [0], .null), (.getfield 24, 3, [7, 2, 2, 151], .null), (.iload_n 2, 1, [2], .null), (.aaload, 1, [15], .null), (.getfield 38, 3, [0, 2, 0, 116], .null), (.ifCond .ne 7, 3, [27, 0, 2], .null), (.iconst 1, 1, [], .int 1), (.goto 4, 3, [28, 0, 2], .null)]),
  (27, [(.iconst 0, 1, [], .int 0), (.nop, 0, [28, 0, 2], .null)]),
  (28, [(.iadd, 1, [], .null), (.istore_n 1, 1, [1], .null), (.iinc 2 1, 3, [2], .int 1), (.goto (-29), 3, [4, 0, 1, 2], .null)]),
  (36, [(.iload_n 1, 1, [1], .null), (.ireturn, 1, [0], .null)])], [[]], [0])
def k_AM_init : aK := ([(0, [(.aload_n 0, 1, [0], .null), (.invokespecial 3, 3, [1002, 55, 56, 57], .null), (.aload_n 0, 1, [0], .null), (.new 9, 3, [7, 0, 58, 59, 29], .null), (.dup, 1, [], .null), (.invokespecial 11, 3, [60, 1, 9, 0, 60, 61, 29], .null), (.putfield 12, 3, [8, 0, 2, 236], .null), (.aload_n 0, 1, [0], .null), (.new 16, 3, [2, 0, 164, 165, 33], .null), (.dup, 1, [], .null), (.invokespecial 18, 3, [13, 1, 9, 0, 166, 167, 33], .null), (.putfield 19, 3, [8, 1, 2, 237], .null), (.aload_n 0, 1, [0], .null), (.new 23, 3, [5, 0, 190, 191, 35], .null), (.dup, 1, [], .null), (.aload_n 0, 1, [0], .null), (.getfield 12, 3, [8, 0, 2, 236], .null), (.invokespecial 25, 3, [34, 2, 9, 0, 192, 193, 35], .null), (.putfield 28, 3, [8, 2, 2, 238], .null), (.return_, 1, [], .null)])], [[]], [0])
def k_AM_type : aK := ([(0, [(.iload_n 1, 1, [1], .null), (.iconst 0, 1, [], .int 0), (.iconst 2, 1, [], .int 2), (.invokestatic 32, 3, [68, 3, 9, 0, 255, 256, 28], .null), (.lload_n 2, 1, [2], .null), (.invokestatic 36, 3, [69, 1, 0, 0, 328, 329, 28], .null), (.istore 4, 2, [4], .null), (.iload 4, 2, [4], .null), (.iconst 0, 1, [], .int 0), (.bipush 8, 2, [], .int 8), (.invokestatic 32, 3, [68, 3, 9, 0, 255, 256, 28], .null), (.aload_n 0, 1, [0], .null), (.getfield 12, 3, [8, 0, 2, 236], .null), (.getfield 40, 3, [7, 0, 2, 148], .null), (.iload_n 1, 1, [1], .null), (.aaload, 1, [14], .null), (.astore 5, 2, [5], .null), (.aload 5, 2, [5], .null), (.getfield 44, 3, [6, 1, 0, 74], .null), (.iload 4, 2, [4], .null), (.iadd, 1, [], .null), (.bipush 60, 2, [], .int 60), (.if_icmp .le 13, 3, [54, 0, 1, 2, 5], .null), (.new 50, 3, [999, 0, 52, 54, 334, 42], .null)]),
  (54, [(.iconst 0, 1, [], .int 0), (.istore 6, 2, [6], .null), (.nop, 0, [57, 0, 1, 2, 5, 6], .null)]),
  (57, [(.iload 6, 2, [6], .null), (.bipush 8, 2, [], .int 8), (.if_icmp .ge 30, 3, [91, 0, 1, 5], .null), (.lload_n 2, 1, [2], .null), (.iload 6, 2, [6], .null), (.invokestatic 57, 3, [70, 2, 0, 0, 331, 332, 28], .null), (.istore 7, 2, [7], .null), (.iload 7, 2, [7], .null), (.ifCond .eq 11, 3, [85, 0, 1, 2, 5, 6], .null), (.aload 5, 2, [5], .null), (.iload 7, 2, [7], .null), (.i2c, 1, [], .null), (.invokevirtual 61, 3, [57, 2, 9, 0, 6, 350, 351, 352, 30], .null), (.nop, 0, [85, 0, 1, 2, 5, 6], .null)]),
  (85, [(.iinc 6 1, 3, [6], .int 1), (.goto (-31), 3, [57, 0, 1, 2, 5, 6], .null)]),
  (91, [(.aload_n 0, 1, [0], .null), (.getfield 12, 3, [8, 0, 2, 236], .null), (.getfield 65, 3, [7, 1, 2, 150], .null), (.iload_n 1, 1, [1], .null), (.iconst 0, 1, [], .int 0), (.bastore, 1, [], .null), (.aload 5, 2, [5], .null), (.getfield 44, 3, [6, 1, 0, 74], .null), (.ireturn, 1, [0], .null)])], [[]], [0, 1, 2])
def k_AM_needRange : aK := ([(0, [(.iload_n 0, 1, [0], .null), (.iload_n 1, 1, [1], .null), (.if_icmp .lt 8, 3, [10], .null), (.iload_n 0, 1, [0], .null), (.iload_n 2, 1, [2], .null), (.if_icmp .le 13, 3, [20], .null), (.nop, 0, [10], .null)]),
  (10, [(.new 207, 3, [999, 1, 209, 211, 258, 41], .null)]),
  (20, [(.return_, 1, [], .null)])], [[]], [0, 1, 2])
def k_AM_countSigns : aK := ([(0, [(.iconst 0, 1, [], .int 0), (.istore_n 2, 1, [2], .null), (.iconst 0, 1, [], .int 0), (.istore_n 3, 1, [3], .null), (.nop, 0, [4, 0, 2, 3], .null)]),
  (4, [(.iload_n 3, 1, [3], .null), (.bipush 8, 2, [], .int 8), (.if_icmp .ge 50, 3, [57, 2], .null), (.lload_n 0, 1, [0], .null), (.iload_n 3, 1, [3], .null), (.invokestatic 57, 3, [70, 2, 0, 0, 331, 332, 28], .null), (.istore 4, 2, [4], .null), (.iload 4, 2, [4], .null), (.ifCond .eq 19, 3, [38, 0, 2, 3, 4], .null), (.iload 4, 2, [4], .null), (.bipush 33, 2, [], .int 33), (.if_icmp .lt 10, 3, [36], .null), (.iload 4, 2, [4], .null), (.bipush 126, 2, [], .int 126), (.if_icmp .le 5, 3, [38, 0, 2, 3, 4], .null), (.nop, 0, [36], .null)]),
  (36, [(.iconst (-1), 1, [], .int (-1)), (.ireturn, 1, [0], .null)]),
  (38, [(.iload_n 2, 1, [2], .null), (.iload 4, 2, [4], .null), (.ifCond .ne 7, 3, [48, 0, 3], .null), (.iconst 0, 1, [], .int 0), (.goto 4, 3, [49, 0, 3], .null)]),
  (48, [(.iconst 1, 1, [], .int 1), (.nop, 0, [49, 0, 3], .null)]),
  (49, [(.iadd, 1, [], .null), (.istore_n 2, 1, [2], .null), (.iinc 3 1, 3, [3], .int 1), (.goto (-50), 3, [4, 0, 2, 3], .null)]),
  (57, [(.iload_n 2, 1, [2], .null), (.ireturn, 1, [0], .null)])], [[]], [0])
def k_AM_byteAt : aK := ([(0, [(.lload_n 0, 1, [0], .null), (.bipush 8, 2, [], .int 8), (.bipush 7, 2, [], .int 7), (.iload_n 2, 1, [2], .null), (.isub, 1, [], .null), (.imul, 1, [], .null), (.lushr, 1, [], .null), (.l2i, 1, [], .null), (.sipush 255, 3, [], .int 255), (.iand, 1, [], .null), (.ireturn, 1, [0], .null)])], [[]], [0, 2])
def k_AM_clear : aK := ([(0, [(.iload_n 1, 1, [1], .null), (.iconst 0, 1, [], .int 0), (.iconst 2, 1, [], .int 2), (.invokestatic 32, 3, [68, 3, 9, 0, 255, 256, 28], .null), (.aload_n 0, 1, [0], .null), (.getfield 12, 3, [8, 0, 2, 236], .null), (.getfield 40, 3, [7, 0, 2, 148], .null), (.iload_n 1, 1, [1], .null), (.aaload, 1, [14], .null), (.astore_n 2, 1, [2], .null), (.aload_n 2, 1, [2], .null), (.getfield 44, 3, [6, 1, 0, 74], .null), (.istore_n 3, 1, [3], .null), (.aload_n 2, 1, [2], .null), (.iconst 0, 1, [], .int 0), (.putfield 44, 3, [6, 1, 0, 74], .null), (.aload_n 0, 1, [0], .null), (.getfield 12, 3, [8, 0, 2, 236], .null), (.getfield 65, 3, [7, 1, 2, 150], .null), (.iload_n 1, 1, [1], .null), (.iconst 1, 1, [], .int 1), (.bastore, 1, [], .null), (.iload_n 3, 1, [3], .null), (.ireturn, 1, [0], .null)])], [[]], [0, 1])
def k_AM_check : aK := ([(0, [(.iload_n 1, 1, [1], .null), (.iconst 0, 1, [], .int 0), (.iconst 2, 1, [], .int 2), (.invokestatic 32, 3, [68, 3, 9, 0, 255, 256, 28], .null), (.aload_n 0, 1, [0], .null), (.getfield 12, 3, [8, 0, 2, 236], .null), (.getfield 40, 3, [7, 0, 2, 148], .null), (.iload_n 1, 1, [1], .null), (.aaload, 1, [14], .null), (.astore_n 2, 1, [2], .null), (.aload_n 0, 1, [0], .null), (.getfield 19, 3, [8, 1, 2, 237], .null), (.aload_n 2, 1, [2], .null), (.invokevirtual 69, 3, [14, 2, 0, 0, 2, 369, 370, 371, 33], .null), (.bipush (-2), 2, [], .int (-2)), (.if_icmp .eq 13, 3, [39, 0, 1, 2], .null), (.new 73, 3, [999, 4, 75, 77, 421, 43], .null)]),
  (39, [(.aload_n 0, 1, [0], .null), (.getfield 12, 3, [8, 0, 2, 236], .null), (.getfield 65, 3, [7, 1, 2, 150], .null), (.iload_n 1, 1, [1], .null), (.iconst 1, 1, [], .int 1), (.bastore, 1, [], .null), (.aload_n 2, 1, [2], .null), (.invokevirtual 78, 3, [58, 1, 0, 0, 6, 437, 438, 439, 30], .null), (.ireturn, 1, [0], .null)])], [[]], [0, 1])
def k_AM_fault : aK := ([(0, [(.iload_n 1, 1, [1], .null), (.iconst 0, 1, [], .int 0), (.iconst 2, 1, [], .int 2), (.invokestatic 32, 3, [68, 3, 9, 0, 255, 256, 28], .null), (.aload_n 0, 1, [0], .null), (.getfield 19, 3, [8, 1, 2, 237], .null), (.aload_n 0, 1, [0], .null), (.getfield 12, 3, [8, 0, 2, 236], .null), (.getfield 40, 3, [7, 0, 2, 148], .null), (.iload_n 1, 1, [1], .null), (.aaload, 1, [14], .null), (.invokevirtual 69, 3, [14, 2, 0, 0, 2, 369, 370, 371, 33], .null), (.ireturn, 1, [0], .null)])], [[]], [0, 1])
def k_AM_spawn : aK := ([(0, [(.iload_n 1, 1, [1], .null), (.iconst 0, 1, [], .int 0), (.iconst 2, 1, [], .int 2), (.invokestatic 32, 3, [68, 3, 9, 0, 255, 256, 28], .null), (.iload_n 2, 1, [2], .null), (.sipush (-999), 3, [], .int (-999)), (.sipush 999, 3, [], .int 999), (.invokestatic 32, 3, [68, 3, 9, 0, 255, 256, 28], .null), (.aload_n 0, 1, [0], .null), (.getfield 12, 3, [8, 0, 2, 236], .null), (.iload_n 1, 1, [1], .null), (.iload_n 2, 1, [2], .null), (.invokestatic 82, 3, [42, 1, 1, 0, 455, 456, 44], .null), (.invokevirtual 88, 3, [61, 3, 0, 0, 7, 458, 459, 460, 29], .null), (.istore_n 3, 1, [3], .null), (.iload_n 3, 1, [3], .null), (.ifCond .ge 13, 3, [43, 3], .null), (.new 50, 3, [999, 0, 92, 54, 334, 42], .null)]),
  (43, [(.iload_n 3, 1, [3], .null), (.ireturn, 1, [0], .null)])], [[]], [0, 1, 2])
def k_AM_send : aK := ([(0, [(.iload_n 1, 1, [1], .null), (.iconst 0, 1, [], .int 0), (.iconst 5, 1, [], .int 5), (.invokestatic 32, 3, [68, 3, 9, 0, 255, 256, 28], .null), (.iload_n 2, 1, [2], .null), (.iconst 0, 1, [], .int 0), (.iconst 3, 1, [], .int 3), (.invokestatic 32, 3, [68, 3, 9, 0, 255, 256, 28], .null), (.iload_n 3, 1, [3], .null), (.iload_n 2, 1, [2], .null), (.iconst 1, 1, [], .int 1), (.if_icmp .ne 7, 3, [22, 0, 1, 2, 3, 4], .null), (.iconst 0, 1, [], .int 0), (.goto 6, 3, [25, 0, 1, 2, 3, 4], .null)]),
  (22, [(.sipush (-999), 3, [], .int (-999)), (.nop, 0, [25, 0, 1, 2, 3, 4], .null)]),
  (25, [(.iload_n 2, 1, [2], .null), (.iconst 1, 1, [], .int 1), (.if_icmp .ne 8, 3, [35, 0, 1, 2, 3, 4], .null), (.bipush 7, 2, [], .int 7), (.goto 6, 3, [38, 0, 1, 2, 3, 4], .null)]),
  (35, [(.sipush 999, 3, [], .int 999), (.nop, 0, [38, 0, 1, 2, 3, 4], .null)]),
  (38, [(.invokestatic 32, 3, [68, 3, 9, 0, 255, 256, 28], .null), (.iload_n 2, 1, [2], .null), (.iconst 2, 1, [], .int 2), (.if_icmp .lt 20, 3, [63, 0, 1, 2, 3, 4], .null), (.iload 4, 2, [4], .null), (.iconst 0, 1, [], .int 0), (.iload_n 2, 1, [2], .null), (.iconst 2, 1, [], .int 2), (.if_icmp .ne 8, 3, [59, 0, 1, 2, 3, 4], .null), (.bipush 7, 2, [], .int 7), (.goto 4, 3, [60, 0, 1, 2, 3, 4], .null)]),
  (59, [(.iconst 5, 1, [], .int 5), (.nop, 0, [60, 0, 1, 2, 3, 4], .null)]),
  (60, [(.invokestatic 32, 3, [68, 3, 9, 0, 255, 256, 28], .null), (.nop, 0, [63, 0, 1, 2, 3, 4], .null)]),
  (63, [(.aload_n 0, 1, [0], .null), (.getfield 12, 3, [8, 0, 2, 236], .null), (.bipush 6, 2, [], .int 6), (.iload_n 1, 1, [1], .null), (.invokevirtual 94, 3, [62, 3, 2, 0, 7, 481, 482, 483, 29], .null), (.astore 5, 2, [5], .null), (.aload 5, 2, [5], .null), (.getfield 98, 3, [4, 1, 0, 102], .null), (.iconst 4, 1, [], .int 4), (.if_icmp .lt 13, 3, [94, 2, 3, 4, 5], .null), (.new 50, 3, [999, 0, 103, 54, 334, 42], .null)]),
  (94, [(.aload 5, 2, [5], .null), (.iload_n 2, 1, [2], .null), (.iload_n 3, 1, [3], .null), (.iload 4, 2, [4], .null), (.invokestatic 105, 3, [76, 3, 1, 0, 486, 487, 28], .null), (.invokevirtual 109, 3, [31, 2, 9, 0, 4, 507, 508, 509, 32], .null), (.aload 5, 2, [5], .null), (.getfield 98, 3, [4, 1, 0, 102], .null), (.ireturn, 1, [0], .null)])], [[]], [0, 1, 2, 3, 4])
def k_AM_outsideMessage : aK := ([(0, [(.iload_n 0, 1, [0], .null), (.tableswitch 57 0 2 #[27, 32, 41], 27, [0, 58, 2, 1, 2, 28, 33, 42], .null)]),
  (28, [(.iload_n 1, 1, [1], .null), (.invokestatic 82, 3, [42, 1, 1, 0, 455, 456, 44], .null), (.lreturn, 1, [], .null)]),
  (33, [(.sipush 2000, 3, [], .int 2000), (.iload_n 1, 1, [1], .null), (.iadd, 1, [], .null), (.invokestatic 82, 3, [42, 1, 1, 0, 455, 456, 44], .null), (.lreturn, 1, [], .null)]),
  (42, [(.sipush 2000, 3, [], .int 2000), (.iload_n 2, 1, [2], .null), (.iadd, 1, [], .null), (.invokestatic 82, 3, [42, 1, 1, 0, 455, 456, 44], .null), (.iload_n 1, 1, [1], .null), (.invokestatic 82, 3, [42, 1, 1, 0, 455, 456, 44], .null), (.invokestatic 214, 3, [43, 2, 1, 0, 489, 490, 44], .null), (.lreturn, 1, [], .null)]),
  (58, [(.sipush 3000, 3, [], .int 3000), (.iload_n 2, 1, [2], .null), (.iadd, 1, [], .null), (.invokestatic 82, 3, [42, 1, 1, 0, 455, 456, 44], .null), (.iload_n 1, 1, [1], .null), (.invokestatic 82, 3, [42, 1, 1, 0, 455, 456, 44], .null), (.invokestatic 214, 3, [43, 2, 1, 0, 489, 490, 44], .null), (.lreturn, 1, [], .null)])], [[]], [0, 1, 2])
def k_AM_deliver : aK := ([(0, [(.iload_n 1, 1, [1], .null), (.iconst 0, 1, [], .int 0), (.bipush 6, 2, [], .int 6), (.invokestatic 32, 3, [68, 3, 9, 0, 255, 256, 28], .null), (.iload_n 2, 1, [2], .null), (.iconst 0, 1, [], .int 0), (.iconst 5, 1, [], .int 5), (.invokestatic 32, 3, [68, 3, 9, 0, 255, 256, 28], .null), (.aload_n 0, 1, [0], .null), (.getfield 12, 3, [8, 0, 2, 236], .null), (.iload_n 1, 1, [1], .null), (.iload_n 2, 1, [2], .null), (.invokevirtual 94, 3, [62, 3, 2, 0, 7, 481, 482, 483, 29], .null), (.astore_n 3, 1, [3], .null), (.aload_n 3, 1, [3], .null), (.getfield 98, 3, [4, 1, 0, 102], .null), (.ifCond .ne 13, 3, [40, 0, 1, 2, 3], .null), (.new 113, 3, [999, 2, 115, 117, 519, 46], .null)]),
  (40, [(.aload_n 3, 1, [3], .null), (.iconst 0, 1, [], .int 0), (.invokevirtual 118, 3, [32, 2, 1, 0, 4, 535, 536, 537, 32], .null), (.lstore 4, 2, [4], .null), (.aload_n 0, 1, [0], .null), (.getfield 12, 3, [8, 0, 2, 236], .null), (.getfield 121, 3, [7, 2, 2, 153], .null), (.iload_n 2, 1, [2], .null), (.aaload, 1, [15], .null), (.astore 6, 2, [6], .null), (.aload 6, 2, [6], .null), (.getfield 125, 3, [0, 2, 0, 117], .null), (.iconst 1, 1, [], .int 1), (.if_icmp .ne 23, 3, [87, 0, 1, 2, 3, 4, 6], .null), (.aload 6, 2, [6], .null), (.getfield 130, 3, [0, 4, 3, 123], .null), (.ifCond .ne 11, 3, [83, 0, 1, 2, 3, 4, 6], .null), (.lload 4, 2, [4], .null), (.invokestatic 134, 3, [47, 1, 0, 0, 539, 540, 44], .null), (.ifCond .ne 7, 3, [87, 0, 1, 2, 3, 4, 6], .null), (.nop, 0, [83, 0, 1, 2, 3, 4, 6], .null)]),
  (83, [(.iconst 1, 1, [], .int 1), (.goto 4, 3, [88, 0, 1, 2, 3, 4, 6], .null)]),
  (87, [(.iconst 0, 1, [], .int 0), (.nop, 0, [88, 0, 1, 2, 3, 4, 6], .null)]),
  (88, [(.istore 7, 2, [7], .null), (.iload 7, 2, [7], .null), (.ifCond .eq 26, 3, [118, 0, 1, 2, 3, 4, 6], .null), (.aload 6, 2, [6], .null), (.getfield 138, 3, [0, 1, 2, 114], .null), (.getfield 98, 3, [4, 1, 0, 102], .null), (.bipush 6, 2, [], .int 6), (.if_icmp .lt 13, 3, [118, 0, 1, 2, 3, 4, 6], .null), (.new 50, 3, [999, 0, 142, 54, 334, 42], .null)]),
  (118, [(.aload_n 3, 1, [3], .null), (.iconst 0, 1, [], .int 0), (.invokevirtual 144, 3, [33, 2, 9, 0, 4, 544, 545, 546, 32], .null), (.aload 6, 2, [6], .null), (.getfield 125, 3, [0, 2, 0, 117], .null), (.iconst 1, 1, [], .int 1), (.if_icmp .eq 5, 3, [134, 0, 1, 2, 4, 6], .null), (.iconst 0, 1, [], .int 0), (.ireturn, 1, [0], .null)]),
  (134, [(.lload 4, 2, [4], .null), (.invokestatic 134, 3, [47, 1, 0, 0, 539, 540, 44], .null), (.ifCond .eq 16, 3, [155, 4, 6], .null), (.aload_n 0, 1, [0], .null), (.iload_n 1, 1, [1], .null), (.iload_n 2, 1, [2], .null), (.lload 4, 2, [4], .null), (.iconst 0, 1, [], .int 0), (.invokestatic 148, 3, [48, 2, 0, 0, 548, 549, 44], .null), (.invokevirtual 151, 3, [78, 4, 0, 0, 8, 551, 553, 1, 28], .null), (.ireturn, 1, [0], .null)]),
  (155, [(.aload 6, 2, [6], .null), (.getfield 138, 3, [0, 1, 2, 114], .null), (.lload 4, 2, [4], .null), (.invokevirtual 109, 3, [31, 2, 9, 0, 4, 507, 508, 509, 32], .null), (.iconst 1, 1, [], .int 1), (.ireturn, 1, [0], .null)])], [[]], [0, 1, 2])
def k_AM_receiveSignal : aK := ([(0, [(.aload_n 0, 1, [0], .null), (.getfield 12, 3, [8, 0, 2, 236], .null), (.getfield 121, 3, [7, 2, 2, 153], .null), (.iload_n 2, 1, [2], .null), (.aaload, 1, [15], .null), (.astore 4, 2, [4], .null), (.aload 4, 2, [4], .null), (.getfield 130, 3, [0, 4, 3, 123], .null), (.ifCond .eq 41, 3, [57, 0, 2, 3], .null), (.sipush 3000, 3, [], .int 3000), (.iload_n 1, 1, [1], .null), (.iadd, 1, [], .null), (.invokestatic 82, 3, [42, 1, 1, 0, 455, 456, 44], .null), (.iload_n 3, 1, [3], .null), (.invokestatic 82, 3, [42, 1, 1, 0, 455, 456, 44], .null), (.invokestatic 214, 3, [43, 2, 1, 0, 489, 490, 44], .null), (.lstore 5, 2, [5], .null), (.aload 4, 2, [4], .null), (.getfield 138, 3, [0, 1, 2, 114], .null), (.sipush 2006, 3, [], .int 2006), (.invokestatic 82, 3, [42, 1, 1, 0, 455, 456, 44], .null), (.lload 5, 2, [5], .null), (.invokestatic 214, 3, [43, 2, 1, 0, 489, 490, 44], .null), (.invokevirtual 109, 3, [31, 2, 9, 0, 4, 507, 508, 509, 32], .null), (.iconst 2, 1, [], .int 2), (.ireturn, 1, [0], .null)]),
  (57, [(.iload_n 3, 1, [3], .null), (.sipush 2000, 3, [], .int 2000), (.if_icmp .ne 5, 3, [66, 0, 2, 3], .null), (.iconst 3, 1, [], .int 3), (.ireturn, 1, [0], .null)]),
  (66, [(.aload_n 0, 1, [0], .null), (.getfield 12, 3, [8, 0, 2, 236], .null), (.iload_n 2, 1, [2], .null), (.iload_n 3, 1, [3], .null), (.invokevirtual 184, 3, [63, 3, 9, 0, 7, 555, 556, 557, 29], .null), (.iconst 4, 1, [], .int 4), (.ireturn, 1, [0], .null)])], [[]], [0, 1, 2, 3])
def k_AM_step : aK := ([(0, [(.aload_n 0, 1, [0], .null), (.iload_n 1, 1, [1], .null), (.invokevirtual 155, 3, [80, 2, 9, 0, 8, 577, 579, 2, 28], .null), (.aload_n 0, 1, [0], .null), (.getfield 28, 3, [8, 2, 2, 238], .null), (.iload_n 1, 1, [1], .null), (.invokevirtual 158, 3, [35, 2, 0, 0, 5, 582, 583, 584, 35], .null), (.istore_n 2, 1, [2], .null), (.iload_n 2, 1, [2], .null), (.ifCond .ge 13, 3, [28, 0, 2], .null), (.new 113, 3, [999, 2, 162, 117, 519, 46], .null)]),
  (28, [(.aload_n 0, 1, [0], .null), (.getfield 28, 3, [8, 2, 2, 238], .null), (.iload_n 2, 1, [2], .null), (.bipush 100, 2, [], .int 100), (.idiv, 1, [], .null), (.invokevirtual 164, 3, [37, 2, 0, 0, 5, 662, 663, 664, 35], .null), (.istore_n 3, 1, [3], .null), (.iload_n 3, 1, [3], .null), (.iconst 1, 1, [], .int 1), (.if_icmp .ne 13, 3, [55, 2, 3], .null), (.new 73, 3, [999, 4, 169, 77, 421, 43], .null)]),
  (55, [(.iload_n 3, 1, [3], .null), (.iconst 2, 1, [], .int 2), (.if_icmp .ne 13, 3, [70, 2], .null), (.new 171, 3, [999, 3, 173, 175, 703, 48], .null)]),
  (70, [(.iload_n 2, 1, [2], .null), (.ireturn, 1, [0], .null)])], [[]], [0, 1])
def k_AM_needAlive : aK := ([(0, [(.iload_n 1, 1, [1], .null), (.iconst 0, 1, [], .int 0), (.iconst 5, 1, [], .int 5), (.invokestatic 32, 3, [68, 3, 9, 0, 255, 256, 28], .null), (.aload_n 0, 1, [0], .null), (.getfield 12, 3, [8, 0, 2, 236], .null), (.getfield 121, 3, [7, 2, 2, 153], .null), (.iload_n 1, 1, [1], .null), (.aaload, 1, [15], .null), (.getfield 125, 3, [0, 2, 0, 117], .null), (.iconst 1, 1, [], .int 1), (.if_icmp .eq 13, 3, [32], .null), (.new 50, 3, [999, 0, 212, 54, 334, 42], .null)]),
  (32, [(.return_, 1, [], .null)])], [[]], [0, 1])
def k_AM_kill : aK := ([(0, [(.aload_n 0, 1, [0], .null), (.iload_n 1, 1, [1], .null), (.invokevirtual 155, 3, [80, 2, 9, 0, 8, 577, 579, 2, 28], .null), (.aload_n 0, 1, [0], .null), (.getfield 12, 3, [8, 0, 2, 236], .null), (.getfield 121, 3, [7, 2, 2, 153], .null), (.iload_n 1, 1, [1], .null), (.aaload, 1, [15], .null), (.getfield 176, 3, [0, 5, 0, 126], .null), (.invokestatic 179, 3, [156, 1, 0, 0, 726, 727, 49], .null), (.istore_n 2, 1, [2], .null), (.aload_n 0, 1, [0], .null), (.getfield 12, 3, [8, 0, 2, 236], .null), (.iload_n 1, 1, [1], .null), (.sipush 2007, 3, [], .int 2007), (.invokevirtual 184, 3, [63, 3, 9, 0, 7, 555, 556, 557, 29], .null), (.iload_n 2, 1, [2], .null), (.ireturn, 1, [0], .null)])], [[]], [0, 1])
def k_AM_reap : aK := ([(0, [(.iload_n 1, 1, [1], .null), (.iconst 0, 1, [], .int 0), (.iconst 5, 1, [], .int 5), (.invokestatic 32, 3, [68, 3, 9, 0, 255, 256, 28], .null), (.aload_n 0, 1, [0], .null), (.getfield 12, 3, [8, 0, 2, 236], .null), (.getfield 121, 3, [7, 2, 2, 153], .null), (.iload_n 1, 1, [1], .null), (.aaload, 1, [15], .null), (.getfield 125, 3, [0, 2, 0, 117], .null), (.iconst 2, 1, [], .int 2), (.if_icmp .eq 13, 3, [32, 0, 1], .null), (.new 50, 3, [999, 0, 188, 54, 334, 42], .null)]),
  (32, [(.aload_n 0, 1, [0], .null), (.getfield 12, 3, [8, 0, 2, 236], .null), (.getfield 121, 3, [7, 2, 2, 153], .null), (.iload_n 1, 1, [1], .null), (.aaload, 1, [15], .null), (.iconst 0, 1, [], .int 0), (.putfield 125, 3, [0, 2, 0, 117], .null), (.aload_n 0, 1, [0], .null), (.getfield 12, 3, [8, 0, 2, 236], .null), (.invokevirtual 190, 3, [65, 1, 0, 0, 7, 740, 741, 742, 29], .null), (.ireturn, 1, [0], .null)])], [[]], [0, 1])
def k_AM_leaf : aK := ([(0, [(.iload_n 3, 1, [3], .null), (.iconst 0, 1, [], .int 0), (.iconst 3, 1, [], .int 3), (.invokestatic 32, 3, [68, 3, 9, 0, 255, 256, 28], .null), (.aload_n 0, 1, [0], .null), (.iload_n 1, 1, [1], .null), (.iload_n 2, 1, [2], .null), (.invokevirtual 193, 3, [84, 3, 1, 0, 8, 751, 753, 3, 28], .null), (.iload_n 3, 1, [3], .null), (.invokestatic 148, 3, [48, 2, 0, 0, 548, 549, 44], .null), (.ireturn, 1, [0], .null)])], [[]], [0, 1, 2, 3])
def k_AM_termOf : aK := ([(0, [(.iload_n 1, 1, [1], .null), (.iconst 0, 1, [], .int 0), (.iconst 5, 1, [], .int 5), (.invokestatic 32, 3, [68, 3, 9, 0, 255, 256, 28], .null), (.iload_n 2, 1, [2], .null), (.iconst 0, 1, [], .int 0), (.bipush 6, 2, [], .int 6), (.invokestatic 32, 3, [68, 3, 9, 0, 255, 256, 28], .null), (.aload_n 0, 1, [0], .null), (.getfield 12, 3, [8, 0, 2, 236], .null), (.getfield 121, 3, [7, 2, 2, 153], .null), (.iload_n 1, 1, [1], .null), (.aaload, 1, [15], .null), (.astore_n 3, 1, [3], .null), (.iload_n 2, 1, [2], .null), (.bipush 6, 2, [], .int 6), (.if_icmp .ne 10, 3, [36, 2, 3], .null), (.aload_n 3, 1, [3], .null), (.getfield 218, 3, [0, 3, 1, 120], .null), (.goto 11, 3, [44], .null)]),
  (36, [(.aload_n 3, 1, [3], .null), (.getfield 138, 3, [0, 1, 2, 114], .null), (.iload_n 2, 1, [2], .null), (.invokevirtual 118, 3, [32, 2, 1, 0, 4, 535, 536, 537, 32], .null), (.nop, 0, [44], .null)]),
  (44, [(.lreturn, 1, [], .null)])], [[]], [0, 1, 2])
def k_AM_shape : aK := ([(0, [(.aload_n 0, 1, [0], .null), (.iload_n 1, 1, [1], .null), (.iload_n 2, 1, [2], .null), (.invokevirtual 193, 3, [84, 3, 1, 0, 8, 751, 753, 3, 28], .null), (.lstore_n 3, 1, [3], .null), (.lload_n 3, 1, [3], .null), (.lconst 0, 1, [], .long 0), (.lcmp, 1, [], .null), (.ifCond .ne 9, 3, [19, 3], .null), (.sipush (-5000), 3, [], .int (-5000)), (.goto 7, 3, [23], .null)]),
  (19, [(.lload_n 3, 1, [3], .null), (.invokestatic 197, 3, [45, 1, 0, 0, 762, 497, 44], .null), (.nop, 0, [23], .null)]),
  (23, [(.ireturn, 1, [0], .null)])], [[]], [0, 1, 2])
def k_AM_about : aK := ([(0, [(.iload_n 1, 1, [1], .null), (.iconst 0, 1, [], .int 0), (.iconst 5, 1, [], .int 5), (.invokestatic 32, 3, [68, 3, 9, 0, 255, 256, 28], .null), (.iload_n 2, 1, [2], .null), (.iconst 0, 1, [], .int 0), (.bipush 12, 2, [], .int 12), (.invokestatic 32, 3, [68, 3, 9, 0, 255, 256, 28], .null), (.aload_n 0, 1, [0], .null), (.getfield 12, 3, [8, 0, 2, 236], .null), (.getfield 121, 3, [7, 2, 2, 153], .null), (.iload_n 1, 1, [1], .null), (.aaload, 1, [15], .null), (.astore_n 3, 1, [3], .null), (.iload_n 2, 1, [2], .null), (.tableswitch 112 0 5 #[40, 45, 53, 66, 85, 90], 40, [0, 136, 4, 0, 1, 2, 3, 64, 69, 77, 90, 109, 114], .null)]),
  (64, [(.aload_n 3, 1, [3], .null), (.getfield 125, 3, [0, 2, 0, 117], .null), (.ireturn, 1, [0], .null)]),
  (69, [(.aload_n 3, 1, [3], .null), (.getfield 138, 3, [0, 1, 2, 114], .null), (.getfield 98, 3, [4, 1, 0, 102], .null), (.ireturn, 1, [0], .null)]),
  (77, [(.aload_n 3, 1, [3], .null), (.getfield 130, 3, [0, 4, 3, 123], .null), (.ifCond .eq 7, 3, [88], .null), (.iconst 1, 1, [], .int 1), (.goto 4, 3, [89], .null)]),
  (88, [(.iconst 0, 1, [], .int 0), (.nop, 0, [89], .null)]),
  (89, [(.ireturn, 1, [0], .null)]),
  (90, [(.aload_n 3, 1, [3], .null), (.getfield 125, 3, [0, 2, 0, 117], .null), (.iconst 2, 1, [], .int 2), (.if_icmp .ne 10, 3, [105], .null), (.aload_n 3, 1, [3], .null), (.getfield 200, 3, [0, 6, 0, 128], .null), (.goto 6, 3, [108], .null)]),
  (105, [(.sipush (-5000), 3, [], .int (-5000)), (.nop, 0, [108], .null)]),
  (108, [(.ireturn, 1, [0], .null)]),
  (109, [(.aload_n 3, 1, [3], .null), (.getfield 176, 3, [0, 5, 0, 126], .null), (.ireturn, 1, [0], .null)]),
  (114, [(.aload_n 3, 1, [3], .null), (.getfield 125, 3, [0, 2, 0, 117], .null), (.iconst 1, 1, [], .int 1), (.if_icmp .ne 13, 3, [132], .null), (.aload_n 3, 1, [3], .null), (.getfield 203, 3, [0, 0, 2, 111], .null), (.invokevirtual 78, 3, [58, 1, 0, 0, 6, 437, 438, 439, 30], .null), (.goto 6, 3, [135], .null)]),
  (132, [(.sipush (-5000), 3, [], .int (-5000)), (.nop, 0, [135], .null)]),
  (135, [(.ireturn, 1, [0], .null)]),
  (136, [(.aload_n 0, 1, [0], .null), (.getfield 12, 3, [8, 0, 2, 236], .null), (.iload_n 2, 1, [2], .null), (.bipush 6, 2, [], .int 6), (.isub, 1, [], .null), (.iload_n 1, 1, [1], .null), (.invokevirtual 94, 3, [62, 3, 2, 0, 7, 481, 482, 483, 29], .null), (.getfield 98, 3, [4, 1, 0, 102], .null), (.ireturn, 1, [0], .null)])], [[]], [0, 1, 2])
def k_Md_init : aK := ([(0, [(.aload_n 0, 1, [0], .null), (.invokespecial 1, 3, [1002, 775, 56, 57], .null), (.aload_n 0, 1, [0], .null), (.sipush 540, 3, [], .int 540), (.newarray .int, 2, [10, 843], .null), (.putfield 7, 3, [9, 0, 2, 776], .null), (.aload_n 0, 1, [0], .null), (.bipush 9, 2, [], .int 9), (.newarray .int, 2, [10, 843], .null), (.putfield 13, 3, [9, 1, 2, 777], .null), (.aload_n 0, 1, [0], .null), (.iconst 3, 1, [], .int 3), (.newarray .boolean, 2, [12, 81], .null), (.putfield 16, 3, [9, 2, 2, 778], .null), (.aload_n 0, 1, [0], .null), (.bipush 6, 2, [], .int 6), (.newarray .int, 2, [10, 843], .null), (.putfield 20, 3, [9, 3, 2, 779], .null), (.aload_n 0, 1, [0], .null), (.bipush 6, 2, [], .int 6), (.newarray .long, 2, [11, 108], .null), (.putfield 23, 3, [9, 4, 2, 780], .null), (.aload_n 0, 1, [0], .null), (.bipush 36, 2, [], .int 36), (.newarray .long, 2, [11, 108], .null), (.putfield 27, 3, [9, 5, 2, 781], .null), (.aload_n 0, 1, [0], .null), (.bipush 6, 2, [], .int 6), (.newarray .int, 2, [10, 843], .null), (.putfield 30, 3, [9, 6, 2, 782], .null), (.aload_n 0, 1, [0], .null), (.bipush 6, 2, [], .int 6), (.newarray .boolean, 2, [12, 81], .null), (.putfield 33, 3, [9, 7, 2, 783], .null), (.aload_n 0, 1, [0], .null), (.bipush 6, 2, [], .int 6), (.newarray .int, 2, [10, 843], .null), (.putfield 36, 3, [9, 8, 2, 784], .null), (.aload_n 0, 1, [0], .null), (.bipush 36, 2, [], .int 36), (.newarray .boolean, 2, [12, 81], .null), (.putfield 39, 3, [9, 9, 2, 785], .null), (.aload_n 0, 1, [0], .null), (.sipush 336, 3, [], .int 336), (.newarray .long, 2, [11, 108], .null), (.putfield 42, 3, [9, 10, 2, 786], .null), (.aload_n 0, 1, [0], .null), (.bipush 42, 2, [], .int 42), (.newarray .int, 2, [10, 843], .null), (.putfield 45, 3, [9, 11, 2, 787], .null), (.aload_n 0, 1, [0], .null), (.bipush 6, 2, [], .int 6), (.newarray .long, 2, [11, 108], .null), (.putfield 48, 3, [9, 12, 2, 788], .null), (.aload_n 0, 1, [0], .null), (.iconst 5, 1, [], .int 5), (.newarray .int, 2, [10, 843], .null), (.putfield 51, 3, [9, 13, 2, 789], .null), (.aload_n 0, 1, [0], .null), (.iconst 5, 1, [], .int 5), (.newarray .boolean, 2, [12, 81], .null), (.putfield 54, 3, [9, 14, 2, 790], .null), (.aload_n 0, 1, [0], .null), (.iconst 5, 1, [], .int 5), (.newarray .long, 2, [11, 108], .null), (.putfield 57, 3, [9, 18, 2, 794], .null), (.iconst 0, 1, [], .int 0), (.istore_n 1, 1, [1], .null), (.nop, 0, [132, 0, 1], .null)]),
  (132, [(.iload_n 1, 1, [1], .null), (.iconst 3, 1, [], .int 3), (.if_icmp .ge 16, 3, [150], .null), (.aload_n 0, 1, [0], .null), (.getfield 16, 3, [9, 2, 2, 778], .null), (.iload_n 1, 1, [1], .null), (.iconst 1, 1, [], .int 1), (.bastore, 1, [], .null), (.iinc 1 1, 3, [1], .int 1), (.goto (-15), 3, [132, 0, 1], .null)]),
  (150, [(.return_, 1, [], .null)])], [[]], [0])
def k_Md_thrown : aK := ([(0, [(.aload_n 0, 1, [0], .null), (.getfield 60, 3, [9, 21, 0, 797], .null), (.ireturn, 1, [0], .null)])], [[]], [0])
def k_Md_type : aK := ([(0, [(.iload_n 1, 1, [1], .null), (.iconst 0, 1, [], .int 0), (.iconst 2, 1, [], .int 2), (.invokestatic 86, 3, [90, 3, 0, 0, 852, 853, 37], .null), (.istore 4, 2, [4], .null), (.iconst 0, 1, [], .int 0), (.istore 5, 2, [5], .null), (.bipush 56, 2, [], .int 56), (.istore 6, 2, [6], .null), (.nop, 0, [15, 0, 1, 2, 4, 5, 6], .null)]),
  (15, [(.iload 6, 2, [6], .null), (.ifCond .lt 48, 3, [65, 0, 1, 2, 4, 5], .null), (.lload_n 2, 1, [2], .null), (.iload 6, 2, [6], .null), (.lshr, 1, [], .null), (.l2i, 1, [], .null), (.sipush 255, 3, [], .int 255), (.iand, 1, [], .null), (.istore 7, 2, [7], .null), (.iload 7, 2, [7], .null), (.ifCond .eq 6, 3, [39, 0, 1, 2, 4, 5, 6, 7], .null), (.iinc 5 1, 3, [5], .int 1), (.nop, 0, [39, 0, 1, 2, 4, 5, 6, 7], .null)]),
  (39, [(.iload 7, 2, [7], .null), (.ifCond .eq 18, 3, [59, 0, 1, 2, 4, 5, 6], .null), (.iload 7, 2, [7], .null), (.bipush 33, 2, [], .int 33), (.bipush 126, 2, [], .int 126), (.invokestatic 86, 3, [90, 3, 0, 0, 852, 853, 37], .null), (.ifCond .ne 6, 3, [59, 0, 1, 2, 4, 5, 6], .null), (.iconst 0, 1, [], .int 0), (.istore 4, 2, [4], .null), (.nop, 0, [59, 0, 1, 2, 4, 5, 6], .null)]),
  (59, [(.iinc 6 (-8), 3, [6], .int (-8)), (.goto (-47), 3, [15, 0, 1, 2, 4, 5, 6], .null)]),
  (65, [(.iload 4, 2, [4], .null), (.ifCond .ne 9, 3, [76, 0, 1, 2, 5], .null), (.aload_n 0, 1, [0], .null), (.iconst 2, 1, [], .int 2), (.invokevirtual 196, 3, [91, 2, 0, 0, 9, 855, 857, 4, 37], .null), (.ireturn, 1, [0], .null)]),
  (76, [(.aload_n 0, 1, [0], .null), (.aload_n 0, 1, [0], .null), (.getfield 13, 3, [9, 1, 2, 777], .null), (.iload_n 1, 1, [1], .null), (.iaload, 1, [], .null), (.iload 5, 2, [5], .null), (.iadd, 1, [], .null), (.bipush 60, 2, [], .int 60), (.if_icmp .gt 7, 3, [95, 0, 1, 2], .null), (.iconst 1, 1, [], .int 1), (.goto 4, 3, [96, 0, 1, 2], .null)]),
  (95, [(.iconst 0, 1, [], .int 0), (.nop, 0, [96, 0, 1, 2], .null)]),
  (96, [(.iconst 1, 1, [], .int 1), (.invokevirtual 199, 3, [92, 3, 0, 0, 9, 859, 861, 5, 37], .null), (.ifCond .ne 5, 3, [105, 0, 1, 2], .null), (.iconst 0, 1, [], .int 0), (.ireturn, 1, [0], .null)]),
  (105, [(.bipush 56, 2, [], .int 56), (.istore 6, 2, [6], .null), (.nop, 0, [109, 0, 1, 2, 6], .null)]),
  (109, [(.iload 6, 2, [6], .null), (.ifCond .lt 53, 3, [164, 0, 1], .null), (.lload_n 2, 1, [2], .null), (.iload 6, 2, [6], .null), (.lshr, 1, [], .null), (.l2i, 1, [], .null), (.sipush 255, 3, [], .int 255), (.iand, 1, [], .null), (.istore 7, 2, [7], .null), (.iload 7, 2, [7], .null), (.ifCond .eq 31, 3, [158, 0, 1, 2, 6], .null), (.aload_n 0, 1, [0], .null), (.getfield 7, 3, [9, 0, 2, 776], .null), (.bipush 60, 2, [], .int 60), (.iload_n 1, 1, [1], .null), (.imul, 1, [], .null), (.aload_n 0, 1, [0], .null), (.getfield 13, 3, [9, 1, 2, 777], .null), (.iload_n 1, 1, [1], .null), (.iaload, 1, [], .null), (.iadd, 1, [], .null), (.iload 7, 2, [7], .null), (.iastore, 1, [], .null), (.aload_n 0, 1, [0], .null), (.getfield 13, 3, [9, 1, 2, 777], .null), (.iload_n 1, 1, [1], .null), (.dup2, 1, [], .null), (.iaload, 1, [], .null), (.iconst 1, 1, [], .int 1), (.iadd, 1, [], .null), (.iastore, 1, [], .null), (.nop, 0, [158, 0, 1, 2, 6], .null)]),
  (158, [(.iinc 6 (-8), 3, [6], .int (-8)), (.goto (-52), 3, [109, 0, 1, 2, 6], .null)]),
  (164, [(.aload_n 0, 1, [0], .null), (.getfield 16, 3, [9, 2, 2, 778], .null), (.iload_n 1, 1, [1], .null), (.iconst 0, 1, [], .int 0), (.bastore, 1, [], .null), (.aload_n 0, 1, [0], .null), (.getfield 13, 3, [9, 1, 2, 777], .null), (.iload_n 1, 1, [1], .null), (.iaload, 1, [], .null), (.ireturn, 1, [0], .null)])], [[]], [0, 1, 2])
def k_Md_in : aK := ([(0, [(.iload_n 0, 1, [0], .null), (.iload_n 1, 1, [1], .null), (.if_icmp .lt 12, 3, [14], .null), (.iload_n 0, 1, [0], .null), (.iload_n 2, 1, [2], .null), (.if_icmp .gt 7, 3, [14], .null), (.iconst 1, 1, [], .int 1), (.goto 4, 3, [15], .null)]),
  (14, [(.iconst 0, 1, [], .int 0), (.nop, 0, [15], .null)]),
  (15, [(.ireturn, 1, [3], .null)])], [[]], [0, 1, 2])
def k_Md_fail : aK := ([(0, [(.aload_n 0, 1, [0], .null), (.iload_n 1, 1, [1], .null), (.putfield 60, 3, [9, 21, 0, 797], .null), (.iconst 0, 1, [], .int 0), (.ireturn, 1, [0], .null)])], [[]], [0, 1])
def k_Md_good : aK := ([(0, [(.aload_n 0, 1, [0], .null), (.iload_n 1, 1, [1], .null), (.ifCond .eq 7, 3, [9, 1, 2], .null), (.iconst 0, 1, [], .int 0), (.goto 4, 3, [10, 1], .null)]),
  (9, [(.iload_n 2, 1, [2], .null), (.nop, 0, [10, 1], .null)]),
  (10, [(.putfield 60, 3, [9, 21, 0, 797], .null), (.iload_n 1, 1, [1], .null), (.ireturn, 1, [3], .null)])], [[]], [0, 1, 2])
def k_Md_clear : aK := ([(0, [(.aload_n 0, 1, [0], .null), (.iload_n 1, 1, [1], .null), (.iconst 0, 1, [], .int 0), (.iconst 2, 1, [], .int 2), (.invokestatic 86, 3, [90, 3, 0, 0, 852, 853, 37], .null), (.iconst 1, 1, [], .int 1), (.invokevirtual 199, 3, [92, 3, 0, 0, 9, 859, 861, 5, 37], .null), (.ifCond .ne 5, 3, [16, 0, 1], .null), (.iconst 0, 1, [], .int 0), (.ireturn, 1, [0], .null)]),
  (16, [(.aload_n 0, 1, [0], .null), (.getfield 13, 3, [9, 1, 2, 777], .null), (.iload_n 1, 1, [1], .null), (.iaload, 1, [], .null), (.istore_n 2, 1, [2], .null), (.aload_n 0, 1, [0], .null), (.getfield 13, 3, [9, 1, 2, 777], .null), (.iload_n 1, 1, [1], .null), (.iconst 0, 1, [], .int 0), (.iastore, 1, [], .null), (.aload_n 0, 1, [0], .null), (.getfield 16, 3, [9, 2, 2, 778], .null), (.iload_n 1, 1, [1], .null), (.iconst 1, 1, [], .int 1), (.bastore, 1, [], .null), (.iload_n 2, 1, [2], .null), (.ireturn, 1, [0], .null)])], [[]], [0, 1])
def k_Md_check : aK := ([(0, [(.aload_n 0, 1, [0], .null), (.iload_n 1, 1, [1], .null), (.iconst 0, 1, [], .int 0), (.iconst 2, 1, [], .int 2), (.invokestatic 86, 3, [90, 3, 0, 0, 852, 853, 37], .null), (.iconst 1, 1, [], .int 1), (.invokevirtual 199, 3, [92, 3, 0, 0, 9, 859, 861, 5, 37], .null), (.ifCond .ne 5, 3, [16, 0, 1], .null), (.iconst 0, 1, [], .int 0), (.ireturn, 1, [0], .null)]),
  (16, [(.aload_n 0, 1, [0], .null), (.aload_n 0, 1, [0], .null), (.iload_n 1, 1, [1], .null), (.invokevirtual 203, 3, [95, 2, 0, 0, 9, 871, 873, 6, 37], .null), (.bipush (-2), 2, [], .int (-2)), (.if_icmp .ne 7, 3, [31, 0, 1], .null), (.iconst 1, 1, [], .int 1), (.goto 4, 3, [32, 0, 1], .null)]),
  (31, [(.iconst 0, 1, [], .int 0), (.nop, 0, [32, 0, 1], .null)]),
  (32, [(.iconst 2, 1, [], .int 2), (.invokevirtual 199, 3, [92, 3, 0, 0, 9, 859, 861, 5, 37], .null), (.ifCond .ne 5, 3, [41, 0, 1], .null), (.iconst 0, 1, [], .int 0), (.ireturn, 1, [0], .null)]),
  (41, [(.aload_n 0, 1, [0], .null), (.getfield 16, 3, [9, 2, 2, 778], .null), (.iload_n 1, 1, [1], .null), (.iconst 1, 1, [], .int 1), (.bastore, 1, [], .null), (.aload_n 0, 1, [0], .null), (.iload_n 1, 1, [1], .null), (.invokevirtual 206, 3, [103, 2, 0, 0, 9, 900, 902, 11, 37], .null), (.ireturn, 1, [0], .null)])], [[]], [0, 1])
def k_Md_read : aK := ([(0, [(.aload_n 0, 1, [0], .null), (.iconst 0, 1, [], .int 0), (.putfield 93, 3, [9, 16, 0, 792], .null), (.aload_n 0, 1, [0], .null), (.iconst 0, 1, [], .int 0), (.putfield 90, 3, [9, 15, 0, 791], .null), (.iconst 0, 1, [], .int 0), (.istore_n 2, 1, [2], .null), (.nop, 0, [12, 0, 1, 2], .null)]),
  (12, [(.iload_n 2, 1, [2], .null), (.aload_n 0, 1, [0], .null), (.getfield 13, 3, [9, 1, 2, 777], .null), (.iload_n 1, 1, [1], .null), (.iaload, 1, [], .null), (.if_icmp .ge 29, 3, [48, 0, 1], .null), (.aload_n 0, 1, [0], .null), (.aload_n 0, 1, [0], .null), (.getfield 7, 3, [9, 0, 2, 776], .null), (.bipush 60, 2, [], .int 60), (.iload_n 1, 1, [1], .null), (.imul, 1, [], .null), (.iload_n 2, 1, [2], .null), (.iadd, 1, [], .null), (.iaload, 1, [], .null), (.invokevirtual 119, 3, [96, 2, 0, 0, 9, 875, 877, 7, 37], .null), (.ifCond .ne 5, 3, [42, 0, 1, 2], .null), (.iload_n 2, 1, [2], .null), (.ireturn, 1, [0], .null)]),
  (42, [(.iinc 2 1, 3, [2], .int 1), (.goto (-33), 3, [12, 0, 1, 2], .null)]),
  (48, [(.aload_n 0, 1, [0], .null), (.getfield 93, 3, [9, 16, 0, 792], .null), (.ifCond .ne 8, 3, [60, 0, 1], .null), (.bipush (-2), 2, [], .int (-2)), (.goto 9, 3, [66], .null)]),
  (60, [(.aload_n 0, 1, [0], .null), (.getfield 13, 3, [9, 1, 2, 777], .null), (.iload_n 1, 1, [1], .null), (.iaload, 1, [], .null), (.nop, 0, [66], .null)]),
  (66, [(.ireturn, 1, [0], .null)])], [[]], [0, 1])
def k_Md_stands : aK := ([(0, [(.aload_n 0, 1, [0], .null), (.getfield 93, 3, [9, 16, 0, 792], .null), (.istore_n 2, 1, [2], .null), (.iload_n 2, 1, [2], .null), (.ifCond .ne 8, 3, [14, 0, 1, 2], .null), (.aload_n 0, 1, [0], .null), (.iconst 0, 1, [], .int 0), (.putfield 96, 3, [9, 17, 0, 793], .null), (.nop, 0, [14, 0, 1, 2], .null)]),
  (14, [(.iload_n 2, 1, [2], .null), (.iconst 2, 1, [], .int 2), (.if_icmp .ge 9, 3, [25, 0, 1, 2], .null), (.aload_n 0, 1, [0], .null), (.iload_n 1, 1, [1], .null), (.invokevirtual 113, 3, [97, 2, 0, 0, 9, 879, 881, 8, 37], .null), (.ireturn, 1, [3], .null)]),
  (25, [(.iload_n 2, 1, [2], .null), (.iconst 2, 1, [], .int 2), (.if_icmp .eq 8, 3, [35, 0, 1, 2], .null), (.iload_n 2, 1, [2], .null), (.iconst 3, 1, [], .int 3), (.if_icmp .ne 51, 3, [83, 0, 1, 2], .null), (.nop, 0, [35, 0, 1, 2], .null)]),
  (35, [(.aload_n 0, 1, [0], .null), (.iconst 1, 1, [], .int 1), (.putfield 93, 3, [9, 16, 0, 792], .null), (.iload_n 2, 1, [2], .null), (.iconst 2, 1, [], .int 2), (.if_icmp .ne 15, 3, [57, 0, 1], .null), (.iload_n 1, 1, [1], .null), (.bipush 44, 2, [], .int 44), (.if_icmp .ne 7, 3, [55], .null), (.iconst 1, 1, [], .int 1), (.goto 4, 3, [56], .null)]),
  (55, [(.iconst 0, 1, [], .int 0), (.nop, 0, [56], .null)]),
  (56, [(.ireturn, 1, [3], .null)]),
  (57, [(.aload_n 0, 1, [0], .null), (.dup, 1, [], .null), (.getfield 90, 3, [9, 15, 0, 791], .null), (.iconst 1, 1, [], .int 1), (.isub, 1, [], .null), (.putfield 90, 3, [9, 15, 0, 791], .null), (.aload_n 0, 1, [0], .null), (.invokevirtual 110, 3, [101, 1, 9, 0, 9, 892, 894, 9, 37], .null), (.iload_n 1, 1, [1], .null), (.bipush 41, 2, [], .int 41), (.if_icmp .ne 7, 3, [81], .null), (.iconst 1, 1, [], .int 1), (.goto 4, 3, [82], .null)]),
  (81, [(.iconst 0, 1, [], .int 0), (.nop, 0, [82], .null)]),
  (82, [(.ireturn, 1, [3], .null)]),
  (83, [(.iload_n 2, 1, [2], .null), (.iconst 4, 1, [], .int 4), (.if_icmp .ne 42, 3, [127, 0, 1, 2], .null), (.aload_n 0, 1, [0], .null), (.iconst 1, 1, [], .int 1), (.putfield 96, 3, [9, 17, 0, 793], .null), (.aload_n 0, 1, [0], .null), (.iload_n 1, 1, [1], .null), (.bipush 63, 2, [], .int 63), (.if_icmp .ne 7, 3, [104, 1], .null), (.iconst 1, 1, [], .int 1), (.goto 5, 3, [106, 1], .null)]),
  (104, [(.bipush 7, 2, [], .int 7), (.nop, 0, [106, 1], .null)]),
  (106, [(.putfield 93, 3, [9, 16, 0, 792], .null), (.iload_n 1, 1, [1], .null), (.bipush 63, 2, [], .int 63), (.if_icmp .eq 9, 3, [121], .null), (.iload_n 1, 1, [1], .null), (.bipush 58, 2, [], .int 58), (.if_icmp .ne 7, 3, [125], .null), (.nop, 0, [121], .null)]),
  (121, [(.iconst 1, 1, [], .int 1), (.goto 4, 3, [126], .null)]),
  (125, [(.iconst 0, 1, [], .int 0), (.nop, 0, [126], .null)]),
  (126, [(.ireturn, 1, [3], .null)]),
  (127, [(.iload_n 2, 1, [2], .null), (.iconst 5, 1, [], .int 5), (.if_icmp .ne 31, 3, [160, 0, 1, 2], .null), (.aload_n 0, 1, [0], .null), (.iconst 2, 1, [], .int 2), (.putfield 96, 3, [9, 17, 0, 793], .null), (.aload_n 0, 1, [0], .null), (.iconst 1, 1, [], .int 1), (.putfield 93, 3, [9, 16, 0, 792], .null), (.iload_n 1, 1, [1], .null), (.bipush 60, 2, [], .int 60), (.if_icmp .eq 9, 3, [154], .null), (.iload_n 1, 1, [1], .null), (.bipush 61, 2, [], .int 61), (.if_icmp .ne 7, 3, [158], .null), (.nop, 0, [154], .null)]),
  (154, [(.iconst 1, 1, [], .int 1), (.goto 4, 3, [159], .null)]),
  (158, [(.iconst 0, 1, [], .int 0), (.nop, 0, [159], .null)]),
  (159, [(.ireturn, 1, [3], .null)]),
  (160, [(.iload_n 2, 1, [2], .null), (.bipush 7, 2, [], .int 7), (.if_icmp .ne 9, 3, [172, 0, 1, 2], .null), (.aload_n 0, 1, [0], .null), (.iload_n 1, 1, [1], .null), (.invokevirtual 116, 3, [102, 2, 0, 0, 9, 896, 898, 10, 37], .null), (.ireturn, 1, [3], .null)]),
  (172, [(.aload_n 0, 1, [0], .null), (.iload_n 2, 1, [2], .null), (.bipush 8, 2, [], .int 8), (.if_icmp .ne 8, 3, [184, 0, 1, 2], .null), (.bipush 9, 2, [], .int 9), (.goto 16, 3, [197, 0, 1, 2], .null)]),
  (184, [(.iload_n 2, 1, [2], .null), (.bipush 10, 2, [], .int 10), (.if_icmp .ne 8, 3, [195, 0, 1, 2], .null), (.bipush 11, 2, [], .int 11), (.goto 5, 3, [197, 0, 1, 2], .null)]),
  (195, [(.bipush 7, 2, [], .int 7), (.nop, 0, [197, 0, 1, 2], .null)]),
  (197, [(.putfield 93, 3, [9, 16, 0, 792], .null), (.iload_n 2, 1, [2], .null), (.bipush 9, 2, [], .int 9), (.if_icmp .ne 7, 3, [210, 1, 2], .null), (.aload_n 0, 1, [0], .null), (.invokevirtual 110, 3, [101, 1, 9, 0, 9, 892, 894, 9, 37], .null), (.nop, 0, [210, 1, 2], .null)]),
  (210, [(.iload_n 2, 1, [2], .null), (.bipush 6, 2, [], .int 6), (.if_icmp .ne 15, 3, [228, 1, 2], .null), (.iload_n 1, 1, [1], .null), (.bipush 58, 2, [], .int 58), (.if_icmp .ne 7, 3, [226], .null), (.iconst 1, 1, [], .int 1), (.goto 4, 3, [227], .null)]),
  (226, [(.iconst 0, 1, [], .int 0), (.nop, 0, [227], .null)]),
  (227, [(.ireturn, 1, [3], .null)]),
  (228, [(.iload_n 2, 1, [2], .null), (.bipush 8, 2, [], .int 8), (.if_icmp .eq 9, 3, [240, 1], .null), (.iload_n 2, 1, [2], .null), (.bipush 9, 2, [], .int 9), (.if_icmp .ne 8, 3, [245, 1, 2], .null), (.nop, 0, [240, 1], .null)]),
  (240, [(.iload_n 1, 1, [1], .null), (.invokestatic 99, 3, [98, 1, 0, 0, 883, 884, 37], .null), (.ireturn, 1, [3], .null)]),
  (245, [(.iload_n 2, 1, [2], .null), (.bipush 11, 2, [], .int 11), (.if_icmp .ne 18, 3, [266, 1, 2], .null), (.iload_n 1, 1, [1], .null), (.invokestatic 106, 3, [100, 1, 0, 0, 889, 890, 37], .null), (.ifCond .lt 7, 3, [262], .null), (.iconst 1, 1, [], .int 1), (.goto 26, 3, [285], .null)]),
  (262, [(.iconst 0, 1, [], .int 0), (.goto 22, 3, [285], .null)]),
  (266, [(.iload_n 1, 1, [1], .null), (.bipush 48, 2, [], .int 48), (.iload_n 2, 1, [2], .null), (.bipush 10, 2, [], .int 10), (.if_icmp .ne 8, 3, [280], .null), (.bipush 50, 2, [], .int 50), (.goto 5, 3, [282], .null)]),
  (280, [(.bipush 49, 2, [], .int 49), (.nop, 0, [282], .null)]),
  (282, [(.invokestatic 86, 3, [90, 3, 0, 0, 852, 853, 37], .null), (.nop, 0, [285], .null)]),
  (285, [(.ireturn, 1, [3], .null)])], [[]], [0, 1])
def k_Md_piece : aK := ([(0, [(.aload_n 0, 1, [0], .null), (.getfield 96, 3, [9, 17, 0, 793], .null), (.ifCond .ne 7, 3, [11, 0, 1], .null), (.iconst 1, 1, [], .int 1), (.goto 4, 3, [12, 0, 1], .null)]),
  (11, [(.iconst 0, 1, [], .int 0), (.nop, 0, [12, 0, 1], .null)]),
  (12, [(.istore_n 2, 1, [2], .null), (.iload_n 1, 1, [1], .null), (.bipush 40, 2, [], .int 40), (.if_icmp .eq 25, 3, [41, 0, 1], .null), (.iload_n 2, 1, [2], .null), (.ifCond .ne 68, 3, [88, 0, 1, 2], .null), (.iload_n 1, 1, [1], .null), (.bipush 43, 2, [], .int 43), (.if_icmp .eq 15, 3, [41, 0, 1], .null), (.iload_n 1, 1, [1], .null), (.bipush 45, 2, [], .int 45), (.if_icmp .eq 9, 3, [41, 0, 1], .null), (.iload_n 1, 1, [1], .null), (.bipush 47, 2, [], .int 47), (.if_icmp .ne 50, 3, [88, 0, 1, 2], .null), (.nop, 0, [41, 0, 1], .null)]),
  (41, [(.aload_n 0, 1, [0], .null), (.getfield 90, 3, [9, 15, 0, 791], .null), (.iconst 4, 1, [], .int 4), (.if_icmp .ne 5, 3, [51, 0, 1], .null), (.iconst 0, 1, [], .int 0), (.ireturn, 1, [3], .null)]),
  (51, [(.aload_n 0, 1, [0], .null), (.getfield 51, 3, [9, 13, 2, 789], .null), (.aload_n 0, 1, [0], .null), (.getfield 90, 3, [9, 15, 0, 791], .null), (.iload_n 1, 1, [1], .null), (.iastore, 1, [], .null), (.aload_n 0, 1, [0], .null), (.getfield 54, 3, [9, 14, 2, 790], .null), (.aload_n 0, 1, [0], .null), (.getfield 90, 3, [9, 15, 0, 791], .null), (.iconst 0, 1, [], .int 0), (.bastore, 1, [], .null), (.aload_n 0, 1, [0], .null), (.dup, 1, [], .null), (.getfield 90, 3, [9, 15, 0, 791], .null), (.iconst 1, 1, [], .int 1), (.iadd, 1, [], .null), (.putfield 90, 3, [9, 15, 0, 791], .null), (.aload_n 0, 1, [0], .null), (.iconst 1, 1, [], .int 1), (.putfield 93, 3, [9, 16, 0, 792], .null), (.iconst 1, 1, [], .int 1), (.ireturn, 1, [3], .null)]),
  (88, [(.iload_n 1, 1, [1], .null), (.bipush 39, 2, [], .int 39), (.if_icmp .ne 11, 3, [102, 0, 1, 2], .null), (.aload_n 0, 1, [0], .null), (.bipush 8, 2, [], .int 8), (.putfield 93, 3, [9, 16, 0, 792], .null), (.iconst 1, 1, [], .int 1), (.ireturn, 1, [3], .null)]),
  (102, [(.iload_n 1, 1, [1], .null), (.invokestatic 99, 3, [98, 1, 0, 0, 883, 884, 37], .null), (.ifCond .ne 34, 3, [140, 0], .null), (.iload_n 1, 1, [1], .null), (.invokestatic 103, 3, [99, 1, 0, 0, 886, 887, 37], .null), (.ifCond .ne 27, 3, [140, 0], .null), (.iload_n 1, 1, [1], .null), (.invokestatic 106, 3, [100, 1, 0, 0, 889, 890, 37], .null), (.ifCond .ge 20, 3, [140, 0], .null), (.iload_n 1, 1, [1], .null), (.iload_n 2, 1, [2], .null), (.ifCond .eq 8, 3, [133, 0], .null), (.bipush 95, 2, [], .int 95), (.goto 5, 3, [135, 0], .null)]),
  (133, [(.bipush 35, 2, [], .int 35), (.nop, 0, [135, 0], .null)]),
  (135, [(.if_icmp .eq 5, 3, [140, 0], .null), (.iconst 0, 1, [], .int 0), (.ireturn, 1, [3], .null)]),
  (140, [(.aload_n 0, 1, [0], .null), (.invokevirtual 110, 3, [101, 1, 9, 0, 9, 892, 894, 9, 37], .null), (.iconst 1, 1, [], .int 1), (.ireturn, 1, [3], .null)])], [[]], [0, 1])
def k_Md_isDigit : aK := ([(0, [(.iload_n 0, 1, [0], .null), (.bipush 48, 2, [], .int 48), (.bipush 57, 2, [], .int 57), (.invokestatic 86, 3, [90, 3, 0, 0, 852, 853, 37], .null), (.ireturn, 1, [3], .null)])], [[]], [0])
def k_Md_isAtom : aK := ([(0, [(.iload_n 0, 1, [0], .null), (.bipush 97, 2, [], .int 97), (.bipush 104, 2, [], .int 104), (.invokestatic 86, 3, [90, 3, 0, 0, 852, 853, 37], .null), (.ireturn, 1, [3], .null)])], [[]], [0])
def k_Md_variableOf : aK := ([(0, [(.iload_n 0, 1, [0], .null), (.bipush 65, 2, [], .int 65), (.bipush 69, 2, [], .int 69), (.invokestatic 86, 3, [90, 3, 0, 0, 852, 853, 37], .null), (.ifCond .eq 10, 3, [18, 0], .null), (.iload_n 0, 1, [0], .null), (.bipush 65, 2, [], .int 65), (.isub, 1, [], .null), (.goto 14, 3, [29], .null)]),
  (18, [(.iload_n 0, 1, [0], .null), (.bipush 83, 2, [], .int 83), (.if_icmp .ne 7, 3, [28], .null), (.iconst 5, 1, [], .int 5), (.goto 4, 3, [29], .null)]),
  (28, [(.iconst (-1), 1, [], .int (-1)), (.nop, 0, [29], .null)]),
  (29, [(.ireturn, 1, [0], .null)])], [[]], [0])
def k_Md_complete : aK := ([(0, [(.aload_n 0, 1, [0], .null), (.getfield 90, 3, [9, 15, 0, 791], .null), (.ifCond .le 77, 3, [81, 0], .null), (.aload_n 0, 1, [0], .null), (.getfield 90, 3, [9, 15, 0, 791], .null), (.iconst 1, 1, [], .int 1), (.isub, 1, [], .null), (.istore_n 1, 1, [1], .null), (.aload_n 0, 1, [0], .null), (.getfield 54, 3, [9, 14, 2, 790], .null), (.iload_n 1, 1, [1], .null), (.baload, 1, [], .null), (.ifCond .ne 31, 3, [51, 0, 1], .null), (.aload_n 0, 1, [0], .null), (.getfield 54, 3, [9, 14, 2, 790], .null), (.iload_n 1, 1, [1], .null), (.iconst 1, 1, [], .int 1), (.bastore, 1, [], .null), (.aload_n 0, 1, [0], .null), (.aload_n 0, 1, [0], .null), (.getfield 51, 3, [9, 13, 2, 789], .null), (.iload_n 1, 1, [1], .null), (.iaload, 1, [], .null), (.bipush 40, 2, [], .int 40), (.if_icmp .ne 7, 3, [46], .null), (.iconst 2, 1, [], .int 2), (.goto 4, 3, [47], .null)]),
  (46, [(.iconst 1, 1, [], .int 1), (.nop, 0, [47], .null)]),
  (47, [(.putfield 93, 3, [9, 16, 0, 792], .null), (.return_, 1, [], .null)]),
  (51, [(.aload_n 0, 1, [0], .null), (.getfield 51, 3, [9, 13, 2, 789], .null), (.iload_n 1, 1, [1], .null), (.iaload, 1, [], .null), (.bipush 40, 2, [], .int 40), (.if_icmp .ne 9, 3, [68, 0], .null), (.aload_n 0, 1, [0], .null), (.iconst 3, 1, [], .int 3), (.putfield 93, 3, [9, 16, 0, 792], .null), (.return_, 1, [], .null)]),
  (68, [(.aload_n 0, 1, [0], .null), (.dup, 1, [], .null), (.getfield 90, 3, [9, 15, 0, 791], .null), (.iconst 1, 1, [], .int 1), (.isub, 1, [], .null), (.putfield 90, 3, [9, 15, 0, 791], .null), (.goto (-78), 3, [0, 0], .null)]),
  (81, [(.aload_n 0, 1, [0], .null), (.aload_n 0, 1, [0], .null), (.getfield 96, 3, [9, 17, 0, 793], .null), (.ifCond .ne 7, 3, [93, 0], .null), (.iconst 4, 1, [], .int 4), (.goto 42, 3, [132, 0], .null)]),
  (93, [(.aload_n 0, 1, [0], .null), (.getfield 96, 3, [9, 17, 0, 793], .null), (.iconst 1, 1, [], .int 1), (.if_icmp .ne 7, 3, [105, 0], .null), (.iconst 5, 1, [], .int 5), (.goto 30, 3, [132, 0], .null)]),
  (105, [(.aload_n 0, 1, [0], .null), (.getfield 96, 3, [9, 17, 0, 793], .null), (.iconst 2, 1, [], .int 2), (.if_icmp .ne 8, 3, [118, 0], .null), (.bipush 6, 2, [], .int 6), (.goto 17, 3, [132, 0], .null)]),
  (118, [(.aload_n 0, 1, [0], .null), (.getfield 96, 3, [9, 17, 0, 793], .null), (.iconst 3, 1, [], .int 3), (.if_icmp .ne 7, 3, [130, 0], .null), (.iconst 1, 1, [], .int 1), (.goto 5, 3, [132, 0], .null)]),
  (130, [(.bipush 7, 2, [], .int 7), (.nop, 0, [132, 0], .null)]),
  (132, [(.putfield 93, 3, [9, 16, 0, 792], .null), (.aload_n 0, 1, [0], .null), (.getfield 96, 3, [9, 17, 0, 793], .null), (.iconst 3, 1, [], .int 3), (.if_icmp .ne 8, 3, [148], .null), (.aload_n 0, 1, [0], .null), (.iconst 4, 1, [], .int 4), (.putfield 96, 3, [9, 17, 0, 793], .null), (.nop, 0, [148], .null)]),
  (148, [(.return_, 1, [], .null)])], [[]], [0])
def k_Md_action : aK := ([(0, [(.aload_n 0, 1, [0], .null), (.iload_n 1, 1, [1], .null), (.bipush 59, 2, [], .int 59), (.if_icmp .ne 7, 3, [11, 0, 1], .null), (.iconst 0, 1, [], .int 0), (.goto 26, 3, [34, 0, 1], .null)]),
  (11, [(.iload_n 1, 1, [1], .null), (.bipush 64, 2, [], .int 64), (.if_icmp .ne 8, 3, [22, 0, 1], .null), (.bipush 10, 2, [], .int 10), (.goto 15, 3, [34, 0, 1], .null)]),
  (22, [(.iload_n 1, 1, [1], .null), (.bipush 42, 2, [], .int 42), (.if_icmp .ne 8, 3, [33, 0, 1], .null), (.bipush 12, 2, [], .int 12), (.goto 4, 3, [34, 0, 1], .null)]),
  (33, [(.iconst 1, 1, [], .int 1), (.nop, 0, [34, 0, 1], .null)]),
  (34, [(.putfield 93, 3, [9, 16, 0, 792], .null), (.aload_n 0, 1, [0], .null), (.iload_n 1, 1, [1], .null), (.bipush 33, 2, [], .int 33), (.if_icmp .ne 7, 3, [48, 1], .null), (.iconst 3, 1, [], .int 3), (.goto 4, 3, [49, 1], .null)]),
  (48, [(.iconst 4, 1, [], .int 4), (.nop, 0, [49, 1], .null)]),
  (49, [(.putfield 96, 3, [9, 17, 0, 793], .null), (.iload_n 1, 1, [1], .null), (.bipush 59, 2, [], .int 59), (.if_icmp .eq 39, 3, [94], .null), (.iload_n 1, 1, [1], .null), (.bipush 64, 2, [], .int 64), (.if_icmp .eq 33, 3, [94], .null), (.iload_n 1, 1, [1], .null), (.bipush 42, 2, [], .int 42), (.if_icmp .eq 27, 3, [94], .null), (.iload_n 1, 1, [1], .null), (.bipush 33, 2, [], .int 33), (.if_icmp .eq 21, 3, [94], .null), (.iload_n 1, 1, [1], .null), (.bipush 126, 2, [], .int 126), (.if_icmp .eq 15, 3, [94], .null), (.iload_n 1, 1, [1], .null), (.bipush 38, 2, [], .int 38), (.if_icmp .eq 9, 3, [94], .null), (.iload_n 1, 1, [1], .null), (.bipush 36, 2, [], .int 36), (.if_icmp .ne 7, 3, [98], .null), (.nop, 0, [94], .null)]),
  (94, [(.iconst 1, 1, [], .int 1), (.goto 4, 3, [99], .null)]),
  (98, [(.iconst 0, 1, [], .int 0), (.nop, 0, [99], .null)]),
  (99, [(.ireturn, 1, [3], .null)])], [[]], [0, 1])
def k_Md_clauses : aK := ([(0, [(.iconst 0, 1, [], .int 0), (.istore_n 2, 1, [2], .null), (.iconst 0, 1, [], .int 0), (.istore_n 3, 1, [3], .null), (.nop, 0, [4, 0, 1, 2, 3], .null)]),
  (4, [(.iload_n 3, 1, [3], .null), (.aload_n 0, 1, [0], .null), (.getfield 13, 3, [9, 1, 2, 777], .null), (.iload_n 1, 1, [1], .null), (.iaload, 1, [], .null), (.if_icmp .ge 28, 3, [39, 2], .null), (.aload_n 0, 1, [0], .null), (.getfield 7, 3, [9, 0, 2, 776], .null), (.bipush 60, 2, [], .int 60), (.iload_n 1, 1, [1], .null), (.imul, 1, [], .null), (.iload_n 3, 1, [3], .null), (.iadd, 1, [], .null), (.iaload, 1, [], .null), (.bipush 59, 2, [], .int 59), (.if_icmp .ne 6, 3, [33, 0, 1, 2, 3], .null), (.iinc 2 1, 3, [2], .int 1), (.nop, 0, [33, 0, 1, 2, 3], .null)]),
  (33, [(.iinc 3 1, 3, [3], .int 1), (.goto (-32), 3, [4, 0, 1, 2, 3], .null)]),
  (39, [(.iload_n 2, 1, [2], .null), (.ireturn, 1, [0], .null)])], [[]], [0, 1])
def k_Md_fault : aK := ([(0, [(.aload_n 0, 1, [0], .null), (.iload_n 1, 1, [1], .null), (.iconst 0, 1, [], .int 0), (.iconst 2, 1, [], .int 2), (.invokestatic 86, 3, [90, 3, 0, 0, 852, 853, 37], .null), (.iconst 1, 1, [], .int 1), (.invokevirtual 199, 3, [92, 3, 0, 0, 9, 859, 861, 5, 37], .null), (.ifCond .eq 11, 3, [22], .null), (.aload_n 0, 1, [0], .null), (.iload_n 1, 1, [1], .null), (.invokevirtual 203, 3, [95, 2, 0, 0, 9, 871, 873, 6, 37], .null), (.goto 4, 3, [23], .null)]),
  (22, [(.iconst 0, 1, [], .int 0), (.nop, 0, [23], .null)]),
  (23, [(.ireturn, 1, [0], .null)])], [[]], [0, 1])
def k_Md_spawn : aK := ([(0, [(.aload_n 0, 1, [0], .null), (.iload_n 1, 1, [1], .null), (.iconst 0, 1, [], .int 0), (.iconst 2, 1, [], .int 2), (.invokestatic 86, 3, [90, 3, 0, 0, 852, 853, 37], .null), (.ifCond .eq 20, 3, [27, 0, 1, 2], .null), (.iload_n 2, 1, [2], .null), (.sipush (-999), 3, [], .int (-999)), (.sipush 999, 3, [], .int 999), (.invokestatic 86, 3, [90, 3, 0, 0, 852, 853, 37], .null), (.ifCond .eq 7, 3, [27, 0, 1, 2], .null), (.iconst 1, 1, [], .int 1), (.goto 4, 3, [28, 0, 1, 2], .null)]),
  (27, [(.iconst 0, 1, [], .int 0), (.nop, 0, [28, 0, 1, 2], .null)]),
  (28, [(.iconst 2, 1, [], .int 2), (.invokevirtual 199, 3, [92, 3, 0, 0, 9, 859, 861, 5, 37], .null), (.ifCond .ne 5, 3, [37, 0, 1, 2], .null), (.iconst 0, 1, [], .int 0), (.ireturn, 1, [0], .null)]),
  (37, [(.aload_n 0, 1, [0], .null), (.aload_n 0, 1, [0], .null), (.getfield 16, 3, [9, 2, 2, 778], .null), (.iload_n 1, 1, [1], .null), (.baload, 1, [], .null), (.ifCond .eq 16, 3, [60, 0, 1, 2], .null), (.aload_n 0, 1, [0], .null), (.invokevirtual 160, 3, [106, 1, 0, 0, 9, 912, 914, 12, 37], .null), (.bipush 6, 2, [], .int 6), (.if_icmp .ge 7, 3, [60, 0, 1, 2], .null), (.iconst 1, 1, [], .int 1), (.goto 4, 3, [61, 0, 1, 2], .null)]),
  (60, [(.iconst 0, 1, [], .int 0), (.nop, 0, [61, 0, 1, 2], .null)]),
  (61, [(.iconst 1, 1, [], .int 1), (.invokevirtual 199, 3, [92, 3, 0, 0, 9, 859, 861, 5, 37], .null), (.ifCond .ne 5, 3, [70, 0, 1, 2], .null), (.iconst 0, 1, [], .int 0), (.ireturn, 1, [0], .null)]),
  (70, [(.aload_n 0, 1, [0], .null), (.iload_n 1, 1, [1], .null), (.iload_n 2, 1, [2], .null), (.invokestatic 128, 3, [107, 1, 1, 0, 916, 917, 37], .null), (.invokevirtual 174, 3, [109, 3, 0, 0, 9, 922, 924, 13, 37], .null), (.ireturn, 1, [0], .null)])], [[]], [0, 1, 2])
def k_Md_free : aK := ([(0, [(.iconst 0, 1, [], .int 0), (.istore_n 1, 1, [1], .null), (.nop, 0, [2, 0, 1], .null)]),
  (2, [(.iload_n 1, 1, [1], .null), (.bipush 6, 2, [], .int 6), (.if_icmp .ge 18, 3, [23, 1], .null), (.aload_n 0, 1, [0], .null), (.getfield 20, 3, [9, 3, 2, 779], .null), (.iload_n 1, 1, [1], .null), (.iaload, 1, [], .null), (.ifCond .eq 9, 3, [23, 1], .null), (.iinc 1 1, 3, [1], .int 1), (.goto (-18), 3, [2, 0, 1], .null)]),
  (23, [(.iload_n 1, 1, [1], .null), (.ireturn, 1, [0], .null)])], [[]], [0])
def k_Md_whole : aK := ([(0, [(.iload_n 0, 1, [0], .null), (.sipush 999, 3, [], .int 999), (.iadd, 1, [], .null), (.invokestatic 64, 3, [108, 1, 1, 0, 919, 920, 37], .null), (.lreturn, 1, [], .null)])], [[]], [0])
def k_Md_leafTerm : aK := ([(0, [(.lconst 1, 1, [], .long 1), (.iload_n 0, 1, [0], .null), (.i2l, 1, [], .null), (.bipush 10, 2, [], .int 10), (.lshl, 1, [], .null), (.lor, 1, [], .null), (.lreturn, 1, [], .null)])], [[]], [0])
def k_Md_make : aK := ([(0, [(.aload_n 0, 1, [0], .null), (.invokevirtual 160, 3, [106, 1, 0, 0, 9, 912, 914, 12, 37], .null), (.istore 4, 2, [4], .null), (.aload_n 0, 1, [0], .null), (.getfield 20, 3, [9, 3, 2, 779], .null), (.iload 4, 2, [4], .null), (.iconst 1, 1, [], .int 1), (.iastore, 1, [], .null), (.aload_n 0, 1, [0], .null), (.getfield 23, 3, [9, 4, 2, 780], .null), (.iload 4, 2, [4], .null), (.lload_n 2, 1, [2], .null), (.lastore, 1, [], .null), (.aload_n 0, 1, [0], .null), (.getfield 30, 3, [9, 6, 2, 782], .null), (.iload 4, 2, [4], .null), (.iconst 0, 1, [], .int 0), (.iastore, 1, [], .null), (.aload_n 0, 1, [0], .null), (.getfield 33, 3, [9, 7, 2, 783], .null), (.iload 4, 2, [4], .null), (.iconst 0, 1, [], .int 0), (.bastore, 1, [], .null), (.aload_n 0, 1, [0], .null), (.getfield 13, 3, [9, 1, 2, 777], .null), (.iconst 3, 1, [], .int 3), (.iload 4, 2, [4], .null), (.iadd, 1, [], .null), (.aload_n 0, 1, [0], .null), (.getfield 13, 3, [9, 1, 2, 777], .null), (.iload_n 1, 1, [1], .null), (.iaload, 1, [], .null), (.iastore, 1, [], .null), (.iconst 0, 1, [], .int 0), (.istore 5, 2, [5], .null), (.nop, 0, [56, 0, 1, 4, 5], .null)]),
  (56, [(.iload 5, 2, [5], .null), (.aload_n 0, 1, [0], .null), (.getfield 13, 3, [9, 1, 2, 777], .null), (.iload_n 1, 1, [1], .null), (.iaload, 1, [], .null), (.if_icmp .ge 36, 3, [100, 4], .null), (.aload_n 0, 1, [0], .null), (.getfield 7, 3, [9, 0, 2, 776], .null), (.bipush 60, 2, [], .int 60), (.iconst 3, 1, [], .int 3), (.iload 4, 2, [4], .null), (.iadd, 1, [], .null), (.imul, 1, [], .null), (.iload 5, 2, [5], .null), (.iadd, 1, [], .null), (.aload_n 0, 1, [0], .null), (.getfield 7, 3, [9, 0, 2, 776], .null), (.bipush 60, 2, [], .int 60), (.iload_n 1, 1, [1], .null), (.imul, 1, [], .null), (.iload 5, 2, [5], .null), (.iadd, 1, [], .null), (.iaload, 1, [], .null), (.iastore, 1, [], .null), (.iinc 5 1, 3, [5], .int 1), (.goto (-41), 3, [56, 0, 1, 4, 5], .null)]),
  (100, [(.iload 4, 2, [4], .null), (.ireturn, 1, [0], .null)])], [[]], [0, 1, 2])
def k_Md_send : aK := ([(0, [(.iload_n 1, 1, [1], .null), (.iconst 0, 1, [], .int 0), (.iconst 5, 1, [], .int 5), (.invokestatic 86, 3, [90, 3, 0, 0, 852, 853, 37], .null), (.ifCond .eq 48, 3, [54, 0, 1, 2, 3, 4], .null), (.iload_n 2, 1, [2], .null), (.iconst 0, 1, [], .int 0), (.iconst 3, 1, [], .int 3), (.invokestatic 86, 3, [90, 3, 0, 0, 852, 853, 37], .null), (.ifCond .eq 39, 3, [54, 0, 1, 2, 3, 4], .null), (.iload_n 3, 1, [3], .null), (.iload_n 2, 1, [2], .null), (.iconst 1, 1, [], .int 1), (.if_icmp .ne 7, 3, [28, 0, 1, 2, 3, 4], .null), (.iconst 0, 1, [], .int 0), (.goto 6, 3, [31, 0, 1, 2, 3, 4], .null)]),
  (28, [(.sipush (-999), 3, [], .int (-999)), (.nop, 0, [31, 0, 1, 2, 3, 4], .null)]),
  (31, [(.iload_n 2, 1, [2], .null), (.iconst 1, 1, [], .int 1), (.if_icmp .ne 8, 3, [41, 0, 1, 2, 3, 4], .null), (.bipush 7, 2, [], .int 7), (.goto 6, 3, [44, 0, 1, 2, 3, 4], .null)]),
  (41, [(.sipush 999, 3, [], .int 999), (.nop, 0, [44, 0, 1, 2, 3, 4], .null)]),
  (44, [(.invokestatic 86, 3, [90, 3, 0, 0, 852, 853, 37], .null), (.ifCond .eq 7, 3, [54, 0, 1, 2, 3, 4], .null), (.iconst 1, 1, [], .int 1), (.goto 4, 3, [55, 0, 1, 2, 3, 4], .null)]),
  (54, [(.iconst 0, 1, [], .int 0), (.nop, 0, [55, 0, 1, 2, 3, 4], .null)]),
  (55, [(.istore 5, 2, [5], .null), (.iload_n 2, 1, [2], .null), (.iconst 1, 1, [], .int 1), (.if_icmp .le 25, 3, [84, 0, 1, 2, 3, 4, 5], .null), (.iload 5, 2, [5], .null), (.iload 4, 2, [4], .null), (.iconst 0, 1, [], .int 0), (.iload_n 2, 1, [2], .null), (.iconst 2, 1, [], .int 2), (.if_icmp .ne 8, 3, [77, 0, 1, 2, 3, 4], .null), (.bipush 7, 2, [], .int 7), (.goto 4, 3, [78, 0, 1, 2, 3, 4], .null)]),
  (77, [(.iconst 5, 1, [], .int 5), (.nop, 0, [78, 0, 1, 2, 3, 4], .null)]),
  (78, [(.invokestatic 86, 3, [90, 3, 0, 0, 852, 853, 37], .null), (.iand, 1, [], .null), (.istore 5, 2, [5], .null), (.nop, 0, [84, 0, 1, 2, 3, 4, 5], .null)]),
  (84, [(.aload_n 0, 1, [0], .null), (.iload 5, 2, [5], .null), (.iconst 2, 1, [], .int 2), (.invokevirtual 199, 3, [92, 3, 0, 0, 9, 859, 861, 5, 37], .null), (.ifCond .ne 5, 3, [96, 0, 1, 2, 3, 4], .null), (.iconst 0, 1, [], .int 0), (.ireturn, 1, [0], .null)]),
  (96, [(.aload_n 0, 1, [0], .null), (.aload_n 0, 1, [0], .null), (.getfield 45, 3, [9, 11, 2, 787], .null), (.bipush 36, 2, [], .int 36), (.iload_n 1, 1, [1], .null), (.iadd, 1, [], .null), (.iaload, 1, [], .null), (.iconst 4, 1, [], .int 4), (.if_icmp .ge 7, 3, [114, 0, 1, 2, 3, 4], .null), (.iconst 1, 1, [], .int 1), (.goto 4, 3, [115, 0, 1, 2, 3, 4], .null)]),
  (114, [(.iconst 0, 1, [], .int 0), (.nop, 0, [115, 0, 1, 2, 3, 4], .null)]),
  (115, [(.iconst 1, 1, [], .int 1), (.invokevirtual 199, 3, [92, 3, 0, 0, 9, 859, 861, 5, 37], .null), (.ifCond .ne 5, 3, [124, 0, 1, 2, 3, 4], .null), (.iconst 0, 1, [], .int 0), (.ireturn, 1, [0], .null)]),
  (124, [(.aload_n 0, 1, [0], .null), (.bipush 6, 2, [], .int 6), (.iload_n 1, 1, [1], .null), (.iload_n 2, 1, [2], .null), (.ifCond .ne 10, 3, [139, 0, 1, 2, 3, 4], .null), (.iload_n 3, 1, [3], .null), (.invokestatic 128, 3, [107, 1, 1, 0, 916, 917, 37], .null), (.goto 40, 3, [176, 0, 1], .null)]),
  (139, [(.iload_n 2, 1, [2], .null), (.iconst 1, 1, [], .int 1), (.if_icmp .ne 10, 3, [151, 0, 1, 2, 3, 4], .null), (.iload_n 3, 1, [3], .null), (.invokestatic 134, 3, [111, 1, 1, 0, 930, 931, 37], .null), (.goto 28, 3, [176, 0, 1], .null)]),
  (151, [(.iload_n 2, 1, [2], .null), (.iconst 2, 1, [], .int 2), (.if_icmp .ne 11, 3, [164, 0, 1, 3, 4], .null), (.iload 4, 2, [4], .null), (.invokestatic 134, 3, [111, 1, 1, 0, 930, 931, 37], .null), (.goto 8, 3, [169, 0, 1, 3], .null)]),
  (164, [(.iload 4, 2, [4], .null), (.invokestatic 131, 3, [112, 1, 1, 0, 933, 934, 37], .null), (.nop, 0, [169, 0, 1, 3], .null)]),
  (169, [(.iload_n 3, 1, [3], .null), (.invokestatic 128, 3, [107, 1, 1, 0, 916, 917, 37], .null), (.invokestatic 140, 3, [113, 2, 1, 0, 936, 937, 37], .null), (.nop, 0, [176, 0, 1], .null)]),
  (176, [(.invokevirtual 166, 3, [115, 4, 9, 0, 9, 944, 946, 14, 37], .null), (.aload_n 0, 1, [0], .null), (.getfield 45, 3, [9, 11, 2, 787], .null), (.bipush 36, 2, [], .int 36), (.iload_n 1, 1, [1], .null), (.iadd, 1, [], .null), (.iaload, 1, [], .null), (.ireturn, 1, [0], .null)])], [[]], [0, 1, 2, 3, 4])
def k_Md_atom : aK := ([(0, [(.sipush 1999, 3, [], .int 1999), (.iload_n 0, 1, [0], .null), (.iadd, 1, [], .null), (.invokestatic 64, 3, [108, 1, 1, 0, 919, 920, 37], .null), (.lreturn, 1, [], .null)])], [[]], [0])
def k_Md_actor : aK := ([(0, [(.sipush 2007, 3, [], .int 2007), (.iload_n 0, 1, [0], .null), (.iadd, 1, [], .null), (.invokestatic 64, 3, [108, 1, 1, 0, 919, 920, 37], .null), (.lreturn, 1, [], .null)])], [[]], [0])
def k_Md_pair : aK := ([(0, [(.lload_n 0, 1, [0], .null), (.invokestatic 70, 3, [114, 1, 0, 0, 939, 940, 37], .null), (.istore 4, 2, [4], .null), (.lload_n 2, 1, [2], .null), (.invokestatic 70, 3, [114, 1, 0, 0, 939, 940, 37], .null), (.istore 5, 2, [5], .null), (.iload 4, 2, [4], .null), (.iload 5, 2, [5], .null), (.iadd, 1, [], .null), (.iconst 4, 1, [], .int 4), (.if_icmp .le 5, 3, [23, 0, 2, 4, 5], .null), (.lconst 0, 1, [], .long 0), (.lreturn, 1, [], .null)]),
  (23, [(.lconst 1, 1, [], .long 1), (.lload_n 0, 1, [0], .null), (.iconst 3, 1, [], .int 3), (.lshr, 1, [], .null), (.ldc2_w 78, 3, [943], .long 127), (.land, 1, [], .null), (.iconst 1, 1, [], .int 1), (.lshl, 1, [], .null), (.lor, 1, [], .null), (.lload_n 2, 1, [2], .null), (.iconst 3, 1, [], .int 3), (.lshr, 1, [], .null), (.ldc2_w 78, 3, [943], .long 127), (.land, 1, [], .null), (.iconst 2, 1, [], .int 2), (.iload 4, 2, [4], .null), (.imul, 1, [], .null), (.lshl, 1, [], .null), (.lor, 1, [], .null), (.lstore 6, 2, [6], .null), (.iload 4, 2, [4], .null), (.iload 5, 2, [5], .null), (.iadd, 1, [], .null), (.i2l, 1, [], .null), (.lload 6, 2, [6], .null), (.iconst 3, 1, [], .int 3), (.lshl, 1, [], .null), (.lor, 1, [], .null), (.lload_n 0, 1, [0], .null), (.bipush 10, 2, [], .int 10), (.lshr, 1, [], .null), (.bipush 10, 2, [], .int 10), (.lshl, 1, [], .null), (.lor, 1, [], .null), (.lload_n 2, 1, [2], .null), (.bipush 10, 2, [], .int 10), (.lshr, 1, [], .null), (.bipush 10, 2, [], .int 10), (.bipush 11, 2, [], .int 11), (.iload 4, 2, [4], .null), (.imul, 1, [], .null), (.iadd, 1, [], .null), (.lshl, 1, [], .null), (.lor, 1, [], .null), (.lreturn, 1, [], .null)])], [[]], [0, 2])
def k_Md_leaves : aK := ([(0, [(.lload_n 0, 1, [0], .null), (.ldc2_w 68, 3, [942], .long 7), (.land, 1, [], .null), (.l2i, 1, [], .null), (.ireturn, 1, [0], .null)])], [[]], [0])
def k_Md_put : aK := ([(0, [(.bipush 6, 2, [], .int 6), (.iload_n 1, 1, [1], .null), (.imul, 1, [], .null), (.iload_n 2, 1, [2], .null), (.iadd, 1, [], .null), (.istore 5, 2, [5], .null), (.aload_n 0, 1, [0], .null), (.getfield 45, 3, [9, 11, 2, 787], .null), (.iload 5, 2, [5], .null), (.iaload, 1, [], .null), (.bipush 8, 2, [], .int 8), (.if_icmp .ne 4, 3, [21, 0, 3, 5], .null), (.return_, 1, [], .null)]),
  (21, [(.aload_n 0, 1, [0], .null), (.getfield 42, 3, [9, 10, 2, 786], .null), (.bipush 8, 2, [], .int 8), (.iload 5, 2, [5], .null), (.imul, 1, [], .null), (.aload_n 0, 1, [0], .null), (.getfield 45, 3, [9, 11, 2, 787], .null), (.iload 5, 2, [5], .null), (.iaload, 1, [], .null), (.iadd, 1, [], .null), (.lload_n 3, 1, [3], .null), (.lastore, 1, [], .null), (.aload_n 0, 1, [0], .null), (.getfield 45, 3, [9, 11, 2, 787], .null), (.iload 5, 2, [5], .null), (.dup2, 1, [], .null), (.iaload, 1, [], .null), (.iconst 1, 1, [], .int 1), (.iadd, 1, [], .null), (.iastore, 1, [], .null), (.return_, 1, [], .null)])], [[]], [0, 1, 2, 3])
def k_Md_deliver : aK := ([(0, [(.aload_n 0, 1, [0], .null), (.iload_n 1, 1, [1], .null), (.iconst 0, 1, [], .int 0), (.bipush 6, 2, [], .int 6), (.invokestatic 86, 3, [90, 3, 0, 0, 852, 853, 37], .null), (.ifCond .eq 16, 3, [24, 0, 1, 2], .null), (.iload_n 2, 1, [2], .null), (.iconst 0, 1, [], .int 0), (.iconst 5, 1, [], .int 5), (.invokestatic 86, 3, [90, 3, 0, 0, 852, 853, 37], .null), (.ifCond .eq 7, 3, [24, 0, 1, 2], .null), (.iconst 1, 1, [], .int 1), (.goto 4, 3, [25, 0, 1, 2], .null)]),
  (24, [(.iconst 0, 1, [], .int 0), (.nop, 0, [25, 0, 1, 2], .null)]),
  (25, [(.iconst 2, 1, [], .int 2), (.invokevirtual 199, 3, [92, 3, 0, 0, 9, 859, 861, 5, 37], .null), (.ifCond .ne 5, 3, [34, 0, 1, 2], .null), (.iconst 0, 1, [], .int 0), (.ireturn, 1, [0], .null)]),
  (34, [(.bipush 6, 2, [], .int 6), (.iload_n 1, 1, [1], .null), (.imul, 1, [], .null), (.iload_n 2, 1, [2], .null), (.iadd, 1, [], .null), (.istore_n 3, 1, [3], .null), (.aload_n 0, 1, [0], .null), (.aload_n 0, 1, [0], .null), (.getfield 45, 3, [9, 11, 2, 787], .null), (.iload_n 3, 1, [3], .null), (.iaload, 1, [], .null), (.ifCond .le 7, 3, [55, 0, 1, 2, 3], .null), (.iconst 1, 1, [], .int 1), (.goto 4, 3, [56, 0, 1, 2, 3], .null)]),
  (55, [(.iconst 0, 1, [], .int 0), (.nop, 0, [56, 0, 1, 2, 3], .null)]),
  (56, [(.iconst 3, 1, [], .int 3), (.invokevirtual 199, 3, [92, 3, 0, 0, 9, 859, 861, 5, 37], .null), (.ifCond .ne 5, 3, [65, 0, 1, 2, 3], .null), (.iconst 0, 1, [], .int 0), (.ireturn, 1, [0], .null)]),
  (65, [(.aload_n 0, 1, [0], .null), (.getfield 42, 3, [9, 10, 2, 786], .null), (.bipush 8, 2, [], .int 8), (.iload_n 3, 1, [3], .null), (.imul, 1, [], .null), (.laload, 1, [], .null), (.lstore 4, 2, [4], .null), (.lload 4, 2, [4], .null), (.ldc2_w 164, 3, [952], .long 4611686018427387904), (.land, 1, [], .null), (.lconst 0, 1, [], .long 0), (.lcmp, 1, [], .null), (.ifCond .eq 7, 3, [91, 0, 1, 2, 3, 4], .null), (.iconst 1, 1, [], .int 1), (.goto 4, 3, [92, 0, 1, 2, 3, 4], .null)]),
  (91, [(.iconst 0, 1, [], .int 0), (.nop, 0, [92, 0, 1, 2, 3, 4], .null)]),
  (92, [(.istore 6, 2, [6], .null), (.lload 4, 2, [4], .null), (.ldc2_w 209, 3, [953], .long (-4611686018427387905)), (.land, 1, [], .null), (.lstore 7, 2, [7], .null), (.aload_n 0, 1, [0], .null), (.getfield 20, 3, [9, 3, 2, 779], .null), (.iload_n 2, 1, [2], .null), (.iaload, 1, [], .null), (.iconst 1, 1, [], .int 1), (.if_icmp .ne 7, 3, [116, 0, 1, 2, 3, 6, 7], .null), (.iconst 1, 1, [], .int 1), (.goto 4, 3, [117, 0, 1, 2, 3, 6, 7], .null)]),
  (116, [(.iconst 0, 1, [], .int 0), (.nop, 0, [117, 0, 1, 2, 3, 6, 7], .null)]),
  (117, [(.istore 9, 2, [9], .null), (.iload 9, 2, [9], .null), (.ifCond .eq 21, 3, [142, 0, 1, 2, 3, 6, 7, 9], .null), (.iload 6, 2, [6], .null), (.ifCond .eq 12, 3, [138, 0, 1, 2, 3, 6, 7, 9], .null), (.aload_n 0, 1, [0], .null), (.getfield 33, 3, [9, 7, 2, 783], .null), (.iload_n 2, 1, [2], .null), (.baload, 1, [], .null), (.ifCond .eq 7, 3, [142, 0, 1, 2, 3, 6, 7, 9], .null), (.nop, 0, [138, 0, 1, 2, 3, 6, 7, 9], .null)]),
  (138, [(.iconst 1, 1, [], .int 1), (.goto 4, 3, [143, 0, 1, 2, 3, 6, 7, 9], .null)]),
  (142, [(.iconst 0, 1, [], .int 0), (.nop, 0, [143, 0, 1, 2, 3, 6, 7, 9], .null)]),
  (143, [(.istore 10, 2, [10], .null), (.aload_n 0, 1, [0], .null), (.iload 10, 2, [10], .null), (.ifCond .eq 14, 3, [162, 0, 1, 2, 3, 6, 7, 9, 10], .null), (.aload_n 0, 1, [0], .null), (.getfield 30, 3, [9, 6, 2, 782], .null), (.iload_n 2, 1, [2], .null), (.iaload, 1, [], .null), (.bipush 6, 2, [], .int 6), (.if_icmp .ge 7, 3, [166, 0, 1, 2, 3, 6, 7, 9, 10], .null), (.nop, 0, [162, 0, 1, 2, 3, 6, 7, 9, 10], .null)]),
  (162, [(.iconst 1, 1, [], .int 1), (.goto 4, 3, [167, 0, 1, 2, 3, 6, 7, 9, 10], .null)]),
  (166, [(.iconst 0, 1, [], .int 0), (.nop, 0, [167, 0, 1, 2, 3, 6, 7, 9, 10], .null)]),
  (167, [(.iconst 1, 1, [], .int 1), (.invokevirtual 199, 3, [92, 3, 0, 0, 9, 859, 861, 5, 37], .null), (.ifCond .ne 5, 3, [176, 0, 1, 2, 3, 6, 7, 9, 10], .null), (.iconst 0, 1, [], .int 0), (.ireturn, 1, [0], .null)]),
  (176, [(.aload_n 0, 1, [0], .null), (.getfield 45, 3, [9, 11, 2, 787], .null), (.iload_n 3, 1, [3], .null), (.dup2, 1, [], .null), (.iaload, 1, [], .null), (.iconst 1, 1, [], .int 1), (.isub, 1, [], .null), (.iastore, 1, [], .null), (.iconst 0, 1, [], .int 0), (.istore 11, 2, [11], .null), (.nop, 0, [189, 0, 1, 2, 3, 6, 7, 9, 10, 11], .null)]),
  (189, [(.iload 11, 2, [11], .null), (.aload_n 0, 1, [0], .null), (.getfield 45, 3, [9, 11, 2, 787], .null), (.iload_n 3, 1, [3], .null), (.iaload, 1, [], .null), (.if_icmp .ge 35, 3, [232, 0, 1, 2, 6, 7, 9, 10], .null), (.aload_n 0, 1, [0], .null), (.getfield 42, 3, [9, 10, 2, 786], .null), (.bipush 8, 2, [], .int 8), (.iload_n 3, 1, [3], .null), (.imul, 1, [], .null), (.iload 11, 2, [11], .null), (.iadd, 1, [], .null), (.aload_n 0, 1, [0], .null), (.getfield 42, 3, [9, 10, 2, 786], .null), (.bipush 8, 2, [], .int 8), (.iload_n 3, 1, [3], .null), (.imul, 1, [], .null), (.iload 11, 2, [11], .null), (.iadd, 1, [], .null), (.iconst 1, 1, [], .int 1), (.iadd, 1, [], .null), (.laload, 1, [], .null), (.lastore, 1, [], .null), (.iinc 11 1, 3, [11], .int 1), (.goto (-40), 3, [189, 0, 1, 2, 3, 6, 7, 9, 10, 11], .null)]),
  (232, [(.iload 9, 2, [9], .null), (.ifCond .ne 5, 3, [239, 0, 1, 2, 6, 7, 10], .null), (.iconst 0, 1, [], .int 0), (.ireturn, 1, [0], .null)]),
  (239, [(.iload 10, 2, [10], .null), (.ifCond .eq 67, 3, [308, 0, 2, 7], .null), (.aload_n 0, 1, [0], .null), (.getfield 27, 3, [9, 5, 2, 781], .null), (.bipush 6, 2, [], .int 6), (.iload_n 2, 1, [2], .null), (.imul, 1, [], .null), (.aload_n 0, 1, [0], .null), (.getfield 30, 3, [9, 6, 2, 782], .null), (.iload_n 2, 1, [2], .null), (.iaload, 1, [], .null), (.iadd, 1, [], .null), (.iload 6, 2, [6], .null), (.ifCond .eq 23, 3, [284, 0, 2, 6, 7], .null), (.bipush 6, 2, [], .int 6), (.invokestatic 134, 3, [111, 1, 1, 0, 930, 931, 37], .null), (.iload_n 1, 1, [1], .null), (.invokestatic 131, 3, [112, 1, 1, 0, 933, 934, 37], .null), (.lload 7, 2, [7], .null), (.invokestatic 140, 3, [113, 2, 1, 0, 936, 937, 37], .null), (.invokestatic 140, 3, [113, 2, 1, 0, 936, 937, 37], .null), (.goto 5, 3, [286, 0, 2, 6], .null)]),
  (284, [(.lload 7, 2, [7], .null), (.nop, 0, [286, 0, 2, 6], .null)]),
  (286, [(.lastore, 1, [], .null), (.aload_n 0, 1, [0], .null), (.getfield 30, 3, [9, 6, 2, 782], .null), (.iload_n 2, 1, [2], .null), (.dup2, 1, [], .null), (.iaload, 1, [], .null), (.iconst 1, 1, [], .int 1), (.iadd, 1, [], .null), (.iastore, 1, [], .null), (.iload 6, 2, [6], .null), (.ifCond .eq 7, 3, [306], .null), (.iconst 2, 1, [], .int 2), (.goto 4, 3, [307], .null)]),
  (306, [(.iconst 1, 1, [], .int 1), (.nop, 0, [307], .null)]),
  (307, [(.ireturn, 1, [0], .null)]),
  (308, [(.lload 7, 2, [7], .null), (.iconst 0, 1, [], .int 0), (.invokestatic 134, 3, [111, 1, 1, 0, 930, 931, 37], .null), (.lcmp, 1, [], .null), (.ifCond .ne 5, 3, [320, 0, 2, 7], .null), (.iconst 3, 1, [], .int 3), (.ireturn, 1, [0], .null)]),
  (320, [(.aload_n 0, 1, [0], .null), (.iload_n 2, 1, [2], .null), (.lload 7, 2, [7], .null), (.iconst 0, 1, [], .int 0), (.invokestatic 74, 3, [117, 2, 0, 0, 954, 955, 37], .null), (.invokevirtual 184, 3, [118, 3, 0, 0, 9, 957, 959, 15, 37], .null), (.istore 11, 2, [11], .null), (.iconst 4, 1, [], .int 4), (.ireturn, 1, [0], .null)])], [[]], [0, 1, 2])
def k_Md_leafOf : aK := ([(0, [(.lload_n 0, 1, [0], .null), (.bipush 10, 2, [], .int 10), (.bipush 11, 2, [], .int 11), (.iload_n 2, 1, [2], .null), (.imul, 1, [], .null), (.iadd, 1, [], .null), (.lshr, 1, [], .null), (.l2i, 1, [], .null), (.sipush 2047, 3, [], .int 2047), (.iand, 1, [], .null), (.ireturn, 1, [0], .null)])], [[]], [0, 2])
def k_Md_end : aK := ([(0, [(.aload_n 0, 1, [0], .null), (.getfield 20, 3, [9, 3, 2, 779], .null), (.iload_n 1, 1, [1], .null), (.iconst 2, 1, [], .int 2), (.iastore, 1, [], .null), (.aload_n 0, 1, [0], .null), (.getfield 30, 3, [9, 6, 2, 782], .null), (.iload_n 1, 1, [1], .null), (.iconst 0, 1, [], .int 0), (.iastore, 1, [], .null), (.aload_n 0, 1, [0], .null), (.getfield 36, 3, [9, 8, 2, 784], .null), (.iload_n 1, 1, [1], .null), (.iload_n 2, 1, [2], .null), (.iastore, 1, [], .null), (.iconst 0, 1, [], .int 0), (.istore_n 3, 1, [3], .null), (.iconst 0, 1, [], .int 0), (.istore 4, 2, [4], .null), (.nop, 0, [26, 0, 1, 2, 3, 4], .null)]),
  (26, [(.iload 4, 2, [4], .null), (.bipush 6, 2, [], .int 6), (.if_icmp .ge 50, 3, [80, 3], .null), (.aload_n 0, 1, [0], .null), (.getfield 39, 3, [9, 9, 2, 785], .null), (.bipush 6, 2, [], .int 6), (.iload_n 1, 1, [1], .null), (.imul, 1, [], .null), (.iload 4, 2, [4], .null), (.iadd, 1, [], .null), (.baload, 1, [], .null), (.ifCond .eq 29, 3, [74, 0, 1, 2, 3, 4], .null), (.aload_n 0, 1, [0], .null), (.iload_n 1, 1, [1], .null), (.iload 4, 2, [4], .null), (.iload_n 2, 1, [2], .null), (.invokestatic 64, 3, [108, 1, 1, 0, 919, 920, 37], .null), (.ldc2_w 164, 3, [952], .long 4611686018427387904), (.lor, 1, [], .null), (.invokevirtual 166, 3, [115, 4, 9, 0, 9, 944, 946, 14, 37], .null), (.aload_n 0, 1, [0], .null), (.iload_n 1, 1, [1], .null), (.iload 4, 2, [4], .null), (.iconst 0, 1, [], .int 0), (.invokevirtual 170, 3, [119, 4, 9, 0, 9, 961, 963, 16, 37], .null), (.iinc 3 1, 3, [3], .int 1), (.nop, 0, [74, 0, 1, 2, 3, 4], .null)]),
  (74, [(.iinc 4 1, 3, [4], .int 1), (.goto (-51), 3, [26, 0, 1, 2, 3, 4], .null)]),
  (80, [(.iload_n 3, 1, [3], .null), (.ireturn, 1, [0], .null)])], [[]], [0, 1, 2])
def k_Md_link : aK := ([(0, [(.aload_n 0, 1, [0], .null), (.getfield 39, 3, [9, 9, 2, 785], .null), (.bipush 6, 2, [], .int 6), (.iload_n 1, 1, [1], .null), (.imul, 1, [], .null), (.iload_n 2, 1, [2], .null), (.iadd, 1, [], .null), (.iload_n 3, 1, [3], .null), (.bastore, 1, [], .null), (.aload_n 0, 1, [0], .null), (.getfield 39, 3, [9, 9, 2, 785], .null), (.bipush 6, 2, [], .int 6), (.iload_n 2, 1, [2], .null), (.imul, 1, [], .null), (.iload_n 1, 1, [1], .null), (.iadd, 1, [], .null), (.iload_n 3, 1, [3], .null), (.bastore, 1, [], .null), (.return_, 1, [], .null)])], [[]], [0, 1, 2, 3])
def k_Md_step : aK := ([(0, [(.aload_n 0, 1, [0], .null), (.iload_n 1, 1, [1], .null), (.iconst 0, 1, [], .int 0), (.iconst 5, 1, [], .int 5), (.invokestatic 86, 3, [90, 3, 0, 0, 852, 853, 37], .null), (.iconst 2, 1, [], .int 2), (.invokevirtual 199, 3, [92, 3, 0, 0, 9, 859, 861, 5, 37], .null), (.ifCond .ne 5, 3, [16, 0, 1], .null), (.iconst 0, 1, [], .int 0), (.ireturn, 1, [0], .null)]),
  (16, [(.aload_n 0, 1, [0], .null), (.aload_n 0, 1, [0], .null), (.getfield 20, 3, [9, 3, 2, 779], .null), (.iload_n 1, 1, [1], .null), (.iaload, 1, [], .null), (.iconst 1, 1, [], .int 1), (.if_icmp .ne 7, 3, [31, 0, 1], .null), (.iconst 1, 1, [], .int 1), (.goto 4, 3, [32, 0, 1], .null)]),
  (31, [(.iconst 0, 1, [], .int 0), (.nop, 0, [32, 0, 1], .null)]),
  (32, [(.iconst 1, 1, [], .int 1), (.invokevirtual 199, 3, [92, 3, 0, 0, 9, 859, 861, 5, 37], .null), (.ifCond .ne 5, 3, [41, 0, 1], .null), (.iconst 0, 1, [], .int 0), (.ireturn, 1, [0], .null)]),
  (41, [(.bipush 60, 2, [], .int 60), (.iconst 3, 1, [], .int 3), (.iload_n 1, 1, [1], .null), (.iadd, 1, [], .null), (.imul, 1, [], .null), (.istore_n 2, 1, [2], .null), (.iconst 0, 1, [], .int 0), (.istore_n 3, 1, [3], .null), (.nop, 0, [50, 0, 1, 2, 3], .null)]),
  (50, [(.iload_n 3, 1, [3], .null), (.aload_n 0, 1, [0], .null), (.getfield 30, 3, [9, 6, 2, 782], .null), (.iload_n 1, 1, [1], .null), (.iaload, 1, [], .null), (.if_icmp .ge 124, 3, [181, 0], .null), (.iconst 0, 1, [], .int 0), (.istore 4, 2, [4], .null), (.iload_n 2, 1, [2], .null), (.istore 5, 2, [5], .null), (.nop, 0, [66, 0, 1, 2, 3, 4, 5], .null)]),
  (66, [(.iload 5, 2, [5], .null), (.iload_n 2, 1, [2], .null), (.aload_n 0, 1, [0], .null), (.getfield 13, 3, [9, 1, 2, 777], .null), (.iconst 3, 1, [], .int 3), (.iload_n 1, 1, [1], .null), (.iadd, 1, [], .null), (.iaload, 1, [], .null), (.iadd, 1, [], .null), (.if_icmp .ge 97, 3, [175, 0, 1, 2, 3], .null), (.aload_n 0, 1, [0], .null), (.iload_n 1, 1, [1], .null), (.iload 5, 2, [5], .null), (.aload_n 0, 1, [0], .null), (.getfield 27, 3, [9, 5, 2, 781], .null), (.bipush 6, 2, [], .int 6), (.iload_n 1, 1, [1], .null), (.imul, 1, [], .null), (.iload_n 3, 1, [3], .null), (.iadd, 1, [], .null), (.laload, 1, [], .null), (.invokevirtual 211, 3, [121, 4, 0, 0, 9, 969, 971, 17, 37], .null), (.ifCond .eq 49, 3, [148, 0, 1, 2, 3, 4, 5], .null), (.aload_n 0, 1, [0], .null), (.iload_n 1, 1, [1], .null), (.iload_n 3, 1, [3], .null), (.invokevirtual 215, 3, [131, 3, 9, 0, 9, 1005, 1007, 23, 37], .null), (.nop, 0, [108, 0, 1, 3, 4], .null)]),
  (108, [(.aload_n 0, 1, [0], .null), (.getfield 7, 3, [9, 0, 2, 776], .null), (.aload_n 0, 1, [0], .null), (.getfield 122, 3, [9, 19, 0, 795], .null), (.iaload, 1, [], .null), (.bipush 58, 2, [], .int 58), (.if_icmp .eq 16, 3, [135, 0, 1, 3, 4], .null), (.aload_n 0, 1, [0], .null), (.dup, 1, [], .null), (.getfield 122, 3, [9, 19, 0, 795], .null), (.iconst 1, 1, [], .int 1), (.iadd, 1, [], .null), (.putfield 122, 3, [9, 19, 0, 795], .null), (.goto (-24), 3, [108, 0, 1, 3, 4], .null)]),
  (135, [(.aload_n 0, 1, [0], .null), (.iload_n 1, 1, [1], .null), (.iload 4, 2, [4], .null), (.bipush 100, 2, [], .int 100), (.iload_n 3, 1, [3], .null), (.imul, 1, [], .null), (.iadd, 1, [], .null), (.invokevirtual 219, 3, [132, 3, 0, 0, 9, 1009, 1011, 24, 37], .null), (.ireturn, 1, [0], .null)]),
  (148, [(.aload_n 0, 1, [0], .null), (.getfield 7, 3, [9, 0, 2, 776], .null), (.iload 5, 2, [5], .null), (.iaload, 1, [], .null), (.bipush 59, 2, [], .int 59), (.if_icmp .eq 9, 3, [166, 0, 1, 2, 3, 4, 5], .null), (.iinc 5 1, 3, [5], .int 1), (.goto (-15), 3, [148, 0, 1, 2, 3, 4, 5], .null)]),
  (166, [(.iinc 5 1, 3, [5], .int 1), (.iinc 4 1, 3, [4], .int 1), (.goto (-106), 3, [66, 0, 1, 2, 3, 4, 5], .null)]),
  (175, [(.iinc 3 1, 3, [3], .int 1), (.goto (-128), 3, [50, 0, 1, 2, 3], .null)]),
  (181, [(.aload_n 0, 1, [0], .null), (.iconst 3, 1, [], .int 3), (.invokevirtual 196, 3, [91, 2, 0, 0, 9, 855, 857, 4, 37], .null), (.ireturn, 1, [0], .null)])], [[]], [0, 1])
def k_Md_takes : aK := ([(0, [(.iconst 0, 1, [], .int 0), (.istore 5, 2, [5], .null), (.nop, 0, [3, 0, 1, 2, 3, 5], .null)]),
  (3, [(.iload 5, 2, [5], .null), (.iconst 5, 1, [], .int 5), (.if_icmp .ge 17, 3, [23, 0, 1, 2, 3], .null), (.aload_n 0, 1, [0], .null), (.getfield 48, 3, [9, 12, 2, 788], .null), (.iload 5, 2, [5], .null), (.lconst 0, 1, [], .long 0), (.lastore, 1, [], .null), (.iinc 5 1, 3, [5], .int 1), (.goto (-17), 3, [3, 0, 1, 2, 3, 5], .null)]),
  (23, [(.aload_n 0, 1, [0], .null), (.getfield 48, 3, [9, 12, 2, 788], .null), (.iconst 5, 1, [], .int 5), (.aload_n 0, 1, [0], .null), (.getfield 23, 3, [9, 4, 2, 780], .null), (.iload_n 1, 1, [1], .null), (.laload, 1, [], .null), (.lastore, 1, [], .null), (.aload_n 0, 1, [0], .null), (.iload_n 2, 1, [2], .null), (.lload_n 3, 1, [3], .null), (.invokevirtual 188, 3, [122, 3, 0, 0, 9, 973, 975, 18, 37], .null), (.ifCond .ne 5, 3, [46, 0, 1], .null), (.iconst 0, 1, [], .int 0), (.ireturn, 1, [3], .null)]),
  (46, [(.aload_n 0, 1, [0], .null), (.getfield 7, 3, [9, 0, 2, 776], .null), (.aload_n 0, 1, [0], .null), (.getfield 122, 3, [9, 19, 0, 795], .null), (.iaload, 1, [], .null), (.bipush 58, 2, [], .int 58), (.if_icmp .ne 5, 3, [62, 0, 1], .null), (.iconst 1, 1, [], .int 1), (.ireturn, 1, [3], .null)]),
  (62, [(.aload_n 0, 1, [0], .null), (.aload_n 0, 1, [0], .null), (.getfield 122, 3, [9, 19, 0, 795], .null), (.iconst 1, 1, [], .int 1), (.iadd, 1, [], .null), (.iload_n 1, 1, [1], .null), (.invokevirtual 178, 3, [128, 3, 1, 0, 9, 994, 996, 21, 37], .null), (.lstore 5, 2, [5], .null), (.lload 5, 2, [5], .null), (.lconst 0, 1, [], .long 0), (.lcmp, 1, [], .null), (.ifCond .ne 5, 3, [84, 0, 1, 5], .null), (.iconst 0, 1, [], .int 0), (.ireturn, 1, [3], .null)]),
  (84, [(.aload_n 0, 1, [0], .null), (.getfield 7, 3, [9, 0, 2, 776], .null), (.aload_n 0, 1, [0], .null), (.getfield 122, 3, [9, 19, 0, 795], .null), (.iaload, 1, [], .null), (.bipush 61, 2, [], .int 61), (.if_icmp .ne 7, 3, [102, 0, 1, 5], .null), (.iconst 1, 1, [], .int 1), (.goto 4, 3, [103, 0, 1, 5], .null)]),
  (102, [(.iconst 0, 1, [], .int 0), (.nop, 0, [103, 0, 1, 5], .null)]),
  (103, [(.istore 7, 2, [7], .null), (.aload_n 0, 1, [0], .null), (.aload_n 0, 1, [0], .null), (.getfield 122, 3, [9, 19, 0, 795], .null), (.iconst 1, 1, [], .int 1), (.iadd, 1, [], .null), (.iload_n 1, 1, [1], .null), (.invokevirtual 178, 3, [128, 3, 1, 0, 9, 994, 996, 21, 37], .null), (.lstore 8, 2, [8], .null), (.lload 8, 2, [8], .null), (.lconst 0, 1, [], .long 0), (.lcmp, 1, [], .null), (.ifCond .ne 5, 3, [127, 5, 7, 8], .null), (.iconst 0, 1, [], .int 0), (.ireturn, 1, [3], .null)]),
  (127, [(.iload 7, 2, [7], .null), (.ifCond .eq 19, 3, [148, 5, 8], .null), (.lload 5, 2, [5], .null), (.lload 8, 2, [8], .null), (.lcmp, 1, [], .null), (.ifCond .ne 7, 3, [144], .null), (.iconst 1, 1, [], .int 1), (.goto 43, 3, [184], .null)]),
  (144, [(.iconst 0, 1, [], .int 0), (.goto 39, 3, [184], .null)]),
  (148, [(.lload 5, 2, [5], .null), (.invokestatic 144, 3, [130, 1, 0, 0, 1002, 1003, 37], .null), (.ifCond .eq 30, 3, [183], .null), (.lload 8, 2, [8], .null), (.invokestatic 144, 3, [130, 1, 0, 0, 1002, 1003, 37], .null), (.ifCond .eq 22, 3, [183], .null), (.lload 5, 2, [5], .null), (.iconst 0, 1, [], .int 0), (.invokestatic 74, 3, [117, 2, 0, 0, 954, 955, 37], .null), (.lload 8, 2, [8], .null), (.iconst 0, 1, [], .int 0), (.invokestatic 74, 3, [117, 2, 0, 0, 954, 955, 37], .null), (.if_icmp .ge 7, 3, [183], .null), (.iconst 1, 1, [], .int 1), (.goto 4, 3, [184], .null)]),
  (183, [(.iconst 0, 1, [], .int 0), (.nop, 0, [184], .null)]),
  (184, [(.ireturn, 1, [3], .null)])], [[]], [0, 1, 2, 3])
def k_Md_fits : aK := ([(0, [(.iconst 1, 1, [], .int 1), (.istore 4, 2, [4], .null), (.iconst 0, 1, [], .int 0), (.istore 5, 2, [5], .null), (.iconst 0, 1, [], .int 0), (.istore 6, 2, [6], .null), (.aload_n 0, 1, [0], .null), (.iload_n 1, 1, [1], .null), (.putfield 122, 3, [9, 19, 0, 795], .null), (.nop, 0, [14, 0, 2, 4, 5, 6], .null)]),
  (14, [(.iload 4, 2, [4], .null), (.ifCond .le 210, 3, [226, 0], .null), (.aload_n 0, 1, [0], .null), (.getfield 7, 3, [9, 0, 2, 776], .null), (.aload_n 0, 1, [0], .null), (.getfield 122, 3, [9, 19, 0, 795], .null), (.iaload, 1, [], .null), (.istore 7, 2, [7], .null), (.iload 7, 2, [7], .null), (.bipush 44, 2, [], .int 44), (.if_icmp .eq 10, 3, [44, 0, 2, 4, 5, 6], .null), (.iload 7, 2, [7], .null), (.bipush 41, 2, [], .int 41), (.if_icmp .ne 16, 3, [57, 0, 2, 4, 5, 6, 7], .null), (.nop, 0, [44, 0, 2, 4, 5, 6], .null)]),
  (44, [(.aload_n 0, 1, [0], .null), (.dup, 1, [], .null), (.getfield 122, 3, [9, 19, 0, 795], .null), (.iconst 1, 1, [], .int 1), (.iadd, 1, [], .null), (.putfield 122, 3, [9, 19, 0, 795], .null), (.goto 169, 3, [223, 0, 2, 4, 5, 6], .null)]),
  (57, [(.iload 7, 2, [7], .null), (.bipush 40, 2, [], .int 40), (.if_icmp .ne 33, 3, [94, 0, 2, 4, 5, 6, 7], .null), (.lload_n 2, 1, [2], .null), (.iload 5, 2, [5], .null), (.invokestatic 80, 3, [123, 2, 0, 0, 977, 978, 37], .null), (.ifCond .ne 5, 3, [75, 0, 2, 4, 5, 6], .null), (.iconst 0, 1, [], .int 0), (.ireturn, 1, [3], .null)]),
  (75, [(.iinc 5 1, 3, [5], .int 1), (.iinc 4 1, 3, [4], .int 1), (.aload_n 0, 1, [0], .null), (.dup, 1, [], .null), (.getfield 122, 3, [9, 19, 0, 795], .null), (.iconst 1, 1, [], .int 1), (.iadd, 1, [], .null), (.putfield 122, 3, [9, 19, 0, 795], .null), (.goto 132, 3, [223, 0, 2, 4, 5, 6], .null)]),
  (94, [(.lload_n 2, 1, [2], .null), (.iload 5, 2, [5], .null), (.iload 6, 2, [6], .null), (.invokestatic 156, 3, [124, 3, 1, 0, 980, 981, 37], .null), (.lstore 8, 2, [8], .null), (.iload 7, 2, [7], .null), (.invokestatic 106, 3, [100, 1, 0, 0, 889, 890, 37], .null), (.istore 10, 2, [10], .null), (.iload 10, 2, [10], .null), (.ifCond .lt 15, 3, [128, 0, 2, 4, 5, 6, 7, 8, 10], .null), (.aload_n 0, 1, [0], .null), (.getfield 48, 3, [9, 12, 2, 788], .null), (.iload 10, 2, [10], .null), (.laload, 1, [], .null), (.lconst 0, 1, [], .long 0), (.lcmp, 1, [], .null), (.ifCond .eq 7, 3, [132, 0, 2, 4, 5, 6, 7, 8, 10], .null), (.nop, 0, [128, 0, 2, 4, 5, 6, 7, 8, 10], .null)]),
  (128, [(.iconst 1, 1, [], .int 1), (.goto 4, 3, [133, 0, 2, 4, 5, 6, 7, 8, 10], .null)]),
  (132, [(.iconst 0, 1, [], .int 0), (.nop, 0, [133, 0, 2, 4, 5, 6, 7, 8, 10], .null)]),
  (133, [(.istore 11, 2, [11], .null), (.iload 7, 2, [7], .null), (.bipush 95, 2, [], .int 95), (.if_icmp .ne 16, 3, [155, 0, 2, 4, 5, 6, 8, 10, 11], .null), (.aload_n 0, 1, [0], .null), (.dup, 1, [], .null), (.getfield 122, 3, [9, 19, 0, 795], .null), (.iconst 1, 1, [], .int 1), (.iadd, 1, [], .null), (.putfield 122, 3, [9, 19, 0, 795], .null), (.goto 47, 3, [199, 0, 2, 4, 5, 6, 8], .null)]),
  (155, [(.iload 11, 2, [11], .null), (.ifCond .ne 25, 3, [182, 0, 2, 4, 5, 6, 8], .null), (.aload_n 0, 1, [0], .null), (.getfield 48, 3, [9, 12, 2, 788], .null), (.iload 10, 2, [10], .null), (.lload 8, 2, [8], .null), (.lastore, 1, [], .null), (.aload_n 0, 1, [0], .null), (.dup, 1, [], .null), (.getfield 122, 3, [9, 19, 0, 795], .null), (.iconst 1, 1, [], .int 1), (.iadd, 1, [], .null), (.putfield 122, 3, [9, 19, 0, 795], .null), (.goto 20, 3, [199, 0, 2, 4, 5, 6, 8], .null)]),
  (182, [(.aload_n 0, 1, [0], .null), (.aload_n 0, 1, [0], .null), (.getfield 122, 3, [9, 19, 0, 795], .null), (.iconst 0, 1, [], .int 0), (.invokevirtual 148, 3, [126, 3, 1, 0, 9, 986, 988, 19, 37], .null), (.lload 8, 2, [8], .null), (.lcmp, 1, [], .null), (.ifCond .eq 5, 3, [199, 0, 2, 4, 5, 6, 8], .null), (.iconst 0, 1, [], .int 0), (.ireturn, 1, [3], .null)]),
  (199, [(.iinc 4 (-1), 3, [4], .int (-1)), (.iload 5, 2, [5], .null), (.lload_n 2, 1, [2], .null), (.iload 5, 2, [5], .null), (.invokestatic 83, 3, [125, 2, 0, 0, 983, 984, 37], .null), (.iadd, 1, [], .null), (.istore 5, 2, [5], .null), (.iload 6, 2, [6], .null), (.lload 8, 2, [8], .null), (.invokestatic 70, 3, [114, 1, 0, 0, 939, 940, 37], .null), (.iadd, 1, [], .null), (.istore 6, 2, [6], .null), (.nop, 0, [223, 0, 2, 4, 5, 6], .null)]),
  (223, [(.goto (-209), 3, [14, 0, 2, 4, 5, 6], .null)]),
  (226, [(.aload_n 0, 1, [0], .null), (.getfield 7, 3, [9, 0, 2, 776], .null), (.aload_n 0, 1, [0], .null), (.getfield 122, 3, [9, 19, 0, 795], .null), (.iaload, 1, [], .null), (.bipush 41, 2, [], .int 41), (.if_icmp .ne 16, 3, [253], .null), (.aload_n 0, 1, [0], .null), (.dup, 1, [], .null), (.getfield 122, 3, [9, 19, 0, 795], .null), (.iconst 1, 1, [], .int 1), (.iadd, 1, [], .null), (.putfield 122, 3, [9, 19, 0, 795], .null), (.goto (-24), 3, [226, 0], .null)]),
  (253, [(.iconst 1, 1, [], .int 1), (.ireturn, 1, [3], .null)])], [[]], [0, 1, 2])
def k_Md_bit : aK := ([(0, [(.lload_n 0, 1, [0], .null), (.iconst 3, 1, [], .int 3), (.iload_n 2, 1, [2], .null), (.iadd, 1, [], .null), (.lshr, 1, [], .null), (.l2i, 1, [], .null), (.iconst 1, 1, [], .int 1), (.iand, 1, [], .null), (.ireturn, 1, [0], .null)])], [[]], [0, 2])
def k_Md_part : aK := ([(0, [(.lload_n 0, 1, [0], .null), (.iload_n 2, 1, [2], .null), (.invokestatic 83, 3, [125, 2, 0, 0, 983, 984, 37], .null), (.istore 4, 2, [4], .null), (.iload 4, 2, [4], .null), (.iconst 1, 1, [], .int 1), (.iadd, 1, [], .null), (.iconst 2, 1, [], .int 2), (.idiv, 1, [], .null), (.istore 5, 2, [5], .null), (.lload_n 0, 1, [0], .null), (.iconst 3, 1, [], .int 3), (.iload_n 2, 1, [2], .null), (.iadd, 1, [], .null), (.lshr, 1, [], .null), (.lconst 1, 1, [], .long 1), (.iload 4, 2, [4], .null), (.lshl, 1, [], .null), (.lconst 1, 1, [], .long 1), (.lsub, 1, [], .null), (.land, 1, [], .null), (.lstore 6, 2, [6], .null), (.iload 5, 2, [5], .null), (.i2l, 1, [], .null), (.lload 6, 2, [6], .null), (.iconst 3, 1, [], .int 3), (.lshl, 1, [], .null), (.lor, 1, [], .null), (.lload_n 0, 1, [0], .null), (.bipush 10, 2, [], .int 10), (.bipush 11, 2, [], .int 11), (.iload_n 3, 1, [3], .null), (.imul, 1, [], .null), (.iadd, 1, [], .null), (.lshr, 1, [], .null), (.lconst 1, 1, [], .long 1), (.bipush 11, 2, [], .int 11), (.iload 5, 2, [5], .null), (.imul, 1, [], .null), (.lshl, 1, [], .null), (.lconst 1, 1, [], .long 1), (.lsub, 1, [], .null), (.land, 1, [], .null), (.bipush 10, 2, [], .int 10), (.lshl, 1, [], .null), (.lor, 1, [], .null), (.lreturn, 1, [], .null)])], [[]], [0, 2, 3])
def k_Md_bits : aK := ([(0, [(.iconst 1, 1, [], .int 1), (.istore_n 3, 1, [3], .null), (.iload_n 2, 1, [2], .null), (.istore 4, 2, [4], .null), (.nop, 0, [5, 0, 2, 3, 4], .null)]),
  (5, [(.iload_n 3, 1, [3], .null), (.ifCond .le 27, 3, [33, 2, 4], .null), (.iload_n 3, 1, [3], .null), (.lload_n 0, 1, [0], .null), (.iload 4, 2, [4], .null), (.invokestatic 80, 3, [123, 2, 0, 0, 977, 978, 37], .null), (.iconst 1, 1, [], .int 1), (.if_icmp .ne 7, 3, [24, 0, 2, 4], .null), (.iconst 1, 1, [], .int 1), (.goto 4, 3, [25, 0, 2, 4], .null)]),
  (24, [(.iconst (-1), 1, [], .int (-1)), (.nop, 0, [25, 0, 2, 4], .null)]),
  (25, [(.iadd, 1, [], .null), (.istore_n 3, 1, [3], .null), (.iinc 4 1, 3, [4], .int 1), (.goto (-25), 3, [5, 0, 2, 3, 4], .null)]),
  (33, [(.iload 4, 2, [4], .null), (.iload_n 2, 1, [2], .null), (.isub, 1, [], .null), (.ireturn, 1, [0], .null)])], [[]], [0, 2])
def k_Md_simple : aK := ([(0, [(.aload_n 0, 1, [0], .null), (.getfield 7, 3, [9, 0, 2, 776], .null), (.iload_n 1, 1, [1], .null), (.iaload, 1, [], .null), (.istore_n 3, 1, [3], .null), (.iload_n 3, 1, [3], .null), (.invokestatic 99, 3, [98, 1, 0, 0, 883, 884, 37], .null), (.ifCond .ne 9, 3, [20, 0, 1], .null), (.iload_n 3, 1, [3], .null), (.bipush 39, 2, [], .int 39), (.if_icmp .ne 12, 3, [29, 0, 1, 2, 3], .null), (.nop, 0, [20, 0, 1], .null)]),
  (20, [(.aload_n 0, 1, [0], .null), (.iload_n 1, 1, [1], .null), (.invokevirtual 125, 3, [127, 2, 0, 0, 9, 990, 992, 20, 37], .null), (.invokestatic 128, 3, [107, 1, 1, 0, 916, 917, 37], .null), (.lreturn, 1, [], .null)]),
  (29, [(.aload_n 0, 1, [0], .null), (.iload_n 1, 1, [1], .null), (.iconst 1, 1, [], .int 1), (.iadd, 1, [], .null), (.putfield 122, 3, [9, 19, 0, 795], .null), (.iload_n 3, 1, [3], .null), (.bipush 35, 2, [], .int 35), (.if_icmp .ne 8, 3, [47, 0, 3], .null), (.iload_n 2, 1, [2], .null), (.invokestatic 131, 3, [112, 1, 1, 0, 933, 934, 37], .null), (.lreturn, 1, [], .null)]),
  (47, [(.iload_n 3, 1, [3], .null), (.invokestatic 103, 3, [99, 1, 0, 0, 886, 887, 37], .null), (.ifCond .eq 13, 3, [64, 0, 3], .null), (.iload_n 3, 1, [3], .null), (.bipush 97, 2, [], .int 97), (.isub, 1, [], .null), (.invokestatic 134, 3, [111, 1, 1, 0, 930, 931, 37], .null), (.goto 12, 3, [73], .null)]),
  (64, [(.aload_n 0, 1, [0], .null), (.getfield 48, 3, [9, 12, 2, 788], .null), (.iload_n 3, 1, [3], .null), (.invokestatic 106, 3, [100, 1, 0, 0, 889, 890, 37], .null), (.laload, 1, [], .null), (.nop, 0, [73], .null)]),
  (73, [(.lreturn, 1, [], .null)])], [[]], [0, 1, 2])
def k_Md_number : aK := ([(0, [(.aload_n 0, 1, [0], .null), (.iload_n 1, 1, [1], .null), (.iconst 1, 1, [], .int 1), (.iadd, 1, [], .null), (.putfield 122, 3, [9, 19, 0, 795], .null), (.aload_n 0, 1, [0], .null), (.getfield 7, 3, [9, 0, 2, 776], .null), (.iload_n 1, 1, [1], .null), (.iaload, 1, [], .null), (.bipush 39, 2, [], .int 39), (.if_icmp .eq 13, 3, [28, 0, 1], .null), (.aload_n 0, 1, [0], .null), (.getfield 7, 3, [9, 0, 2, 776], .null), (.iload_n 1, 1, [1], .null), (.iaload, 1, [], .null), (.bipush 48, 2, [], .int 48), (.isub, 1, [], .null), (.ireturn, 1, [0], .null)]),
  (28, [(.aload_n 0, 1, [0], .null), (.iload_n 1, 1, [1], .null), (.iconst 3, 1, [], .int 3), (.iadd, 1, [], .null), (.putfield 122, 3, [9, 19, 0, 795], .null), (.bipush 10, 2, [], .int 10), (.aload_n 0, 1, [0], .null), (.getfield 7, 3, [9, 0, 2, 776], .null), (.iload_n 1, 1, [1], .null), (.iconst 1, 1, [], .int 1), (.iadd, 1, [], .null), (.iaload, 1, [], .null), (.bipush 48, 2, [], .int 48), (.isub, 1, [], .null), (.imul, 1, [], .null), (.aload_n 0, 1, [0], .null), (.getfield 7, 3, [9, 0, 2, 776], .null), (.iload_n 1, 1, [1], .null), (.iconst 2, 1, [], .int 2), (.iadd, 1, [], .null), (.iaload, 1, [], .null), (.iadd, 1, [], .null), (.bipush 48, 2, [], .int 48), (.isub, 1, [], .null), (.ireturn, 1, [0], .null)])], [[]], [0, 1])
def k_Md_evaluate : aK := ([(0, [(.iconst 0, 1, [], .int 0), (.istore_n 3, 1, [3], .null), (.aload_n 0, 1, [0], .null), (.iload_n 1, 1, [1], .null), (.putfield 122, 3, [9, 19, 0, 795], .null), (.iconst 0, 1, [], .int 0), (.istore 4, 2, [4], .null), (.nop, 0, [10, 0, 2, 3, 4], .null)]),
  (10, [(.iload 4, 2, [4], .null), (.bipush 60, 2, [], .int 60), (.if_icmp .ge 239, 3, [253], .null), (.aload_n 0, 1, [0], .null), (.getfield 7, 3, [9, 0, 2, 776], .null), (.aload_n 0, 1, [0], .null), (.getfield 122, 3, [9, 19, 0, 795], .null), (.iaload, 1, [], .null), (.istore 5, 2, [5], .null), (.iload 5, 2, [5], .null), (.bipush 40, 2, [], .int 40), (.if_icmp .eq 24, 3, [56, 0, 2, 3, 4, 5], .null), (.iload 5, 2, [5], .null), (.bipush 43, 2, [], .int 43), (.if_icmp .eq 17, 3, [56, 0, 2, 3, 4, 5], .null), (.iload 5, 2, [5], .null), (.bipush 45, 2, [], .int 45), (.if_icmp .eq 10, 3, [56, 0, 2, 3, 4, 5], .null), (.iload 5, 2, [5], .null), (.bipush 47, 2, [], .int 47), (.if_icmp .ne 34, 3, [87, 0, 2, 3, 4], .null), (.nop, 0, [56, 0, 2, 3, 4, 5], .null)]),
  (56, [(.aload_n 0, 1, [0], .null), (.getfield 51, 3, [9, 13, 2, 789], .null), (.iload_n 3, 1, [3], .null), (.iload 5, 2, [5], .null), (.iastore, 1, [], .null), (.aload_n 0, 1, [0], .null), (.getfield 57, 3, [9, 18, 2, 794], .null), (.iload_n 3, 1, [3], .null), (.lconst 0, 1, [], .long 0), (.lastore, 1, [], .null), (.iinc 3 1, 3, [3], .int 1), (.aload_n 0, 1, [0], .null), (.dup, 1, [], .null), (.getfield 122, 3, [9, 19, 0, 795], .null), (.iconst 1, 1, [], .int 1), (.iadd, 1, [], .null), (.putfield 122, 3, [9, 19, 0, 795], .null), (.goto 163, 3, [247, 0, 2, 3, 4], .null)]),
  (87, [(.aload_n 0, 1, [0], .null), (.iconst 1, 1, [], .int 1), (.putfield 137, 3, [9, 20, 0, 796], .null), (.aload_n 0, 1, [0], .null), (.aload_n 0, 1, [0], .null), (.getfield 122, 3, [9, 19, 0, 795], .null), (.iload_n 2, 1, [2], .null), (.invokevirtual 148, 3, [126, 3, 1, 0, 9, 986, 988, 19, 37], .null), (.lstore 6, 2, [6], .null), (.iconst 1, 1, [], .int 1), (.istore 8, 2, [8], .null), (.nop, 0, [106, 0, 2, 3, 4, 6, 8], .null)]),
  (106, [(.iload 8, 2, [8], .null), (.ifCond .eq 105, 3, [213, 0, 2, 3, 4, 6, 8], .null), (.lload 6, 2, [6], .null), (.lconst 0, 1, [], .long 0), (.lcmp, 1, [], .null), (.ifCond .eq 98, 3, [213, 0, 2, 3, 4, 6, 8], .null), (.iload_n 3, 1, [3], .null), (.ifCond .le 94, 3, [213, 0, 2, 3, 4, 6, 8], .null), (.iload_n 3, 1, [3], .null), (.iconst 1, 1, [], .int 1), (.isub, 1, [], .null), (.istore 9, 2, [9], .null), (.aload_n 0, 1, [0], .null), (.getfield 57, 3, [9, 18, 2, 794], .null), (.iload 9, 2, [9], .null), (.laload, 1, [], .null), (.lconst 0, 1, [], .long 0), (.lcmp, 1, [], .null), (.ifCond .eq 7, 3, [143, 0, 2, 3, 4, 6, 9], .null), (.iconst 1, 1, [], .int 1), (.goto 4, 3, [144, 0, 2, 3, 4, 6, 9], .null)]),
  (143, [(.iconst 0, 1, [], .int 0), (.nop, 0, [144, 0, 2, 3, 4, 6, 9], .null)]),
  (144, [(.istore 8, 2, [8], .null), (.iload 8, 2, [8], .null), (.ifCond .eq 31, 3, [179, 0, 2, 3, 4, 6, 8, 9], .null), (.aload_n 0, 1, [0], .null), (.aload_n 0, 1, [0], .null), (.getfield 51, 3, [9, 13, 2, 789], .null), (.iload 9, 2, [9], .null), (.iaload, 1, [], .null), (.aload_n 0, 1, [0], .null), (.getfield 57, 3, [9, 18, 2, 794], .null), (.iload 9, 2, [9], .null), (.laload, 1, [], .null), (.lload 6, 2, [6], .null), (.invokevirtual 152, 3, [129, 4, 1, 0, 9, 998, 1000, 22, 37], .null), (.lstore 6, 2, [6], .null), (.iinc 3 (-1), 3, [3], .int (-1)), (.goto 12, 3, [188, 0, 2, 3, 4, 6, 8, 9], .null)]),
  (179, [(.aload_n 0, 1, [0], .null), (.getfield 57, 3, [9, 18, 2, 794], .null), (.iload 9, 2, [9], .null), (.lload 6, 2, [6], .null), (.lastore, 1, [], .null), (.nop, 0, [188, 0, 2, 3, 4, 6, 8, 9], .null)]),
  (188, [(.aload_n 0, 1, [0], .null), (.getfield 51, 3, [9, 13, 2, 789], .null), (.iload 9, 2, [9], .null), (.iaload, 1, [], .null), (.bipush 40, 2, [], .int 40), (.if_icmp .ne 13, 3, [210, 0, 2, 3, 4, 6, 8], .null), (.aload_n 0, 1, [0], .null), (.dup, 1, [], .null), (.getfield 122, 3, [9, 19, 0, 795], .null), (.iconst 1, 1, [], .int 1), (.iadd, 1, [], .null), (.putfield 122, 3, [9, 19, 0, 795], .null), (.nop, 0, [210, 0, 2, 3, 4, 6, 8], .null)]),
  (210, [(.goto (-104), 3, [106, 0, 2, 3, 4, 6, 8], .null)]),
  (213, [(.lload 6, 2, [6], .null), (.lconst 0, 1, [], .long 0), (.lcmp, 1, [], .null), (.ifCond .eq 8, 3, [225, 0, 6], .null), (.iload 8, 2, [8], .null), (.ifCond .eq 25, 3, [247, 0, 2, 3, 4], .null), (.nop, 0, [225, 0, 6], .null)]),
  (225, [(.aload_n 0, 1, [0], .null), (.lload 6, 2, [6], .null), (.lconst 0, 1, [], .long 0), (.lcmp, 1, [], .null), (.ifCond .ne 10, 3, [240, 6], .null), (.aload_n 0, 1, [0], .null), (.getfield 137, 3, [9, 20, 0, 796], .null), (.goto 4, 3, [241, 6], .null)]),
  (240, [(.iconst 0, 1, [], .int 0), (.nop, 0, [241, 6], .null)]),
  (241, [(.putfield 137, 3, [9, 20, 0, 796], .null), (.lload 6, 2, [6], .null), (.lreturn, 1, [], .null)]),
  (247, [(.iinc 4 1, 3, [4], .int 1), (.goto (-240), 3, [10, 0, 2, 3, 4], .null)]),
  (253, [(.lconst 0, 1, [], .long 0), (.lreturn, 1, [], .null)])], [[]], [0, 1, 2])
def k_Md_combine : aK := ([(0, [(.aload_n 0, 1, [0], .null), (.iconst 1, 1, [], .int 1), (.putfield 137, 3, [9, 20, 0, 796], .null), (.iload_n 1, 1, [1], .null), (.bipush 40, 2, [], .int 40), (.if_icmp .ne 10, 3, [18, 0, 1, 2, 4], .null), (.lload_n 2, 1, [2], .null), (.lload 4, 2, [4], .null), (.invokestatic 140, 3, [113, 2, 1, 0, 936, 937, 37], .null), (.lreturn, 1, [], .null)]),
  (18, [(.lload_n 2, 1, [2], .null), (.invokestatic 144, 3, [130, 1, 0, 0, 1002, 1003, 37], .null), (.ifCond .eq 11, 3, [33], .null), (.lload 4, 2, [4], .null), (.invokestatic 144, 3, [130, 1, 0, 0, 1002, 1003, 37], .null), (.ifCond .ne 5, 3, [35, 0, 1, 2, 4], .null), (.nop, 0, [33], .null)]),
  (33, [(.lconst 0, 1, [], .long 0), (.lreturn, 1, [], .null)]),
  (35, [(.lload_n 2, 1, [2], .null), (.iconst 0, 1, [], .int 0), (.invokestatic 74, 3, [117, 2, 0, 0, 954, 955, 37], .null), (.sipush 999, 3, [], .int 999), (.isub, 1, [], .null), (.istore 6, 2, [6], .null), (.lload 4, 2, [4], .null), (.iconst 0, 1, [], .int 0), (.invokestatic 74, 3, [117, 2, 0, 0, 954, 955, 37], .null), (.sipush 999, 3, [], .int 999), (.isub, 1, [], .null), (.istore 7, 2, [7], .null), (.iload_n 1, 1, [1], .null), (.bipush 47, 2, [], .int 47), (.if_icmp .ne 15, 3, [76, 1, 6, 7], .null), (.iload 7, 2, [7], .null), (.ifCond .ne 10, 3, [76, 1, 6, 7], .null), (.aload_n 0, 1, [0], .null), (.iconst 2, 1, [], .int 2), (.putfield 137, 3, [9, 20, 0, 796], .null), (.lconst 0, 1, [], .long 0), (.lreturn, 1, [], .null)]),
  (76, [(.iload_n 1, 1, [1], .null), (.bipush 43, 2, [], .int 43), (.if_icmp .ne 11, 3, [90, 1, 6, 7], .null), (.iload 6, 2, [6], .null), (.iload 7, 2, [7], .null), (.iadd, 1, [], .null), (.goto 22, 3, [109], .null)]),
  (90, [(.iload_n 1, 1, [1], .null), (.bipush 45, 2, [], .int 45), (.if_icmp .ne 11, 3, [104, 6, 7], .null), (.iload 6, 2, [6], .null), (.iload 7, 2, [7], .null), (.isub, 1, [], .null), (.goto 8, 3, [109], .null)]),
  (104, [(.iload 6, 2, [6], .null), (.iload 7, 2, [7], .null), (.idiv, 1, [], .null), (.nop, 0, [109], .null)]),
  (109, [(.istore 8, 2, [8], .null), (.iload 8, 2, [8], .null), (.sipush (-999), 3, [], .int (-999)), (.sipush 999, 3, [], .int 999), (.invokestatic 86, 3, [90, 3, 0, 0, 852, 853, 37], .null), (.ifCond .eq 11, 3, [133], .null), (.iload 8, 2, [8], .null), (.invokestatic 128, 3, [107, 1, 1, 0, 916, 917, 37], .null), (.goto 4, 3, [134], .null)]),
  (133, [(.lconst 0, 1, [], .long 0), (.nop, 0, [134], .null)]),
  (134, [(.lreturn, 1, [], .null)])], [[]], [0, 1, 2, 4])
def k_Md_isInt : aK := ([(0, [(.lload_n 0, 1, [0], .null), (.invokestatic 70, 3, [114, 1, 0, 0, 939, 940, 37], .null), (.iconst 1, 1, [], .int 1), (.if_icmp .ne 18, 3, [23], .null), (.lload_n 0, 1, [0], .null), (.iconst 0, 1, [], .int 0), (.invokestatic 74, 3, [117, 2, 0, 0, 954, 955, 37], .null), (.sipush 1999, 3, [], .int 1999), (.if_icmp .ge 7, 3, [23], .null), (.iconst 1, 1, [], .int 1), (.goto 4, 3, [24], .null)]),
  (23, [(.iconst 0, 1, [], .int 0), (.nop, 0, [24], .null)]),
  (24, [(.ireturn, 1, [3], .null)])], [[]], [0])
def k_Md_take : aK := ([(0, [(.aload_n 0, 1, [0], .null), (.getfield 30, 3, [9, 6, 2, 782], .null), (.iload_n 1, 1, [1], .null), (.dup2, 1, [], .null), (.iaload, 1, [], .null), (.iconst 1, 1, [], .int 1), (.isub, 1, [], .null), (.iastore, 1, [], .null), (.iload_n 2, 1, [2], .null), (.istore_n 3, 1, [3], .null), (.nop, 0, [12, 0, 1, 3], .null)]),
  (12, [(.iload_n 3, 1, [3], .null), (.aload_n 0, 1, [0], .null), (.getfield 30, 3, [9, 6, 2, 782], .null), (.iload_n 1, 1, [1], .null), (.iaload, 1, [], .null), (.if_icmp .ge 33, 3, [52], .null), (.aload_n 0, 1, [0], .null), (.getfield 27, 3, [9, 5, 2, 781], .null), (.bipush 6, 2, [], .int 6), (.iload_n 1, 1, [1], .null), (.imul, 1, [], .null), (.iload_n 3, 1, [3], .null), (.iadd, 1, [], .null), (.aload_n 0, 1, [0], .null), (.getfield 27, 3, [9, 5, 2, 781], .null), (.bipush 6, 2, [], .int 6), (.iload_n 1, 1, [1], .null), (.imul, 1, [], .null), (.iload_n 3, 1, [3], .null), (.iadd, 1, [], .null), (.iconst 1, 1, [], .int 1), (.iadd, 1, [], .null), (.laload, 1, [], .null), (.lastore, 1, [], .null), (.iinc 3 1, 3, [3], .int 1), (.goto (-37), 3, [12, 0, 1, 3], .null)]),
  (52, [(.return_, 1, [], .null)])], [[]], [0, 1, 2])
def k_Md_perform : aK := ([(0, [(.aload_n 0, 1, [0], .null), (.getfield 57, 3, [9, 18, 2, 794], .null), (.iconst 4, 1, [], .int 4), (.aload_n 0, 1, [0], .null), (.getfield 23, 3, [9, 4, 2, 780], .null), (.iload_n 1, 1, [1], .null), (.laload, 1, [], .null), (.lastore, 1, [], .null), (.aload_n 0, 1, [0], .null), (.iconst 0, 1, [], .int 0), (.putfield 137, 3, [9, 20, 0, 796], .null), (.aload_n 0, 1, [0], .null), (.dup, 1, [], .null), (.getfield 122, 3, [9, 19, 0, 795], .null), (.iconst 1, 1, [], .int 1), (.iadd, 1, [], .null), (.putfield 122, 3, [9, 19, 0, 795], .null), (.iconst 1, 1, [], .int 1), (.istore_n 3, 1, [3], .null), (.nop, 0, [29, 0, 1, 2, 3], .null)]),
  (29, [(.iload_n 3, 1, [3], .null), (.ifCond .eq 30, 3, [60, 0, 1, 2], .null), (.aload_n 0, 1, [0], .null), (.getfield 7, 3, [9, 0, 2, 776], .null), (.aload_n 0, 1, [0], .null), (.getfield 122, 3, [9, 19, 0, 795], .null), (.iaload, 1, [], .null), (.bipush 59, 2, [], .int 59), (.if_icmp .eq 16, 3, [60, 0, 1, 2], .null), (.aload_n 0, 1, [0], .null), (.iload_n 1, 1, [1], .null), (.aload_n 0, 1, [0], .null), (.getfield 122, 3, [9, 19, 0, 795], .null), (.invokevirtual 192, 3, [133, 3, 0, 0, 9, 1013, 1015, 25, 37], .null), (.istore_n 3, 1, [3], .null), (.goto (-28), 3, [29, 0, 1, 2, 3], .null)]),
  (60, [(.aload_n 0, 1, [0], .null), (.getfield 137, 3, [9, 20, 0, 796], .null), (.ifCond .eq 44, 3, [108, 0, 1, 2], .null), (.aload_n 0, 1, [0], .null), (.iload_n 1, 1, [1], .null), (.sipush 1999, 3, [], .int 1999), (.aload_n 0, 1, [0], .null), (.getfield 137, 3, [9, 20, 0, 796], .null), (.iconst 1, 1, [], .int 1), (.if_icmp .ne 7, 3, [84, 0], .null), (.iconst 5, 1, [], .int 5), (.goto 4, 3, [85, 0], .null)]),
  (84, [(.iconst 3, 1, [], .int 3), (.nop, 0, [85, 0], .null)]),
  (85, [(.iadd, 1, [], .null), (.invokevirtual 184, 3, [118, 3, 0, 0, 9, 957, 959, 15, 37], .null), (.pop, 1, [], .null), (.aload_n 0, 1, [0], .null), (.aload_n 0, 1, [0], .null), (.getfield 137, 3, [9, 20, 0, 796], .null), (.iconst 1, 1, [], .int 1), (.if_icmp .ne 7, 3, [103], .null), (.iconst 5, 1, [], .int 5), (.goto 4, 3, [104], .null)]),
  (103, [(.iconst 4, 1, [], .int 4), (.nop, 0, [104], .null)]),
  (104, [(.invokevirtual 196, 3, [91, 2, 0, 0, 9, 855, 857, 4, 37], .null), (.ireturn, 1, [0], .null)]),
  (108, [(.aload_n 0, 1, [0], .null), (.getfield 20, 3, [9, 3, 2, 779], .null), (.iload_n 1, 1, [1], .null), (.iaload, 1, [], .null), (.iconst 1, 1, [], .int 1), (.if_icmp .ne 15, 3, [130, 2], .null), (.aload_n 0, 1, [0], .null), (.getfield 23, 3, [9, 4, 2, 780], .null), (.iload_n 1, 1, [1], .null), (.aload_n 0, 1, [0], .null), (.getfield 57, 3, [9, 18, 2, 794], .null), (.iconst 4, 1, [], .int 4), (.laload, 1, [], .null), (.lastore, 1, [], .null), (.nop, 0, [130, 2], .null)]),
  (130, [(.iload_n 2, 1, [2], .null), (.ireturn, 1, [0], .null)])], [[]], [0, 1, 2])
def k_Md_act : aK := ([(0, [(.aload_n 0, 1, [0], .null), (.getfield 7, 3, [9, 0, 2, 776], .null), (.iload_n 2, 1, [2], .null), (.iaload, 1, [], .null), (.istore_n 3, 1, [3], .null), (.iload_n 3, 1, [3], .null), (.bipush 42, 2, [], .int 42), (.if_icmp .ne 36, 3, [46, 0, 1, 2, 3], .null), (.aload_n 0, 1, [0], .null), (.getfield 33, 3, [9, 7, 2, 783], .null), (.iload_n 1, 1, [1], .null), (.aload_n 0, 1, [0], .null), (.getfield 7, 3, [9, 0, 2, 776], .null), (.iload_n 2, 1, [2], .null), (.iconst 1, 1, [], .int 1), (.iadd, 1, [], .null), (.iaload, 1, [], .null), (.bipush 49, 2, [], .int 49), (.if_icmp .ne 7, 3, [35, 0, 2], .null), (.iconst 1, 1, [], .int 1), (.goto 4, 3, [36, 0, 2], .null)]),
  (35, [(.iconst 0, 1, [], .int 0), (.nop, 0, [36, 0, 2], .null)]),
  (36, [(.bastore, 1, [], .null), (.aload_n 0, 1, [0], .null), (.iload_n 2, 1, [2], .null), (.iconst 2, 1, [], .int 2), (.iadd, 1, [], .null), (.putfield 122, 3, [9, 19, 0, 795], .null), (.iconst 1, 1, [], .int 1), (.ireturn, 1, [3], .null)]),
  (46, [(.iload_n 3, 1, [3], .null), (.bipush 64, 2, [], .int 64), (.if_icmp .ne 103, 3, [152, 0, 1, 2, 3], .null), (.aload_n 0, 1, [0], .null), (.getfield 7, 3, [9, 0, 2, 776], .null), (.iload_n 2, 1, [2], .null), (.iconst 1, 1, [], .int 1), (.iadd, 1, [], .null), (.iaload, 1, [], .null), (.bipush 48, 2, [], .int 48), (.isub, 1, [], .null), (.istore 4, 2, [4], .null), (.aload_n 0, 1, [0], .null), (.iload_n 2, 1, [2], .null), (.iconst 3, 1, [], .int 3), (.iadd, 1, [], .null), (.putfield 122, 3, [9, 19, 0, 795], .null), (.aload_n 0, 1, [0], .null), (.aload_n 0, 1, [0], .null), (.getfield 16, 3, [9, 2, 2, 778], .null), (.iload 4, 2, [4], .null), (.baload, 1, [], .null), (.ifCond .eq 16, 3, [96, 0, 1, 2, 4], .null), (.aload_n 0, 1, [0], .null), (.invokevirtual 160, 3, [106, 1, 0, 0, 9, 912, 914, 12, 37], .null), (.bipush 6, 2, [], .int 6), (.if_icmp .ge 7, 3, [96, 0, 1, 2, 4], .null), (.iconst 0, 1, [], .int 0), (.goto 4, 3, [97, 0, 1, 2, 4], .null)]),
  (96, [(.iconst 1, 1, [], .int 1), (.nop, 0, [97, 0, 1, 2, 4], .null)]),
  (97, [(.putfield 137, 3, [9, 20, 0, 796], .null), (.aload_n 0, 1, [0], .null), (.getfield 137, 3, [9, 20, 0, 796], .null), (.ifCond .eq 5, 3, [109, 0, 1, 2, 4], .null), (.iconst 0, 1, [], .int 0), (.ireturn, 1, [3], .null)]),
  (109, [(.aload_n 0, 1, [0], .null), (.iload 4, 2, [4], .null), (.iconst 0, 1, [], .int 0), (.invokestatic 128, 3, [107, 1, 1, 0, 916, 917, 37], .null), (.invokevirtual 174, 3, [109, 3, 0, 0, 9, 922, 924, 13, 37], .null), (.istore 5, 2, [5], .null), (.aload_n 0, 1, [0], .null), (.iload_n 1, 1, [1], .null), (.iload 5, 2, [5], .null), (.iconst 1, 1, [], .int 1), (.invokevirtual 170, 3, [119, 4, 9, 0, 9, 961, 963, 16, 37], .null), (.aload_n 0, 1, [0], .null), (.getfield 48, 3, [9, 12, 2, 788], .null), (.aload_n 0, 1, [0], .null), (.getfield 7, 3, [9, 0, 2, 776], .null), (.iload_n 2, 1, [2], .null), (.iconst 2, 1, [], .int 2), (.iadd, 1, [], .null), (.iaload, 1, [], .null), (.invokestatic 106, 3, [100, 1, 0, 0, 889, 890, 37], .null), (.iload 5, 2, [5], .null), (.invokestatic 131, 3, [112, 1, 1, 0, 933, 934, 37], .null), (.lastore, 1, [], .null), (.iconst 1, 1, [], .int 1), (.ireturn, 1, [3], .null)]),
  (152, [(.aload_n 0, 1, [0], .null), (.iload_n 2, 1, [2], .null), (.iconst 1, 1, [], .int 1), (.iadd, 1, [], .null), (.iload_n 1, 1, [1], .null), (.invokevirtual 178, 3, [128, 3, 1, 0, 9, 994, 996, 21, 37], .null), (.lstore 4, 2, [4], .null), (.aload_n 0, 1, [0], .null), (.getfield 137, 3, [9, 20, 0, 796], .null), (.ifCond .eq 5, 3, [171, 0, 1, 3, 4], .null), (.iconst 0, 1, [], .int 0), (.ireturn, 1, [3], .null)]),
  (171, [(.lload 4, 2, [4], .null), (.invokestatic 181, 3, [134, 1, 0, 0, 1017, 1018, 37], .null), (.istore 6, 2, [6], .null), (.iload_n 3, 1, [3], .null), (.bipush 33, 2, [], .int 33), (.if_icmp .ne 69, 3, [250, 0, 1, 3, 4, 6], .null), (.aload_n 0, 1, [0], .null), (.aload_n 0, 1, [0], .null), (.getfield 122, 3, [9, 19, 0, 795], .null), (.iload_n 1, 1, [1], .null), (.invokevirtual 178, 3, [128, 3, 1, 0, 9, 994, 996, 21, 37], .null), (.lstore 7, 2, [7], .null), (.aload_n 0, 1, [0], .null), (.getfield 137, 3, [9, 20, 0, 796], .null), (.ifCond .eq 5, 3, [204, 0, 1, 3, 4, 6, 7], .null), (.iconst 0, 1, [], .int 0), (.ireturn, 1, [3], .null)]),
  (204, [(.aload_n 0, 1, [0], .null), (.iload 6, 2, [6], .null), (.ifCond .lt 19, 3, [226, 0, 1, 3, 4, 6, 7], .null), (.aload_n 0, 1, [0], .null), (.getfield 45, 3, [9, 11, 2, 787], .null), (.bipush 6, 2, [], .int 6), (.iload_n 1, 1, [1], .null), (.imul, 1, [], .null), (.iload 6, 2, [6], .null), (.iadd, 1, [], .null), (.iaload, 1, [], .null), (.iconst 4, 1, [], .int 4), (.if_icmp .lt 7, 3, [230, 0, 1, 3, 4, 6, 7], .null), (.nop, 0, [226, 0, 1, 3, 4, 6, 7], .null)]),
  (226, [(.iconst 1, 1, [], .int 1), (.goto 4, 3, [231, 0, 1, 3, 4, 6, 7], .null)]),
  (230, [(.iconst 0, 1, [], .int 0), (.nop, 0, [231, 0, 1, 3, 4, 6, 7], .null)]),
  (231, [(.putfield 137, 3, [9, 20, 0, 796], .null), (.aload_n 0, 1, [0], .null), (.getfield 137, 3, [9, 20, 0, 796], .null), (.ifCond .ne 12, 3, [250, 0, 1, 3, 4, 6], .null), (.aload_n 0, 1, [0], .null), (.iload_n 1, 1, [1], .null), (.iload 6, 2, [6], .null), (.lload 7, 2, [7], .null), (.invokevirtual 166, 3, [115, 4, 9, 0, 9, 944, 946, 14, 37], .null), (.nop, 0, [250, 0, 1, 3, 4, 6], .null)]),
  (250, [(.iload_n 3, 1, [3], .null), (.bipush 126, 2, [], .int 126), (.if_icmp .ne 11, 3, [264, 0, 1, 3, 4, 6], .null), (.aload_n 0, 1, [0], .null), (.getfield 57, 3, [9, 18, 2, 794], .null), (.iconst 4, 1, [], .int 4), (.lload 4, 2, [4], .null), (.lastore, 1, [], .null), (.nop, 0, [264, 0, 1, 3, 4, 6], .null)]),
  (264, [(.iload_n 3, 1, [3], .null), (.bipush 38, 2, [], .int 38), (.if_icmp .ne 47, 3, [314, 0, 1, 3, 4], .null), (.aload_n 0, 1, [0], .null), (.iload 6, 2, [6], .null), (.ifCond .ge 7, 3, [280, 0, 1, 3, 4, 6], .null), (.iconst 1, 1, [], .int 1), (.goto 4, 3, [281, 0, 1, 3, 4, 6], .null)]),
  (280, [(.iconst 0, 1, [], .int 0), (.nop, 0, [281, 0, 1, 3, 4, 6], .null)]),
  (281, [(.putfield 137, 3, [9, 20, 0, 796], .null), (.iload 6, 2, [6], .null), (.ifCond .lt 28, 3, [314, 0, 1, 3, 4], .null), (.iload 6, 2, [6], .null), (.iload_n 1, 1, [1], .null), (.if_icmp .eq 22, 3, [314, 0, 1, 3, 4], .null), (.aload_n 0, 1, [0], .null), (.getfield 20, 3, [9, 3, 2, 779], .null), (.iload 6, 2, [6], .null), (.iaload, 1, [], .null), (.iconst 1, 1, [], .int 1), (.if_icmp .ne 11, 3, [314, 0, 1, 3, 4], .null), (.aload_n 0, 1, [0], .null), (.iload_n 1, 1, [1], .null), (.iload 6, 2, [6], .null), (.iconst 1, 1, [], .int 1), (.invokevirtual 170, 3, [119, 4, 9, 0, 9, 961, 963, 16, 37], .null), (.nop, 0, [314, 0, 1, 3, 4], .null)]),
  (314, [(.iload_n 3, 1, [3], .null), (.bipush 36, 2, [], .int 36), (.if_icmp .ne 15, 3, [332, 0, 3], .null), (.aload_n 0, 1, [0], .null), (.iload_n 1, 1, [1], .null), (.lload 4, 2, [4], .null), (.iconst 0, 1, [], .int 0), (.invokestatic 74, 3, [117, 2, 0, 0, 954, 955, 37], .null), (.invokevirtual 184, 3, [118, 3, 0, 0, 9, 957, 959, 15, 37], .null), (.pop, 1, [], .null), (.nop, 0, [332, 0, 3], .null)]),
  (332, [(.aload_n 0, 1, [0], .null), (.getfield 137, 3, [9, 20, 0, 796], .null), (.ifCond .ne 13, 3, [349], .null), (.iload_n 3, 1, [3], .null), (.bipush 36, 2, [], .int 36), (.if_icmp .eq 7, 3, [349], .null), (.iconst 1, 1, [], .int 1), (.goto 4, 3, [350], .null)]),
  (349, [(.iconst 0, 1, [], .int 0), (.nop, 0, [350], .null)]),
  (350, [(.ireturn, 1, [3], .null)])], [[]], [0, 1, 2])
def k_Md_actorOf : aK := ([(0, [(.lload_n 0, 1, [0], .null), (.invokestatic 70, 3, [114, 1, 0, 0, 939, 940, 37], .null), (.iconst 1, 1, [], .int 1), (.if_icmp .ne 26, 3, [31], .null), (.lload_n 0, 1, [0], .null), (.iconst 0, 1, [], .int 0), (.invokestatic 74, 3, [117, 2, 0, 0, 954, 955, 37], .null), (.sipush 2007, 3, [], .int 2007), (.if_icmp .lt 15, 3, [31], .null), (.lload_n 0, 1, [0], .null), (.iconst 0, 1, [], .int 0), (.invokestatic 74, 3, [117, 2, 0, 0, 954, 955, 37], .null), (.sipush 2007, 3, [], .int 2007), (.isub, 1, [], .null), (.goto 4, 3, [32], .null)]),
  (31, [(.iconst (-1), 1, [], .int (-1)), (.nop, 0, [32], .null)]),
  (32, [(.ireturn, 1, [0], .null)])], [[]], [0])
def k_Md_kill : aK := ([(0, [(.aload_n 0, 1, [0], .null), (.iload_n 1, 1, [1], .null), (.iconst 0, 1, [], .int 0), (.iconst 5, 1, [], .int 5), (.invokestatic 86, 3, [90, 3, 0, 0, 852, 853, 37], .null), (.iconst 2, 1, [], .int 2), (.invokevirtual 199, 3, [92, 3, 0, 0, 9, 859, 861, 5, 37], .null), (.ifCond .ne 5, 3, [16, 0, 1], .null), (.iconst 0, 1, [], .int 0), (.ireturn, 1, [0], .null)]),
  (16, [(.aload_n 0, 1, [0], .null), (.aload_n 0, 1, [0], .null), (.getfield 20, 3, [9, 3, 2, 779], .null), (.iload_n 1, 1, [1], .null), (.iaload, 1, [], .null), (.iconst 1, 1, [], .int 1), (.if_icmp .ne 7, 3, [31, 0, 1], .null), (.iconst 1, 1, [], .int 1), (.goto 4, 3, [32, 0, 1], .null)]),
  (31, [(.iconst 0, 1, [], .int 0), (.nop, 0, [32, 0, 1], .null)]),
  (32, [(.iconst 1, 1, [], .int 1), (.invokevirtual 199, 3, [92, 3, 0, 0, 9, 859, 861, 5, 37], .null), (.ifCond .eq 14, 3, [50], .null), (.aload_n 0, 1, [0], .null), (.iload_n 1, 1, [1], .null), (.sipush 2006, 3, [], .int 2006), (.invokevirtual 184, 3, [118, 3, 0, 0, 9, 957, 959, 15, 37], .null), (.goto 4, 3, [51], .null)]),
  (50, [(.iconst 0, 1, [], .int 0), (.nop, 0, [51], .null)]),
  (51, [(.ireturn, 1, [0], .null)])], [[]], [0, 1])
def k_Md_reap : aK := ([(0, [(.aload_n 0, 1, [0], .null), (.iload_n 1, 1, [1], .null), (.iconst 0, 1, [], .int 0), (.iconst 5, 1, [], .int 5), (.invokestatic 86, 3, [90, 3, 0, 0, 852, 853, 37], .null), (.iconst 2, 1, [], .int 2), (.invokevirtual 199, 3, [92, 3, 0, 0, 9, 859, 861, 5, 37], .null), (.ifCond .ne 5, 3, [16, 0, 1], .null), (.iconst 0, 1, [], .int 0), (.ireturn, 1, [0], .null)]),
  (16, [(.aload_n 0, 1, [0], .null), (.aload_n 0, 1, [0], .null), (.getfield 20, 3, [9, 3, 2, 779], .null), (.iload_n 1, 1, [1], .null), (.iaload, 1, [], .null), (.iconst 2, 1, [], .int 2), (.if_icmp .ne 7, 3, [31, 0, 1], .null), (.iconst 1, 1, [], .int 1), (.goto 4, 3, [32, 0, 1], .null)]),
  (31, [(.iconst 0, 1, [], .int 0), (.nop, 0, [32, 0, 1], .null)]),
  (32, [(.iconst 1, 1, [], .int 1), (.invokevirtual 199, 3, [92, 3, 0, 0, 9, 859, 861, 5, 37], .null), (.ifCond .ne 5, 3, [41, 0, 1], .null), (.iconst 0, 1, [], .int 0), (.ireturn, 1, [0], .null)]),
  (41, [(.aload_n 0, 1, [0], .null), (.getfield 20, 3, [9, 3, 2, 779], .null), (.iload_n 1, 1, [1], .null), (.iconst 0, 1, [], .int 0), (.iastore, 1, [], .null), (.iconst 0, 1, [], .int 0), (.istore_n 2, 1, [2], .null), (.iconst 0, 1, [], .int 0), (.istore_n 3, 1, [3], .null), (.nop, 0, [52, 0, 2, 3], .null)]),
  (52, [(.iload_n 3, 1, [3], .null), (.bipush 6, 2, [], .int 6), (.if_icmp .ge 21, 3, [76, 2], .null), (.aload_n 0, 1, [0], .null), (.getfield 20, 3, [9, 3, 2, 779], .null), (.iload_n 3, 1, [3], .null), (.iaload, 1, [], .null), (.ifCond .ne 6, 3, [70, 0, 2, 3], .null), (.iinc 2 1, 3, [2], .int 1), (.nop, 0, [70, 0, 2, 3], .null)]),
  (70, [(.iinc 3 1, 3, [3], .int 1), (.goto (-21), 3, [52, 0, 2, 3], .null)]),
  (76, [(.iload_n 2, 1, [2], .null), (.ireturn, 1, [0], .null)])], [[]], [0, 1])
def k_Md_leaf : aK := ([(0, [(.aload_n 0, 1, [0], .null), (.iload_n 1, 1, [1], .null), (.iconst 0, 1, [], .int 0), (.iconst 5, 1, [], .int 5), (.invokestatic 86, 3, [90, 3, 0, 0, 852, 853, 37], .null), (.ifCond .eq 26, 3, [33, 0, 1, 2, 3], .null), (.iload_n 2, 1, [2], .null), (.iconst 0, 1, [], .int 0), (.bipush 6, 2, [], .int 6), (.invokestatic 86, 3, [90, 3, 0, 0, 852, 853, 37], .null), (.ifCond .eq 16, 3, [33, 0, 1, 2, 3], .null), (.iload_n 3, 1, [3], .null), (.iconst 0, 1, [], .int 0), (.iconst 3, 1, [], .int 3), (.invokestatic 86, 3, [90, 3, 0, 0, 852, 853, 37], .null), (.ifCond .eq 7, 3, [33, 0, 1, 2, 3], .null), (.iconst 1, 1, [], .int 1), (.goto 4, 3, [34, 0, 1, 2, 3], .null)]),
  (33, [(.iconst 0, 1, [], .int 0), (.nop, 0, [34, 0, 1, 2, 3], .null)]),
  (34, [(.iconst 1, 1, [], .int 1), (.invokevirtual 199, 3, [92, 3, 0, 0, 9, 859, 861, 5, 37], .null), (.ifCond .ne 5, 3, [43, 0, 1, 2, 3], .null), (.iconst 0, 1, [], .int 0), (.ireturn, 1, [0], .null)]),
  (43, [(.aload_n 0, 1, [0], .null), (.iload_n 1, 1, [1], .null), (.iload_n 2, 1, [2], .null), (.invokevirtual 222, 3, [138, 3, 1, 0, 9, 1032, 1034, 26, 37], .null), (.lstore 4, 2, [4], .null), (.iload_n 3, 1, [3], .null), (.lload 4, 2, [4], .null), (.invokestatic 70, 3, [114, 1, 0, 0, 939, 940, 37], .null), (.if_icmp .ge 15, 3, [72], .null), (.lload 4, 2, [4], .null), (.iload_n 3, 1, [3], .null), (.invokestatic 74, 3, [117, 2, 0, 0, 954, 955, 37], .null), (.invokestatic 225, 3, [139, 1, 0, 0, 1036, 1037, 37], .null), (.goto 6, 3, [75], .null)]),
  (72, [(.sipush (-5000), 3, [], .int (-5000)), (.nop, 0, [75], .null)]),
  (75, [(.ireturn, 1, [0], .null)])], [[]], [0, 1, 2, 3])
def k_Md_term : aK := ([(0, [(.aload_n 0, 1, [0], .null), (.getfield 20, 3, [9, 3, 2, 779], .null), (.iload_n 1, 1, [1], .null), (.iaload, 1, [], .null), (.iconst 1, 1, [], .int 1), (.if_icmp .eq 5, 3, [12, 0, 1, 2], .null), (.lconst 0, 1, [], .long 0), (.lreturn, 1, [], .null)]),
  (12, [(.iload_n 2, 1, [2], .null), (.bipush 6, 2, [], .int 6), (.if_icmp .ne 12, 3, [27, 0, 1, 2], .null), (.aload_n 0, 1, [0], .null), (.getfield 23, 3, [9, 4, 2, 780], .null), (.iload_n 1, 1, [1], .null), (.laload, 1, [], .null), (.goto 28, 3, [52], .null)]),
  (27, [(.iload_n 2, 1, [2], .null), (.aload_n 0, 1, [0], .null), (.getfield 30, 3, [9, 6, 2, 782], .null), (.iload_n 1, 1, [1], .null), (.iaload, 1, [], .null), (.if_icmp .ge 17, 3, [51], .null), (.aload_n 0, 1, [0], .null), (.getfield 27, 3, [9, 5, 2, 781], .null), (.bipush 6, 2, [], .int 6), (.iload_n 1, 1, [1], .null), (.imul, 1, [], .null), (.iload_n 2, 1, [2], .null), (.iadd, 1, [], .null), (.laload, 1, [], .null), (.goto 4, 3, [52], .null)]),
  (51, [(.lconst 0, 1, [], .long 0), (.nop, 0, [52], .null)]),
  (52, [(.lreturn, 1, [], .null)])], [[]], [0, 1, 2])
def k_Md_told : aK := ([(0, [(.iload_n 0, 1, [0], .null), (.sipush 1999, 3, [], .int 1999), (.if_icmp .ge 11, 3, [15, 0], .null), (.iload_n 0, 1, [0], .null), (.sipush 999, 3, [], .int 999), (.isub, 1, [], .null), (.goto 21, 3, [33], .null)]),
  (15, [(.iload_n 0, 1, [0], .null), (.sipush 2007, 3, [], .int 2007), (.if_icmp .ge 9, 3, [28, 0], .null), (.iload_n 0, 1, [0], .null), (.iconst 1, 1, [], .int 1), (.iadd, 1, [], .null), (.goto 8, 3, [33], .null)]),
  (28, [(.iload_n 0, 1, [0], .null), (.sipush 993, 3, [], .int 993), (.iadd, 1, [], .null), (.nop, 0, [33], .null)]),
  (33, [(.ireturn, 1, [0], .null)])], [[]], [0])
def k_Md_shape : aK := ([(0, [(.aload_n 0, 1, [0], .null), (.iload_n 1, 1, [1], .null), (.iconst 0, 1, [], .int 0), (.iconst 5, 1, [], .int 5), (.invokestatic 86, 3, [90, 3, 0, 0, 852, 853, 37], .null), (.ifCond .eq 17, 3, [24, 0, 1, 2], .null), (.iload_n 2, 1, [2], .null), (.iconst 0, 1, [], .int 0), (.bipush 6, 2, [], .int 6), (.invokestatic 86, 3, [90, 3, 0, 0, 852, 853, 37], .null), (.ifCond .eq 7, 3, [24, 0, 1, 2], .null), (.iconst 1, 1, [], .int 1), (.goto 4, 3, [25, 0, 1, 2], .null)]),
  (24, [(.iconst 0, 1, [], .int 0), (.nop, 0, [25, 0, 1, 2], .null)]),
  (25, [(.iconst 1, 1, [], .int 1), (.invokevirtual 199, 3, [92, 3, 0, 0, 9, 859, 861, 5, 37], .null), (.ifCond .ne 5, 3, [34, 0, 1, 2], .null), (.iconst 0, 1, [], .int 0), (.ireturn, 1, [0], .null)]),
  (34, [(.aload_n 0, 1, [0], .null), (.iload_n 1, 1, [1], .null), (.iload_n 2, 1, [2], .null), (.invokevirtual 222, 3, [138, 3, 1, 0, 9, 1032, 1034, 26, 37], .null), (.lstore_n 3, 1, [3], .null), (.lload_n 3, 1, [3], .null), (.lconst 0, 1, [], .long 0), (.lcmp, 1, [], .null), (.ifCond .ne 7, 3, [51, 3], .null), (.sipush (-5000), 3, [], .int (-5000)), (.ireturn, 1, [0], .null)]),
  (51, [(.iconst 0, 1, [], .int 0), (.istore 5, 2, [5], .null), (.iconst 2, 1, [], .int 2), (.lload_n 3, 1, [3], .null), (.invokestatic 70, 3, [114, 1, 0, 0, 939, 940, 37], .null), (.imul, 1, [], .null), (.iconst 1, 1, [], .int 1), (.isub, 1, [], .null), (.istore 6, 2, [6], .null), (.iconst 0, 1, [], .int 0), (.istore 7, 2, [7], .null), (.nop, 0, [67, 3, 5, 6, 7], .null)]),
  (67, [(.iload 7, 2, [7], .null), (.iload 6, 2, [6], .null), (.if_icmp .ge 74, 3, [145, 5], .null), (.lload_n 3, 1, [3], .null), (.iload 7, 2, [7], .null), (.invokestatic 80, 3, [123, 2, 0, 0, 977, 978, 37], .null), (.ifCond .ne 59, 3, [139, 3, 5, 6, 7], .null), (.iconst 0, 1, [], .int 0), (.istore 8, 2, [8], .null), (.iconst 0, 1, [], .int 0), (.istore 9, 2, [9], .null), (.nop, 0, [89, 3, 5, 6, 7, 8, 9], .null)]),
  (89, [(.iload 9, 2, [9], .null), (.iload 7, 2, [7], .null), (.if_icmp .ge 36, 3, [129, 3, 5, 6, 7, 8], .null), (.lload_n 3, 1, [3], .null), (.iload 9, 2, [9], .null), (.invokestatic 80, 3, [123, 2, 0, 0, 977, 978, 37], .null), (.iconst 1, 1, [], .int 1), (.if_icmp .ne 20, 3, [123, 3, 5, 6, 7, 8, 9], .null), (.iload 9, 2, [9], .null), (.lload_n 3, 1, [3], .null), (.iload 9, 2, [9], .null), (.invokestatic 83, 3, [125, 2, 0, 0, 983, 984, 37], .null), (.iadd, 1, [], .null), (.iload 7, 2, [7], .null), (.if_icmp .le 6, 3, [123, 3, 5, 6, 7, 8, 9], .null), (.iinc 8 1, 3, [8], .int 1), (.nop, 0, [123, 3, 5, 6, 7, 8, 9], .null)]),
  (123, [(.iinc 9 1, 3, [9], .int 1), (.goto (-37), 3, [89, 3, 5, 6, 7, 8, 9], .null)]),
  (129, [(.bipush 10, 2, [], .int 10), (.iload 5, 2, [5], .null), (.imul, 1, [], .null), (.iload 8, 2, [8], .null), (.iadd, 1, [], .null), (.istore 5, 2, [5], .null), (.nop, 0, [139, 3, 5, 6, 7], .null)]),
  (139, [(.iinc 7 1, 3, [7], .int 1), (.goto (-75), 3, [67, 3, 5, 6, 7], .null)]),
  (145, [(.iload 5, 2, [5], .null), (.ireturn, 1, [0], .null)])], [[]], [0, 1, 2])
def k_Md_about : aK := ([(0, [(.aload_n 0, 1, [0], .null), (.iload_n 1, 1, [1], .null), (.iconst 0, 1, [], .int 0), (.iconst 5, 1, [], .int 5), (.invokestatic 86, 3, [90, 3, 0, 0, 852, 853, 37], .null), (.ifCond .eq 17, 3, [24, 0, 1, 2], .null), (.iload_n 2, 1, [2], .null), (.iconst 0, 1, [], .int 0), (.bipush 12, 2, [], .int 12), (.invokestatic 86, 3, [90, 3, 0, 0, 852, 853, 37], .null), (.ifCond .eq 7, 3, [24, 0, 1, 2], .null), (.iconst 1, 1, [], .int 1), (.goto 4, 3, [25, 0, 1, 2], .null)]),
  (24, [(.iconst 0, 1, [], .int 0), (.nop, 0, [25, 0, 1, 2], .null)]),
  (25, [(.iconst 1, 1, [], .int 1), (.invokevirtual 199, 3, [92, 3, 0, 0, 9, 859, 861, 5, 37], .null), (.ifCond .ne 5, 3, [34, 0, 1, 2], .null), (.iconst 0, 1, [], .int 0), (.ireturn, 1, [0], .null)]),
  (34, [(.aload_n 0, 1, [0], .null), (.getfield 20, 3, [9, 3, 2, 779], .null), (.iload_n 1, 1, [1], .null), (.iaload, 1, [], .null), (.iconst 1, 1, [], .int 1), (.if_icmp .ne 7, 3, [48, 0, 1, 2], .null), (.iconst 1, 1, [], .int 1), (.goto 4, 3, [49, 0, 1, 2], .null)]),
  (48, [(.iconst 0, 1, [], .int 0), (.nop, 0, [49, 0, 1, 2], .null)]),
  (49, [(.istore_n 3, 1, [3], .null), (.iload_n 2, 1, [2], .null), (.ifCond .ne 10, 3, [61, 0, 1, 2, 3], .null), (.aload_n 0, 1, [0], .null), (.getfield 20, 3, [9, 3, 2, 779], .null), (.iload_n 1, 1, [1], .null), (.iaload, 1, [], .null), (.ireturn, 1, [0], .null)]),
  (61, [(.iload_n 2, 1, [2], .null), (.iconst 1, 1, [], .int 1), (.if_icmp .ne 18, 3, [81, 0, 1, 2, 3], .null), (.iload_n 3, 1, [3], .null), (.ifCond .eq 12, 3, [79], .null), (.aload_n 0, 1, [0], .null), (.getfield 30, 3, [9, 6, 2, 782], .null), (.iload_n 1, 1, [1], .null), (.iaload, 1, [], .null), (.goto 4, 3, [80], .null)]),
  (79, [(.iconst 0, 1, [], .int 0), (.nop, 0, [80], .null)]),
  (80, [(.ireturn, 1, [0], .null)]),
  (81, [(.iload_n 2, 1, [2], .null), (.iconst 2, 1, [], .int 2), (.if_icmp .ne 22, 3, [105, 0, 1, 2, 3], .null), (.iload_n 3, 1, [3], .null), (.ifCond .eq 16, 3, [103], .null), (.aload_n 0, 1, [0], .null), (.getfield 33, 3, [9, 7, 2, 783], .null), (.iload_n 1, 1, [1], .null), (.baload, 1, [], .null), (.ifCond .eq 7, 3, [103], .null), (.iconst 1, 1, [], .int 1), (.goto 4, 3, [104], .null)]),
  (103, [(.iconst 0, 1, [], .int 0), (.nop, 0, [104], .null)]),
  (104, [(.ireturn, 1, [0], .null)]),
  (105, [(.iload_n 2, 1, [2], .null), (.iconst 3, 1, [], .int 3), (.if_icmp .ne 29, 3, [136, 0, 1, 2, 3], .null), (.aload_n 0, 1, [0], .null), (.getfield 20, 3, [9, 3, 2, 779], .null), (.iload_n 1, 1, [1], .null), (.iaload, 1, [], .null), (.iconst 2, 1, [], .int 2), (.if_icmp .ne 15, 3, [132], .null), (.aload_n 0, 1, [0], .null), (.getfield 36, 3, [9, 8, 2, 784], .null), (.iload_n 1, 1, [1], .null), (.iaload, 1, [], .null), (.invokestatic 225, 3, [139, 1, 0, 0, 1036, 1037, 37], .null), (.goto 6, 3, [135], .null)]),
  (132, [(.sipush (-5000), 3, [], .int (-5000)), (.nop, 0, [135], .null)]),
  (135, [(.ireturn, 1, [0], .null)]),
  (136, [(.iload_n 2, 1, [2], .null), (.iconst 5, 1, [], .int 5), (.if_icmp .ne 21, 3, [159, 0, 1, 2], .null), (.iload_n 3, 1, [3], .null), (.ifCond .eq 13, 3, [155], .null), (.aload_n 0, 1, [0], .null), (.iconst 3, 1, [], .int 3), (.iload_n 1, 1, [1], .null), (.iadd, 1, [], .null), (.invokevirtual 206, 3, [103, 2, 0, 0, 9, 900, 902, 11, 37], .null), (.goto 6, 3, [158], .null)]),
  (155, [(.sipush (-5000), 3, [], .int (-5000)), (.nop, 0, [158], .null)]),
  (158, [(.ireturn, 1, [0], .null)]),
  (159, [(.iload_n 2, 1, [2], .null), (.iconst 5, 1, [], .int 5), (.if_icmp .le 18, 3, [179, 0, 1], .null), (.aload_n 0, 1, [0], .null), (.getfield 45, 3, [9, 11, 2, 787], .null), (.bipush 6, 2, [], .int 6), (.iload_n 2, 1, [2], .null), (.bipush 6, 2, [], .int 6), (.isub, 1, [], .null), (.imul, 1, [], .null), (.iload_n 1, 1, [1], .null), (.iadd, 1, [], .null), (.iaload, 1, [], .null), (.ireturn, 1, [0], .null)]),
  (179, [(.iconst 0, 1, [], .int 0), (.istore 4, 2, [4], .null), (.iconst 0, 1, [], .int 0), (.istore 5, 2, [5], .null), (.nop, 0, [185, 0, 1, 4, 5], .null)]),
  (185, [(.iload 5, 2, [5], .null), (.bipush 6, 2, [], .int 6), (.if_icmp .ge 33, 3, [222, 4], .null), (.aload_n 0, 1, [0], .null), (.getfield 39, 3, [9, 9, 2, 785], .null), (.bipush 6, 2, [], .int 6), (.iload_n 1, 1, [1], .null), (.imul, 1, [], .null), (.iload 5, 2, [5], .null), (.iadd, 1, [], .null), (.baload, 1, [], .null), (.ifCond .eq 12, 3, [216, 0, 1, 4, 5], .null), (.iload 4, 2, [4], .null), (.iconst 1, 1, [], .int 1), (.iload 5, 2, [5], .null), (.ishl, 1, [], .null), (.ior, 1, [], .null), (.istore 4, 2, [4], .null), (.nop, 0, [216, 0, 1, 4, 5], .null)]),
  (216, [(.iinc 5 1, 3, [5], .int 1), (.goto (-34), 3, [185, 0, 1, 4, 5], .null)]),
  (222, [(.iload 4, 2, [4], .null), (.ireturn, 1, [0], .null)])], [[]], [0, 1, 2])
def k_Lw_type : aK := ([(0, [(.aload 4, 2, [4], .null), (.iconst 0, 1, [], .int 0), (.aload_n 0, 1, [0], .null), (.iload_n 1, 1, [1], .null), (.lload_n 2, 1, [2], .null), (.invokevirtual 7, 3, [67, 3, 0, 1, 8, 251, 252, 253, 28], .null), (.i2l, 1, [], .null), (.lastore, 1, [], .null), (.goto 11, 3, [22], .null)]),
  (16, [(.iconst 1, 1, [], .int 1), (.ireturn, 1, [0], .null)]),
  (20, [(.iconst 2, 1, [], .int 2), (.ireturn, 1, [0], .null)]),
  (22, [(.iconst 0, 1, [], .int 0), (.ireturn, 1, [0], .null)])], [[], [(0, 16, []), (1, 20, [])]], [0, 1, 2, 4])
def k_Lw_clear : aK := ([(0, [(.aload_n 2, 1, [2], .null), (.iconst 0, 1, [], .int 0), (.aload_n 0, 1, [0], .null), (.iload_n 1, 1, [1], .null), (.invokevirtual 17, 3, [71, 2, 0, 1, 8, 357, 358, 359, 28], .null), (.i2l, 1, [], .null), (.lastore, 1, [], .null), (.goto 6, 3, [15], .null)]),
  (13, [(.iconst 1, 1, [], .int 1), (.ireturn, 1, [0], .null)]),
  (15, [(.iconst 0, 1, [], .int 0), (.ireturn, 1, [0], .null)])], [[], [(1, 13, [])]], [0, 1, 2])
def k_Lw_check : aK := ([(0, [(.aload_n 2, 1, [2], .null), (.iconst 0, 1, [], .int 0), (.aload_n 0, 1, [0], .null), (.iload_n 1, 1, [1], .null), (.invokevirtual 21, 3, [72, 2, 0, 1, 8, 365, 366, 367, 28], .null), (.i2l, 1, [], .null), (.lastore, 1, [], .null), (.goto 9, 3, [18], .null)]),
  (13, [(.iconst 1, 1, [], .int 1), (.ireturn, 1, [0], .null)]),
  (16, [(.iconst 2, 1, [], .int 2), (.ireturn, 1, [0], .null)]),
  (18, [(.iconst 0, 1, [], .int 0), (.ireturn, 1, [0], .null)])], [[], [(1, 13, []), (4, 16, [])]], [0, 1, 2])
def k_Lw_fault : aK := ([(0, [(.aload_n 2, 1, [2], .null), (.iconst 0, 1, [], .int 0), (.aload_n 0, 1, [0], .null), (.iload_n 1, 1, [1], .null), (.invokevirtual 26, 3, [73, 2, 0, 1, 8, 444, 445, 446, 28], .null), (.i2l, 1, [], .null), (.lastore, 1, [], .null), (.goto 6, 3, [15], .null)]),
  (13, [(.iconst 1, 1, [], .int 1), (.ireturn, 1, [0], .null)]),
  (15, [(.iconst 0, 1, [], .int 0), (.ireturn, 1, [0], .null)])], [[], [(1, 13, [])]], [0, 1, 2])
def k_Lw_spawn : aK := ([(0, [(.aload_n 3, 1, [3], .null), (.iconst 0, 1, [], .int 0), (.aload_n 0, 1, [0], .null), (.iload_n 1, 1, [1], .null), (.iload_n 2, 1, [2], .null), (.invokevirtual 29, 3, [74, 3, 0, 1, 8, 451, 452, 453, 28], .null), (.i2l, 1, [], .null), (.lastore, 1, [], .null), (.goto 11, 3, [21], .null)]),
  (15, [(.iconst 1, 1, [], .int 1), (.ireturn, 1, [0], .null)]),
  (19, [(.iconst 2, 1, [], .int 2), (.ireturn, 1, [0], .null)]),
  (21, [(.iconst 0, 1, [], .int 0), (.ireturn, 1, [0], .null)])], [[], [(0, 15, []), (1, 19, [])]], [0, 1, 2, 3])
def k_Lw_send : aK := ([(0, [(.aload 5, 2, [5], .null), (.iconst 0, 1, [], .int 0), (.aload_n 0, 1, [0], .null), (.iload_n 1, 1, [1], .null), (.iload_n 2, 1, [2], .null), (.iload_n 3, 1, [3], .null), (.iload 4, 2, [4], .null), (.invokevirtual 33, 3, [75, 5, 0, 1, 8, 477, 478, 479, 28], .null), (.i2l, 1, [], .null), (.lastore, 1, [], .null), (.goto 11, 3, [25], .null)]),
  (19, [(.iconst 1, 1, [], .int 1), (.ireturn, 1, [0], .null)]),
  (23, [(.iconst 2, 1, [], .int 2), (.ireturn, 1, [0], .null)]),
  (25, [(.iconst 0, 1, [], .int 0), (.ireturn, 1, [0], .null)])], [[], [(0, 19, []), (1, 23, [])]], [0, 1, 2, 3, 4, 5])
def k_Lw_deliver : aK := ([(0, [(.aload_n 3, 1, [3], .null), (.iconst 0, 1, [], .int 0), (.aload_n 0, 1, [0], .null), (.iload_n 1, 1, [1], .null), (.iload_n 2, 1, [2], .null), (.invokevirtual 37, 3, [77, 3, 0, 1, 8, 515, 516, 517, 28], .null), (.i2l, 1, [], .null), (.lastore, 1, [], .null), (.goto 15, 3, [25], .null)]),
  (15, [(.iconst 1, 1, [], .int 1), (.ireturn, 1, [0], .null)]),
  (19, [(.iconst 2, 1, [], .int 2), (.ireturn, 1, [0], .null)]),
  (23, [(.iconst 3, 1, [], .int 3), (.ireturn, 1, [0], .null)]),
  (25, [(.iconst 0, 1, [], .int 0), (.ireturn, 1, [0], .null)])], [[], [(0, 15, []), (1, 19, []), (2, 23, [])]], [0, 1, 2, 3])
def k_Lw_step : aK := ([(0, [(.aload_n 2, 1, [2], .null), (.iconst 0, 1, [], .int 0), (.aload_n 0, 1, [0], .null), (.iload_n 1, 1, [1], .null), (.invokevirtual 42, 3, [79, 2, 0, 1, 8, 573, 574, 575, 28], .null), (.i2l, 1, [], .null), (.lastore, 1, [], .null), (.goto 18, 3, [27], .null)]),
  (13, [(.iconst 1, 1, [], .int 1), (.ireturn, 1, [0], .null)]),
  (16, [(.iconst 2, 1, [], .int 2), (.ireturn, 1, [0], .null)]),
  (19, [(.iconst 3, 1, [], .int 3), (.ireturn, 1, [0], .null)]),
  (22, [(.iconst 4, 1, [], .int 4), (.ireturn, 1, [0], .null)]),
  (25, [(.iconst 5, 1, [], .int 5), (.ireturn, 1, [0], .null)]),
  (27, [(.iconst 0, 1, [], .int 0), (.ireturn, 1, [0], .null)])], [[], [(0, 13, []), (1, 16, []), (2, 19, []), (3, 22, []), (4, 25, [])]], [0, 1, 2])
def k_Lw_kill : aK := ([(0, [(.aload_n 2, 1, [2], .null), (.iconst 0, 1, [], .int 0), (.aload_n 0, 1, [0], .null), (.iload_n 1, 1, [1], .null), (.invokevirtual 47, 3, [81, 2, 0, 1, 8, 722, 723, 724, 28], .null), (.i2l, 1, [], .null), (.lastore, 1, [], .null), (.goto 9, 3, [18], .null)]),
  (13, [(.iconst 1, 1, [], .int 1), (.ireturn, 1, [0], .null)]),
  (16, [(.iconst 2, 1, [], .int 2), (.ireturn, 1, [0], .null)]),
  (18, [(.iconst 0, 1, [], .int 0), (.ireturn, 1, [0], .null)])], [[], [(0, 13, []), (1, 16, [])]], [0, 1, 2])
def k_Lw_reap : aK := ([(0, [(.aload_n 2, 1, [2], .null), (.iconst 0, 1, [], .int 0), (.aload_n 0, 1, [0], .null), (.iload_n 1, 1, [1], .null), (.invokevirtual 50, 3, [82, 2, 0, 1, 8, 735, 736, 737, 28], .null), (.i2l, 1, [], .null), (.lastore, 1, [], .null), (.goto 9, 3, [18], .null)]),
  (13, [(.iconst 1, 1, [], .int 1), (.ireturn, 1, [0], .null)]),
  (16, [(.iconst 2, 1, [], .int 2), (.ireturn, 1, [0], .null)]),
  (18, [(.iconst 0, 1, [], .int 0), (.ireturn, 1, [0], .null)])], [[], [(0, 13, []), (1, 16, [])]], [0, 1, 2])
def k_Lw_leaf : aK := ([(0, [(.aload 4, 2, [4], .null), (.iconst 0, 1, [], .int 0), (.aload_n 0, 1, [0], .null), (.iload_n 1, 1, [1], .null), (.iload_n 2, 1, [2], .null), (.iload_n 3, 1, [3], .null), (.invokevirtual 53, 3, [83, 4, 0, 1, 8, 747, 748, 749, 28], .null), (.i2l, 1, [], .null), (.lastore, 1, [], .null), (.goto 7, 3, [19], .null)]),
  (17, [(.iconst 1, 1, [], .int 1), (.ireturn, 1, [0], .null)]),
  (19, [(.iconst 0, 1, [], .int 0), (.ireturn, 1, [0], .null)])], [[], [(1, 17, [])]], [0, 1, 2, 3, 4])
def k_Lw_shape : aK := ([(0, [(.aload_n 3, 1, [3], .null), (.iconst 0, 1, [], .int 0), (.aload_n 0, 1, [0], .null), (.iload_n 1, 1, [1], .null), (.iload_n 2, 1, [2], .null), (.invokevirtual 57, 3, [85, 3, 0, 1, 8, 758, 759, 760, 28], .null), (.i2l, 1, [], .null), (.lastore, 1, [], .null), (.goto 7, 3, [17], .null)]),
  (15, [(.iconst 1, 1, [], .int 1), (.ireturn, 1, [0], .null)]),
  (17, [(.iconst 0, 1, [], .int 0), (.ireturn, 1, [0], .null)])], [[], [(1, 15, [])]], [0, 1, 2, 3])
def k_Lw_about : aK := ([(0, [(.aload_n 3, 1, [3], .null), (.iconst 0, 1, [], .int 0), (.aload_n 0, 1, [0], .null), (.iload_n 1, 1, [1], .null), (.iload_n 2, 1, [2], .null), (.invokevirtual 60, 3, [86, 3, 0, 1, 8, 766, 767, 768, 28], .null), (.i2l, 1, [], .null), (.lastore, 1, [], .null), (.goto 7, 3, [17], .null)]),
  (15, [(.iconst 1, 1, [], .int 1), (.ireturn, 1, [0], .null)]),
  (17, [(.iconst 0, 1, [], .int 0), (.ireturn, 1, [0], .null)])], [[], [(1, 15, [])]], [0, 1, 2, 3])
def k_Lw_law : aK := ([(0, [(.new 8, 3, [8, 0, 50, 51, 28], .null), (.dup, 1, [], .null), (.invokespecial 63, 3, [66, 1, 9, 0, 52, 53, 28], .null), (.astore_n 1, 1, [1], .null), (.new 64, 3, [9, 0, 770, 771, 37], .null), (.dup, 1, [], .null), (.invokespecial 66, 3, [87, 1, 9, 0, 772, 773, 37], .null), (.astore_n 2, 1, [2], .null), (.iconst 1, 1, [], .int 1), (.newarray .long, 2, [11, 108], .null), (.astore_n 3, 1, [3], .null), (.iconst 0, 1, [], .int 0), (.istore 4, 2, [4], .null), (.nop, 0, [23, 0, 1, 2, 3, 4], .null)]),
  (23, [(.iload 4, 2, [4], .null), (.aload_n 0, 1, [0], .null), (.arraylength, 1, [10], .null), (.iconst 5, 1, [], .int 5), (.isub, 1, [], .null), (.if_icmp .gt 961, 3, [990], .null), (.aload_n 0, 1, [0], .null), (.iload 4, 2, [4], .null), (.iaload, 1, [], .null), (.bipush 15, 2, [], .int 15), (.iand, 1, [], .null), (.tableswitch 945 0 12 #[65, 165, 221, 277, 333, 401, 493, 561, 617, 673, 729, 809, 877], 65, [0, 984, 5, 0, 1, 2, 3, 4, 104, 204, 260, 316, 372, 440, 532, 600, 656, 712, 768, 848, 916], .null)]),
  (104, [(.aload_n 1, 1, [1], .null), (.aload_n 0, 1, [0], .null), (.iload 4, 2, [4], .null), (.iconst 1, 1, [], .int 1), (.iadd, 1, [], .null), (.iaload, 1, [], .null), (.aload_n 0, 1, [0], .null), (.iload 4, 2, [4], .null), (.iconst 2, 1, [], .int 2), (.iadd, 1, [], .null), (.iaload, 1, [], .null), (.i2l, 1, [], .null), (.bipush 32, 2, [], .int 32), (.lshl, 1, [], .null), (.aload_n 0, 1, [0], .null), (.iload 4, 2, [4], .null), (.iconst 3, 1, [], .int 3), (.iadd, 1, [], .null), (.iaload, 1, [], .null), (.i2l, 1, [], .null), (.ldc2_w 67, 3, [1047], .long 4294967295), (.land, 1, [], .null), (.lor, 1, [], .null), (.aload_n 3, 1, [3], .null), (.invokestatic 69, 3, [142, 4, 0, 0, 246, 247, 27], .null), (.istore 5, 2, [5], .null), (.aload_n 2, 1, [2], .null), (.aload_n 0, 1, [0], .null), (.iload 4, 2, [4], .null), (.iconst 1, 1, [], .int 1), (.iadd, 1, [], .null), (.iaload, 1, [], .null), (.aload_n 0, 1, [0], .null), (.iload 4, 2, [4], .null), (.iconst 2, 1, [], .int 2), (.iadd, 1, [], .null), (.iaload, 1, [], .null), (.i2l, 1, [], .null), (.bipush 32, 2, [], .int 32), (.lshl, 1, [], .null), (.aload_n 0, 1, [0], .null), (.iload 4, 2, [4], .null), (.iconst 3, 1, [], .int 3), (.iadd, 1, [], .null), (.iaload, 1, [], .null), (.i2l, 1, [], .null), (.ldc2_w 67, 3, [1047], .long 4294967295), (.land, 1, [], .null), (.lor, 1, [], .null), (.invokevirtual 74, 3, [89, 3, 0, 0, 9, 848, 849, 850, 37], .null), (.istore 6, 2, [6], .null), (.aload_n 2, 1, [2], .null), (.invokevirtual 75, 3, [88, 1, 0, 0, 9, 844, 845, 846, 37], .null), (.iload 5, 2, [5], .null), (.if_icmp .eq 5, 3, [184, 0, 1, 2, 3, 4, 5, 6], .null), (.iconst 0, 1, [], .int 0), (.ireturn, 1, [3], .null)]),
  (184, [(.iload 5, 2, [5], .null), (.ifCond .ne 15, 3, [201, 0, 1, 2, 3, 4], .null), (.aload_n 3, 1, [3], .null), (.iconst 0, 1, [], .int 0), (.laload, 1, [], .null), (.iload 6, 2, [6], .null), (.i2l, 1, [], .null), (.lcmp, 1, [], .null), (.ifCond .eq 5, 3, [201, 0, 1, 2, 3, 4], .null), (.iconst 0, 1, [], .int 0), (.ireturn, 1, [3], .null)]),
  (201, [(.goto 783, 3, [984, 0, 1, 2, 3, 4], .null)]),
  (204, [(.aload_n 1, 1, [1], .null), (.aload_n 0, 1, [0], .null), (.iload 4, 2, [4], .null), (.iconst 1, 1, [], .int 1), (.iadd, 1, [], .null), (.iaload, 1, [], .null), (.aload_n 3, 1, [3], .null), (.invokestatic 79, 3, [143, 3, 0, 0, 354, 355, 27], .null), (.istore 5, 2, [5], .null), (.aload_n 2, 1, [2], .null), (.aload_n 0, 1, [0], .null), (.iload 4, 2, [4], .null), (.iconst 1, 1, [], .int 1), (.iadd, 1, [], .null), (.iaload, 1, [], .null), (.invokevirtual 82, 3, [93, 2, 0, 0, 9, 863, 864, 865, 37], .null), (.istore 6, 2, [6], .null), (.aload_n 2, 1, [2], .null), (.invokevirtual 75, 3, [88, 1, 0, 0, 9, 844, 845, 846, 37], .null), (.iload 5, 2, [5], .null), (.if_icmp .eq 5, 3, [240, 0, 1, 2, 3, 4, 5, 6], .null), (.iconst 0, 1, [], .int 0), (.ireturn, 1, [3], .null)]),
  (240, [(.iload 5, 2, [5], .null), (.ifCond .ne 15, 3, [257, 0, 1, 2, 3, 4], .null), (.aload_n 3, 1, [3], .null), (.iconst 0, 1, [], .int 0), (.laload, 1, [], .null), (.iload 6, 2, [6], .null), (.i2l, 1, [], .null), (.lcmp, 1, [], .null), (.ifCond .eq 5, 3, [257, 0, 1, 2, 3, 4], .null), (.iconst 0, 1, [], .int 0), (.ireturn, 1, [3], .null)]),
  (257, [(.goto 727, 3, [984, 0, 1, 2, 3, 4], .null)]),
  (260, [(.aload_n 1, 1, [1], .null), (.aload_n 0, 1, [0], .null), (.iload 4, 2, [4], .null), (.iconst 1, 1, [], .int 1), (.iadd, 1, [], .null), (.iaload, 1, [], .null), (.aload_n 3, 1, [3], .null), (.invokestatic 83, 3, [144, 3, 0, 0, 361, 362, 27], .null), (.istore 5, 2, [5], .null), (.aload_n 2, 1, [2], .null), (.aload_n 0, 1, [0], .null), (.iload 4, 2, [4], .null), (.iconst 1, 1, [], .int 1), (.iadd, 1, [], .null), (.iaload, 1, [], .null), (.invokevirtual 85, 3, [94, 2, 0, 0, 9, 867, 868, 869, 37], .null), (.istore 6, 2, [6], .null), (.aload_n 2, 1, [2], .null), (.invokevirtual 75, 3, [88, 1, 0, 0, 9, 844, 845, 846, 37], .null), (.iload 5, 2, [5], .null), (.if_icmp .eq 5, 3, [296, 0, 1, 2, 3, 4, 5, 6], .null), (.iconst 0, 1, [], .int 0), (.ireturn, 1, [3], .null)]),
  (296, [(.iload 5, 2, [5], .null), (.ifCond .ne 15, 3, [313, 0, 1, 2, 3, 4], .null), (.aload_n 3, 1, [3], .null), (.iconst 0, 1, [], .int 0), (.laload, 1, [], .null), (.iload 6, 2, [6], .null), (.i2l, 1, [], .null), (.lcmp, 1, [], .null), (.ifCond .eq 5, 3, [313, 0, 1, 2, 3, 4], .null), (.iconst 0, 1, [], .int 0), (.ireturn, 1, [3], .null)]),
  (313, [(.goto 671, 3, [984, 0, 1, 2, 3, 4], .null)]),
  (316, [(.aload_n 1, 1, [1], .null), (.aload_n 0, 1, [0], .null), (.iload 4, 2, [4], .null), (.iconst 1, 1, [], .int 1), (.iadd, 1, [], .null), (.iaload, 1, [], .null), (.aload_n 3, 1, [3], .null), (.invokestatic 86, 3, [145, 3, 0, 0, 441, 442, 27], .null), (.istore 5, 2, [5], .null), (.aload_n 2, 1, [2], .null), (.aload_n 0, 1, [0], .null), (.iload 4, 2, [4], .null), (.iconst 1, 1, [], .int 1), (.iadd, 1, [], .null), (.iaload, 1, [], .null), (.invokevirtual 88, 3, [104, 2, 0, 0, 9, 904, 905, 906, 37], .null), (.istore 6, 2, [6], .null), (.aload_n 2, 1, [2], .null), (.invokevirtual 75, 3, [88, 1, 0, 0, 9, 844, 845, 846, 37], .null), (.iload 5, 2, [5], .null), (.if_icmp .eq 5, 3, [352, 0, 1, 2, 3, 4, 5, 6], .null), (.iconst 0, 1, [], .int 0), (.ireturn, 1, [3], .null)]),
  (352, [(.iload 5, 2, [5], .null), (.ifCond .ne 15, 3, [369, 0, 1, 2, 3, 4], .null), (.aload_n 3, 1, [3], .null), (.iconst 0, 1, [], .int 0), (.laload, 1, [], .null), (.iload 6, 2, [6], .null), (.i2l, 1, [], .null), (.lcmp, 1, [], .null), (.ifCond .eq 5, 3, [369, 0, 1, 2, 3, 4], .null), (.iconst 0, 1, [], .int 0), (.ireturn, 1, [3], .null)]),
  (369, [(.goto 615, 3, [984, 0, 1, 2, 3, 4], .null)]),
  (372, [(.aload_n 1, 1, [1], .null), (.aload_n 0, 1, [0], .null), (.iload 4, 2, [4], .null), (.iconst 1, 1, [], .int 1), (.iadd, 1, [], .null), (.iaload, 1, [], .null), (.aload_n 0, 1, [0], .null), (.iload 4, 2, [4], .null), (.iconst 2, 1, [], .int 2), (.iadd, 1, [], .null), (.iaload, 1, [], .null), (.aload_n 3, 1, [3], .null), (.invokestatic 89, 3, [146, 4, 0, 0, 448, 449, 27], .null), (.istore 5, 2, [5], .null), (.aload_n 2, 1, [2], .null), (.aload_n 0, 1, [0], .null), (.iload 4, 2, [4], .null), (.iconst 1, 1, [], .int 1), (.iadd, 1, [], .null), (.iaload, 1, [], .null), (.aload_n 0, 1, [0], .null), (.iload 4, 2, [4], .null), (.iconst 2, 1, [], .int 2), (.iadd, 1, [], .null), (.iaload, 1, [], .null), (.invokevirtual 92, 3, [105, 3, 0, 0, 9, 908, 909, 910, 37], .null), (.istore 6, 2, [6], .null), (.aload_n 2, 1, [2], .null), (.invokevirtual 75, 3, [88, 1, 0, 0, 9, 844, 845, 846, 37], .null), (.iload 5, 2, [5], .null), (.if_icmp .eq 5, 3, [420, 0, 1, 2, 3, 4, 5, 6], .null), (.iconst 0, 1, [], .int 0), (.ireturn, 1, [3], .null)]),
  (420, [(.iload 5, 2, [5], .null), (.ifCond .ne 15, 3, [437, 0, 1, 2, 3, 4], .null), (.aload_n 3, 1, [3], .null), (.iconst 0, 1, [], .int 0), (.laload, 1, [], .null), (.iload 6, 2, [6], .null), (.i2l, 1, [], .null), (.lcmp, 1, [], .null), (.ifCond .eq 5, 3, [437, 0, 1, 2, 3, 4], .null), (.iconst 0, 1, [], .int 0), (.ireturn, 1, [3], .null)]),
  (437, [(.goto 547, 3, [984, 0, 1, 2, 3, 4], .null)]),
  (440, [(.aload_n 1, 1, [1], .null), (.aload_n 0, 1, [0], .null), (.iload 4, 2, [4], .null), (.iconst 1, 1, [], .int 1), (.iadd, 1, [], .null), (.iaload, 1, [], .null), (.aload_n 0, 1, [0], .null), (.iload 4, 2, [4], .null), (.iconst 2, 1, [], .int 2), (.iadd, 1, [], .null), (.iaload, 1, [], .null), (.aload_n 0, 1, [0], .null), (.iload 4, 2, [4], .null), (.iconst 3, 1, [], .int 3), (.iadd, 1, [], .null), (.iaload, 1, [], .null), (.aload_n 0, 1, [0], .null), (.iload 4, 2, [4], .null), (.iconst 4, 1, [], .int 4), (.iadd, 1, [], .null), (.iaload, 1, [], .null), (.aload_n 3, 1, [3], .null), (.invokestatic 93, 3, [147, 6, 0, 0, 474, 475, 27], .null), (.istore 5, 2, [5], .null), (.aload_n 2, 1, [2], .null), (.aload_n 0, 1, [0], .null), (.iload 4, 2, [4], .null), (.iconst 1, 1, [], .int 1), (.iadd, 1, [], .null), (.iaload, 1, [], .null), (.aload_n 0, 1, [0], .null), (.iload 4, 2, [4], .null), (.iconst 2, 1, [], .int 2), (.iadd, 1, [], .null), (.iaload, 1, [], .null), (.aload_n 0, 1, [0], .null), (.iload 4, 2, [4], .null), (.iconst 3, 1, [], .int 3), (.iadd, 1, [], .null), (.iaload, 1, [], .null), (.aload_n 0, 1, [0], .null), (.iload 4, 2, [4], .null), (.iconst 4, 1, [], .int 4), (.iadd, 1, [], .null), (.iaload, 1, [], .null), (.invokevirtual 96, 3, [110, 5, 0, 0, 9, 926, 927, 928, 37], .null), (.istore 6, 2, [6], .null), (.aload_n 2, 1, [2], .null), (.invokevirtual 75, 3, [88, 1, 0, 0, 9, 844, 845, 846, 37], .null), (.iload 5, 2, [5], .null), (.if_icmp .eq 5, 3, [512, 0, 1, 2, 3, 4, 5, 6], .null), (.iconst 0, 1, [], .int 0), (.ireturn, 1, [3], .null)]),
  (512, [(.iload 5, 2, [5], .null), (.ifCond .ne 15, 3, [529, 0, 1, 2, 3, 4], .null), (.aload_n 3, 1, [3], .null), (.iconst 0, 1, [], .int 0), (.laload, 1, [], .null), (.iload 6, 2, [6], .null), (.i2l, 1, [], .null), (.lcmp, 1, [], .null), (.ifCond .eq 5, 3, [529, 0, 1, 2, 3, 4], .null), (.iconst 0, 1, [], .int 0), (.ireturn, 1, [3], .null)]),
  (529, [(.goto 455, 3, [984, 0, 1, 2, 3, 4], .null)]),
  (532, [(.aload_n 1, 1, [1], .null), (.aload_n 0, 1, [0], .null), (.iload 4, 2, [4], .null), (.iconst 1, 1, [], .int 1), (.iadd, 1, [], .null), (.iaload, 1, [], .null), (.aload_n 0, 1, [0], .null), (.iload 4, 2, [4], .null), (.iconst 2, 1, [], .int 2), (.iadd, 1, [], .null), (.iaload, 1, [], .null), (.aload_n 3, 1, [3], .null), (.invokestatic 97, 3, [148, 4, 0, 0, 511, 512, 27], .null), (.istore 5, 2, [5], .null), (.aload_n 2, 1, [2], .null), (.aload_n 0, 1, [0], .null), (.iload 4, 2, [4], .null), (.iconst 1, 1, [], .int 1), (.iadd, 1, [], .null), (.iaload, 1, [], .null), (.aload_n 0, 1, [0], .null), (.iload 4, 2, [4], .null), (.iconst 2, 1, [], .int 2), (.iadd, 1, [], .null), (.iaload, 1, [], .null), (.invokevirtual 99, 3, [116, 3, 0, 0, 9, 948, 949, 950, 37], .null), (.istore 6, 2, [6], .null), (.aload_n 2, 1, [2], .null), (.invokevirtual 75, 3, [88, 1, 0, 0, 9, 844, 845, 846, 37], .null), (.iload 5, 2, [5], .null), (.if_icmp .eq 5, 3, [580, 0, 1, 2, 3, 4, 5, 6], .null), (.iconst 0, 1, [], .int 0), (.ireturn, 1, [3], .null)]),
  (580, [(.iload 5, 2, [5], .null), (.ifCond .ne 15, 3, [597, 0, 1, 2, 3, 4], .null), (.aload_n 3, 1, [3], .null), (.iconst 0, 1, [], .int 0), (.laload, 1, [], .null), (.iload 6, 2, [6], .null), (.i2l, 1, [], .null), (.lcmp, 1, [], .null), (.ifCond .eq 5, 3, [597, 0, 1, 2, 3, 4], .null), (.iconst 0, 1, [], .int 0), (.ireturn, 1, [3], .null)]),
  (597, [(.goto 387, 3, [984, 0, 1, 2, 3, 4], .null)]),
  (600, [(.aload_n 1, 1, [1], .null), (.aload_n 0, 1, [0], .null), (.iload 4, 2, [4], .null), (.iconst 1, 1, [], .int 1), (.iadd, 1, [], .null), (.iaload, 1, [], .null), (.aload_n 3, 1, [3], .null), (.invokestatic 100, 3, [149, 3, 0, 0, 569, 570, 27], .null), (.istore 5, 2, [5], .null), (.aload_n 2, 1, [2], .null), (.aload_n 0, 1, [0], .null), (.iload 4, 2, [4], .null), (.iconst 1, 1, [], .int 1), (.iadd, 1, [], .null), (.iaload, 1, [], .null), (.invokevirtual 102, 3, [120, 2, 0, 0, 9, 965, 966, 967, 37], .null), (.istore 6, 2, [6], .null), (.aload_n 2, 1, [2], .null), (.invokevirtual 75, 3, [88, 1, 0, 0, 9, 844, 845, 846, 37], .null), (.iload 5, 2, [5], .null), (.if_icmp .eq 5, 3, [636, 0, 1, 2, 3, 4, 5, 6], .null), (.iconst 0, 1, [], .int 0), (.ireturn, 1, [3], .null)]),
  (636, [(.iload 5, 2, [5], .null), (.ifCond .ne 15, 3, [653, 0, 1, 2, 3, 4], .null), (.aload_n 3, 1, [3], .null), (.iconst 0, 1, [], .int 0), (.laload, 1, [], .null), (.iload 6, 2, [6], .null), (.i2l, 1, [], .null), (.lcmp, 1, [], .null), (.ifCond .eq 5, 3, [653, 0, 1, 2, 3, 4], .null), (.iconst 0, 1, [], .int 0), (.ireturn, 1, [3], .null)]),
  (653, [(.goto 331, 3, [984, 0, 1, 2, 3, 4], .null)]),
  (656, [(.aload_n 1, 1, [1], .null), (.aload_n 0, 1, [0], .null), (.iload 4, 2, [4], .null), (.iconst 1, 1, [], .int 1), (.iadd, 1, [], .null), (.iaload, 1, [], .null), (.aload_n 3, 1, [3], .null), (.invokestatic 103, 3, [150, 3, 0, 0, 719, 720, 27], .null), (.istore 5, 2, [5], .null), (.aload_n 2, 1, [2], .null), (.aload_n 0, 1, [0], .null), (.iload 4, 2, [4], .null), (.iconst 1, 1, [], .int 1), (.iadd, 1, [], .null), (.iaload, 1, [], .null), (.invokevirtual 105, 3, [135, 2, 0, 0, 9, 1020, 1021, 1022, 37], .null), (.istore 6, 2, [6], .null), (.aload_n 2, 1, [2], .null), (.invokevirtual 75, 3, [88, 1, 0, 0, 9, 844, 845, 846, 37], .null), (.iload 5, 2, [5], .null), (.if_icmp .eq 5, 3, [692, 0, 1, 2, 3, 4, 5, 6], .null), (.iconst 0, 1, [], .int 0), (.ireturn, 1, [3], .null)]),
  (692, [(.iload 5, 2, [5], .null), (.ifCond .ne 15, 3, [709, 0, 1, 2, 3, 4], .null), (.aload_n 3, 1, [3], .null), (.iconst 0, 1, [], .int 0), (.laload, 1, [], .null), (.iload 6, 2, [6], .null), (.i2l, 1, [], .null), (.lcmp, 1, [], .null), (.ifCond .eq 5, 3, [709, 0, 1, 2, 3, 4], .null), (.iconst 0, 1, [], .int 0), (.ireturn, 1, [3], .null)]),
  (709, [(.goto 275, 3, [984, 0, 1, 2, 3, 4], .null)]),
  (712, [(.aload_n 1, 1, [1], .null), (.aload_n 0, 1, [0], .null), (.iload 4, 2, [4], .null), (.iconst 1, 1, [], .int 1), (.iadd, 1, [], .null), (.iaload, 1, [], .null), (.aload_n 3, 1, [3], .null), (.invokestatic 106, 3, [151, 3, 0, 0, 732, 733, 27], .null), (.istore 5, 2, [5], .null), (.aload_n 2, 1, [2], .null), (.aload_n 0, 1, [0], .null), (.iload 4, 2, [4], .null), (.iconst 1, 1, [], .int 1), (.iadd, 1, [], .null), (.iaload, 1, [], .null), (.invokevirtual 108, 3, [136, 2, 0, 0, 9, 1024, 1025, 1026, 37], .null), (.istore 6, 2, [6], .null), (.aload_n 2, 1, [2], .null), (.invokevirtual 75, 3, [88, 1, 0, 0, 9, 844, 845, 846, 37], .null), (.iload 5, 2, [5], .null), (.if_icmp .eq 5, 3, [748, 0, 1, 2, 3, 4, 5, 6], .null), (.iconst 0, 1, [], .int 0), (.ireturn, 1, [3], .null)]),
  (748, [(.iload 5, 2, [5], .null), (.ifCond .ne 15, 3, [765, 0, 1, 2, 3, 4], .null), (.aload_n 3, 1, [3], .null), (.iconst 0, 1, [], .int 0), (.laload, 1, [], .null), (.iload 6, 2, [6], .null), (.i2l, 1, [], .null), (.lcmp, 1, [], .null), (.ifCond .eq 5, 3, [765, 0, 1, 2, 3, 4], .null), (.iconst 0, 1, [], .int 0), (.ireturn, 1, [3], .null)]),
  (765, [(.goto 219, 3, [984, 0, 1, 2, 3, 4], .null)]),
  (768, [(.aload_n 1, 1, [1], .null), (.aload_n 0, 1, [0], .null), (.iload 4, 2, [4], .null), (.iconst 1, 1, [], .int 1), (.iadd, 1, [], .null), (.iaload, 1, [], .null), (.aload_n 0, 1, [0], .null), (.iload 4, 2, [4], .null), (.iconst 2, 1, [], .int 2), (.iadd, 1, [], .null), (.iaload, 1, [], .null), (.aload_n 0, 1, [0], .null), (.iload 4, 2, [4], .null), (.iconst 3, 1, [], .int 3), (.iadd, 1, [], .null), (.iaload, 1, [], .null), (.aload_n 3, 1, [3], .null), (.invokestatic 109, 3, [152, 5, 0, 0, 744, 745, 27], .null), (.istore 5, 2, [5], .null), (.aload_n 2, 1, [2], .null), (.aload_n 0, 1, [0], .null), (.iload 4, 2, [4], .null), (.iconst 1, 1, [], .int 1), (.iadd, 1, [], .null), (.iaload, 1, [], .null), (.aload_n 0, 1, [0], .null), (.iload 4, 2, [4], .null), (.iconst 2, 1, [], .int 2), (.iadd, 1, [], .null), (.iaload, 1, [], .null), (.aload_n 0, 1, [0], .null), (.iload 4, 2, [4], .null), (.iconst 3, 1, [], .int 3), (.iadd, 1, [], .null), (.iaload, 1, [], .null), (.invokevirtual 112, 3, [137, 4, 0, 0, 9, 1028, 1029, 1030, 37], .null), (.istore 6, 2, [6], .null), (.aload_n 2, 1, [2], .null), (.invokevirtual 75, 3, [88, 1, 0, 0, 9, 844, 845, 846, 37], .null), (.iload 5, 2, [5], .null), (.if_icmp .eq 5, 3, [828, 0, 1, 2, 3, 4, 5, 6], .null), (.iconst 0, 1, [], .int 0), (.ireturn, 1, [3], .null)]),
  (828, [(.iload 5, 2, [5], .null), (.ifCond .ne 15, 3, [845, 0, 1, 2, 3, 4], .null), (.aload_n 3, 1, [3], .null), (.iconst 0, 1, [], .int 0), (.laload, 1, [], .null), (.iload 6, 2, [6], .null), (.i2l, 1, [], .null), (.lcmp, 1, [], .null), (.ifCond .eq 5, 3, [845, 0, 1, 2, 3, 4], .null), (.iconst 0, 1, [], .int 0), (.ireturn, 1, [3], .null)]),
  (845, [(.goto 139, 3, [984, 0, 1, 2, 3, 4], .null)]),
  (848, [(.aload_n 1, 1, [1], .null), (.aload_n 0, 1, [0], .null), (.iload 4, 2, [4], .null), (.iconst 1, 1, [], .int 1), (.iadd, 1, [], .null), (.iaload, 1, [], .null), (.aload_n 0, 1, [0], .null), (.iload 4, 2, [4], .null), (.iconst 2, 1, [], .int 2), (.iadd, 1, [], .null), (.iaload, 1, [], .null), (.aload_n 3, 1, [3], .null), (.invokestatic 113, 3, [153, 4, 0, 0, 755, 756, 27], .null), (.istore 5, 2, [5], .null), (.aload_n 2, 1, [2], .null), (.aload_n 0, 1, [0], .null), (.iload 4, 2, [4], .null), (.iconst 1, 1, [], .int 1), (.iadd, 1, [], .null), (.iaload, 1, [], .null), (.aload_n 0, 1, [0], .null), (.iload 4, 2, [4], .null), (.iconst 2, 1, [], .int 2), (.iadd, 1, [], .null), (.iaload, 1, [], .null), (.invokevirtual 115, 3, [140, 3, 0, 0, 9, 1039, 1040, 1041, 37], .null), (.istore 6, 2, [6], .null), (.aload_n 2, 1, [2], .null), (.invokevirtual 75, 3, [88, 1, 0, 0, 9, 844, 845, 846, 37], .null), (.iload 5, 2, [5], .null), (.if_icmp .eq 5, 3, [896, 0, 1, 2, 3, 4, 5, 6], .null), (.iconst 0, 1, [], .int 0), (.ireturn, 1, [3], .null)]),
  (896, [(.iload 5, 2, [5], .null), (.ifCond .ne 15, 3, [913, 0, 1, 2, 3, 4], .null), (.aload_n 3, 1, [3], .null), (.iconst 0, 1, [], .int 0), (.laload, 1, [], .null), (.iload 6, 2, [6], .null), (.i2l, 1, [], .null), (.lcmp, 1, [], .null), (.ifCond .eq 5, 3, [913, 0, 1, 2, 3, 4], .null), (.iconst 0, 1, [], .int 0), (.ireturn, 1, [3], .null)]),
  (913, [(.goto 71, 3, [984, 0, 1, 2, 3, 4], .null)]),
  (916, [(.aload_n 1, 1, [1], .null), (.aload_n 0, 1, [0], .null), (.iload 4, 2, [4], .null), (.iconst 1, 1, [], .int 1), (.iadd, 1, [], .null), (.iaload, 1, [], .null), (.aload_n 0, 1, [0], .null), (.iload 4, 2, [4], .null), (.iconst 2, 1, [], .int 2), (.iadd, 1, [], .null), (.iaload, 1, [], .null), (.aload_n 3, 1, [3], .null), (.invokestatic 116, 3, [154, 4, 0, 0, 763, 764, 27], .null), (.istore 5, 2, [5], .null), (.aload_n 2, 1, [2], .null), (.aload_n 0, 1, [0], .null), (.iload 4, 2, [4], .null), (.iconst 1, 1, [], .int 1), (.iadd, 1, [], .null), (.iaload, 1, [], .null), (.aload_n 0, 1, [0], .null), (.iload 4, 2, [4], .null), (.iconst 2, 1, [], .int 2), (.iadd, 1, [], .null), (.iaload, 1, [], .null), (.invokevirtual 118, 3, [141, 3, 0, 0, 9, 1043, 1044, 1045, 37], .null), (.istore 6, 2, [6], .null), (.aload_n 2, 1, [2], .null), (.invokevirtual 75, 3, [88, 1, 0, 0, 9, 844, 845, 846, 37], .null), (.iload 5, 2, [5], .null), (.if_icmp .eq 5, 3, [964, 0, 1, 2, 3, 4, 5, 6], .null), (.iconst 0, 1, [], .int 0), (.ireturn, 1, [3], .null)]),
  (964, [(.iload 5, 2, [5], .null), (.ifCond .ne 15, 3, [981, 0, 1, 2, 3, 4], .null), (.aload_n 3, 1, [3], .null), (.iconst 0, 1, [], .int 0), (.laload, 1, [], .null), (.iload 6, 2, [6], .null), (.i2l, 1, [], .null), (.lcmp, 1, [], .null), (.ifCond .eq 5, 3, [981, 0, 1, 2, 3, 4], .null), (.iconst 0, 1, [], .int 0), (.ireturn, 1, [3], .null)]),
  (981, [(.goto 3, 3, [984, 0, 1, 2, 3, 4], .null)]),
  (984, [(.iinc 4 5, 3, [4], .int 5), (.goto (-964), 3, [23, 0, 1, 2, 3, 4], .null)]),
  (990, [(.iconst 1, 1, [], .int 1), (.ireturn, 1, [3], .null)])], [[]], [0])
def k_Integer_bitCount : aK := ([(0, [(.iload_n 0, 1, [0], .null), (.iload_n 0, 1, [0], .null), (.iconst 1, 1, [], .int 1), (.iushr, 1, [], .null), (.ldc_w 265, 3, [729], .int 1431655765), (.iand, 1, [], .null), (.isub, 1, [], .null), (.istore_n 0, 1, [0], .null), (.iload_n 0, 1, [0], .null), (.ldc_w 266, 3, [730], .int 858993459), (.iand, 1, [], .null), (.iload_n 0, 1, [0], .null), (.iconst 2, 1, [], .int 2), (.iushr, 1, [], .null), (.ldc_w 266, 3, [730], .int 858993459), (.iand, 1, [], .null), (.iadd, 1, [], .null), (.istore_n 0, 1, [0], .null), (.iload_n 0, 1, [0], .null), (.iload_n 0, 1, [0], .null), (.iconst 4, 1, [], .int 4), (.iushr, 1, [], .null), (.iadd, 1, [], .null), (.ldc_w 267, 3, [731], .int 252645135), (.iand, 1, [], .null), (.istore_n 0, 1, [0], .null), (.iload_n 0, 1, [0], .null), (.iload_n 0, 1, [0], .null), (.bipush 8, 2, [], .int 8), (.iushr, 1, [], .null), (.iadd, 1, [], .null), (.istore_n 0, 1, [0], .null), (.iload_n 0, 1, [0], .null), (.iload_n 0, 1, [0], .null), (.bipush 16, 2, [], .int 16), (.iushr, 1, [], .null), (.iadd, 1, [], .null), (.istore_n 0, 1, [0], .null), (.iload_n 0, 1, [0], .null), (.bipush 63, 2, [], .int 63), (.iand, 1, [], .null), (.ireturn, 1, [0], .null)])], [[]], [0])
def am_KL : List aK := [k_Actor_init, k_Actor_begin, k_Actor_finish, k_Evaluator_init, k_Evaluator_begin, k_Evaluator_fits, k_Evaluator_variableOf, k_Evaluator_constant, k_Evaluator_guardHolds, k_Evaluator_evaluate, k_Evaluator_evaluateTwo, k_Evaluator_failed, k_Evaluator_calculate, k_Grammar_init, k_Grammar_placeOfFault, k_Grammar_readPattern, k_Grammar_readSimple, k_Grammar_readVariable, k_Grammar_readGuard, k_Grammar_readExpression, k_Grammar_readActions, k_Grammar_readAction, k_Reader_init, k_Reader_open, k_Reader_isAtEnd, k_Reader_sign, k_Reader_accept, k_Reader_acceptFrom, k_Reader_next, k_Reader_skipPast, k_Row_init, k_Row_put, k_Row_at, k_Row_take, k_Stepper_init, k_Stepper_find, k_Stepper_findClause, k_Stepper_perform, k_Stepper_act, k_Stepper_putUnderWay, k_Stepper_makeLinked, k_Stepper_use, k_Term_ofLeaf, k_Term_pair, k_Term_countLeaves, k_Term_shapeOf, k_Term_build, k_Term_isSignal, k_Term_leafAt, k_Term_signal, k_Term_isPair, k_Term_left, k_Term_countLeftLeaves, k_Term_right, k_Term_isInt, k_Term_isActor, k_Text_init, k_Text_append, k_Text_countClauses, k_Text_copyFrom, k_World_init, k_World_make, k_World_way, k_World_end, k_World_link, k_World_countFree, k_AM_init, k_AM_type, k_AM_needRange, k_AM_countSigns, k_AM_byteAt, k_AM_clear, k_AM_check, k_AM_fault, k_AM_spawn, k_AM_send, k_AM_outsideMessage, k_AM_deliver, k_AM_receiveSignal, k_AM_step, k_AM_needAlive, k_AM_kill, k_AM_reap, k_AM_leaf, k_AM_termOf, k_AM_shape, k_AM_about, k_Md_init, k_Md_thrown, k_Md_type, k_Md_in, k_Md_fail, k_Md_good, k_Md_clear, k_Md_check, k_Md_read, k_Md_stands, k_Md_piece, k_Md_isDigit, k_Md_isAtom, k_Md_variableOf, k_Md_complete, k_Md_action, k_Md_clauses, k_Md_fault, k_Md_spawn, k_Md_free, k_Md_whole, k_Md_leafTerm, k_Md_make, k_Md_send, k_Md_atom, k_Md_actor, k_Md_pair, k_Md_leaves, k_Md_put, k_Md_deliver, k_Md_leafOf, k_Md_end, k_Md_link, k_Md_step, k_Md_takes, k_Md_fits, k_Md_bit, k_Md_part, k_Md_bits, k_Md_simple, k_Md_number, k_Md_evaluate, k_Md_combine, k_Md_isInt, k_Md_take, k_Md_perform, k_Md_act, k_Md_actorOf, k_Md_kill, k_Md_reap, k_Md_leaf, k_Md_term, k_Md_told, k_Md_shape, k_Md_about, k_Lw_type, k_Lw_clear, k_Lw_check, k_Lw_fault, k_Lw_spawn, k_Lw_send, k_Lw_deliver, k_Lw_step, k_Lw_kill, k_Lw_reap, k_Lw_leaf, k_Lw_shape, k_Lw_about, k_Lw_law, k_Integer_bitCount]
def am_K (m : Nat) : aK := am_KL.getD m ([], [], [])
noncomputable def am_Y : Nat → aY
  | 0 => fun _ _ _ => none
  | d + 1 => fun m args M => am_X (am_Y d) (am_K m) 0 (am_pj (am_K m).2.2 (am_ar 0 args)) [] M
end
section
theorem y_Actor_init (d : Nat) (a0 : Nat) (M : aM) : am_Y (d + 1) 0 [.ref a0] M = am_X (am_Y d) k_Actor_init 0 [(0, .ref a0)] [] M := rfl
theorem e_Actor_init_0 (cal : aY) (x0 : Nat) (M : aM) : am_X cal k_Actor_init 0 [(0, .ref x0)] [] M = am_cV (cal 56 [.ref M.1.length] (am_nw M 6 (am_df 6))) (fun M1 => (am_wr M1 x0 0 0 (.ref M.1.length)).bind fun M3 => am_cV (cal 30 [.ref M3.1.length, .int 6] (am_nw M3 4 (am_df 4))) (fun M4 => (am_wr M4 x0 0 1 (.ref M3.1.length)).bind fun M6 => (am_wr M6 x0 0 2 (.int 0)).bind fun M7 => (am_wr M7 x0 0 3 (.long 0)).bind fun M8 => (am_wr M8 x0 0 6 (.int (-5000))).bind fun M9 => some (.inl none, M9)) (fun v5 M4 => none)) (fun v2 M1 => none) := (am_X_eq cal k_Actor_init 0 _ _ M).trans rfl
theorem y_Actor_begin (d : Nat) (a0 : Nat) (a1 : Nat) (a2 : Int64) (M : aM) : am_Y (d + 1) 1 [.ref a0, .ref a1, .long a2] M = am_X (am_Y d) k_Actor_begin 0 [(0, .ref a0), (1, .ref a1), (2, .long a2)] [] M := rfl
theorem e_Actor_begin_0 (cal : aY) (x0 : Nat) (x1 : Nat) (x2 : Int64) (M : aM) : am_X cal k_Actor_begin 0 [(0, .ref x0), (1, .ref x1), (2, .long x2)] [] M = (am_rA M x0 0 0).bind fun v1 => (am_ln M v1 6).bind fun _ => am_cV (cal 59 [.ref v1, .ref x1] M) (fun M2 => (am_wr M2 x0 0 2 (.int 1)).bind fun M4 => (am_wr M4 x0 0 3 (.long x2)).bind fun M5 => some (.inl none, M5)) (fun v3 M2 => some (.inr v3, M2)) := (am_X_eq cal k_Actor_begin 0 _ _ M).trans rfl
theorem y_Actor_finish (d : Nat) (a0 : Nat) (a1 : Int32) (M : aM) : am_Y (d + 1) 2 [.ref a0, .int a1] M = am_X (am_Y d) k_Actor_finish 0 [(0, .ref a0), (1, .int a1)] [] M := rfl
theorem e_Actor_finish_0 (cal : aY) (x0 : Nat) (x1 : Int32) (M : aM) : am_X cal k_Actor_finish 0 [(0, .ref x0), (1, .int x1)] [] M = (am_wr M x0 0 2 (.int 2)).bind fun M1 => (am_wr M1 x0 0 6 (.int x1)).bind fun M2 => (am_wr M2 x0 0 3 (.long 0)).bind fun M3 => (am_rA M3 x0 0 1).bind fun v4 => (am_wr M3 v4 4 1 (.int 0)).bind fun M5 => (am_wr M5 x0 0 4 (.int 0)).bind fun M6 => (am_wr M6 x0 0 5 (.int 0)).bind fun M7 => some (.inl none, M7) := (am_X_eq cal k_Actor_finish 0 _ _ M).trans rfl
theorem y_Evaluator_init (d : Nat) (a0 : Nat) (M : aM) : am_Y (d + 1) 3 [.ref a0] M = am_X (am_Y d) k_Evaluator_init 0 [(0, .ref a0)] [] M := rfl
theorem e_Evaluator_init_0 (cal : aY) (x0 : Nat) (M : aM) : am_X cal k_Evaluator_init 0 [(0, .ref x0)] [] M = am_cV (cal 22 [.ref M.1.length] (am_nw M 3 (am_df 3))) (fun M1 => (am_wr M1 x0 1 0 (.ref M.1.length)).bind fun M3 => (am_ix 6).bind fun v4 => bif Nat.ble v4 1000 then (am_wr (am_nw M3 11 (List.replicate v4 (am_dv 11))) x0 1 1 (.ref M3.1.length)).bind fun M5 => some (.inl none, M5) else none) (fun v2 M1 => none) := (am_X_eq cal k_Evaluator_init 0 _ _ M).trans rfl
theorem y_Evaluator_begin (d : Nat) (a0 : Nat) (a1 : Int32) (a2 : Int64) (M : aM) : am_Y (d + 1) 4 [.ref a0, .int a1, .long a2] M = am_X (am_Y d) k_Evaluator_begin 0 [(0, .ref a0), (1, .int a1), (2, .long a2)] [] M := rfl
theorem e_Evaluator_begin_0 (cal : aY) (x0 : Nat) (x1 : Int32) (x2 : Int64) (M : aM) : am_X cal k_Evaluator_begin 0 [(0, .ref x0), (1, .int x1), (2, .long x2)] [] M = (am_wr M x0 1 2 (.int x1)).bind fun M1 => (am_wr M1 x0 1 3 (.int 0)).bind fun M2 => am_X cal k_Evaluator_begin 13 [(0, .ref x0), (2, .long x2), (4, .int 0)] [] M2 := (am_X_eq cal k_Evaluator_begin 0 _ _ M).trans rfl
theorem e_Evaluator_begin_13 (cal : aY) (x0 : Nat) (x2 : Int64) (x4 : Int32) (M : aM) : am_X cal k_Evaluator_begin 13 [(0, .ref x0), (2, .long x2), (4, .int x4)] [] M = if 6 ≤ x4 then am_X cal k_Evaluator_begin 44 [] [] M else (am_rA M x0 1 1).bind fun v1 => if ¬ x4 = 5 then am_X cal k_Evaluator_begin 36 [(0, .ref x0), (2, .long x2), (4, .int x4)] [.int x4, .ref v1] M else am_X cal k_Evaluator_begin 37 [(0, .ref x0), (2, .long x2), (4, .int x4)] [.long x2, .int x4, .ref v1] M := (am_X_eq cal k_Evaluator_begin 13 _ _ M).trans rfl
theorem e_Evaluator_begin_36 (cal : aY) (x0 : Nat) (x2 : Int64) (x4 : Int32) (s0 : Int32) (s1 : Nat) (M : aM) : am_X cal k_Evaluator_begin 36 [(0, .ref x0), (2, .long x2), (4, .int x4)] [.int s0, .ref s1] M = am_X cal k_Evaluator_begin 37 [(0, .ref x0), (2, .long x2), (4, .int x4)] [.long 0, .int s0, .ref s1] M := (am_X_eq cal k_Evaluator_begin 36 _ _ M).trans rfl
theorem e_Evaluator_begin_37 (cal : aY) (x0 : Nat) (x2 : Int64) (x4 : Int32) (s0 : Int64) (s1 : Int32) (s2 : Nat) (M : aM) : am_X cal k_Evaluator_begin 37 [(0, .ref x0), (2, .long x2), (4, .int x4)] [.long s0, .int s1, .ref s2] M = (am_ix s1).bind fun v1 => (am_wr M s2 11 v1 (.long s0)).bind fun M2 => am_X cal k_Evaluator_begin 13 [(0, .ref x0), (2, .long x2), (4, .int (x4 + 1))] [] M2 := (am_X_eq cal k_Evaluator_begin 37 _ _ M).trans rfl
theorem e_Evaluator_begin_44 (cal : aY)  (M : aM) : am_X cal k_Evaluator_begin 44 [] [] M = some (.inl none, M) := (am_X_eq cal k_Evaluator_begin 44 _ _ M).trans rfl
theorem y_Evaluator_fits (d : Nat) (a0 : Nat) (a1 : Int64) (a2 : Int32) (M : aM) : am_Y (d + 1) 5 [.ref a0, .long a1, .int a2] M = am_X (am_Y d) k_Evaluator_fits 0 [(0, .ref a0), (1, .long a1), (3, .int a2)] [] M := rfl
theorem e_Evaluator_fits_0 (cal : aY) (x0 : Nat) (x1 : Int64) (x3 : Int32) (M : aM) : am_X cal k_Evaluator_fits 0 [(0, .ref x0), (1, .long x1), (3, .int x3)] [] M = (am_rA M x0 1 0).bind fun v1 => (am_ln M v1 3).bind fun _ => am_cI (cal 28 [.ref v1] M) (fun v4 M2 => if ¬ v4 = 95 then am_X cal k_Evaluator_fits 18 [(0, .ref x0), (1, .long x1), (3, .int x3), (4, .int v4)] [] M2 else some (.inl (some (.int 1)), M2)) (fun v3 M2 => some (.inr v3, M2)) := (am_X_eq cal k_Evaluator_fits 0 _ _ M).trans rfl
theorem e_Evaluator_fits_18 (cal : aY) (x0 : Nat) (x1 : Int64) (x3 : Int32) (x4 : Int32) (M : aM) : am_X cal k_Evaluator_fits 18 [(0, .ref x0), (1, .long x1), (3, .int x3), (4, .int x4)] [] M = if ¬ x4 = 40 then am_X cal k_Evaluator_fits 95 [(0, .ref x0), (1, .long x1), (4, .int x4)] [] M else if 4 ≤ x3 then am_X cal k_Evaluator_fits 93 [] [] M else am_cI (cal 50 [.long x1] M) (fun v3 M1 => if v3 = 0 then am_X cal k_Evaluator_fits 93 [] [] M1 else am_cJ (cal 51 [.long x1] M1) (fun v6 M4 => (am_ln M4 x0 1).bind fun _ => am_cI (cal 5 [.ref x0, .long v6, .int (x3 + 1)] M4) (fun v9 M7 => if v9 = 0 then am_X cal k_Evaluator_fits 93 [] [] M7 else (am_rA M7 x0 1 0).bind fun v10 => (am_ln M7 v10 3).bind fun _ => am_cI (cal 26 [.ref v10, .int 44] M7) (fun v13 M11 => if v13 = 0 then am_X cal k_Evaluator_fits 93 [] [] M11 else am_cJ (cal 53 [.long x1] M11) (fun v16 M14 => (am_ln M14 x0 1).bind fun _ => am_cI (cal 5 [.ref x0, .long v16, .int (x3 + 1)] M14) (fun v19 M17 => if v19 = 0 then am_X cal k_Evaluator_fits 93 [] [] M17 else (am_rA M17 x0 1 0).bind fun v20 => (am_ln M17 v20 3).bind fun _ => am_cI (cal 26 [.ref v20, .int 41] M17) (fun v23 M21 => if v23 = 0 then am_X cal k_Evaluator_fits 93 [] [] M21 else am_X cal k_Evaluator_fits 94 [] [.int 1] M21) (fun v22 M21 => some (.inr v22, M21))) (fun v18 M17 => some (.inr v18, M17))) (fun v15 M14 => some (.inr v15, M14))) (fun v12 M11 => some (.inr v12, M11))) (fun v8 M7 => some (.inr v8, M7))) (fun v5 M4 => some (.inr v5, M4))) (fun v2 M1 => some (.inr v2, M1)) := (am_X_eq cal k_Evaluator_fits 18 _ _ M).trans rfl
theorem e_Evaluator_fits_93 (cal : aY)  (M : aM) : am_X cal k_Evaluator_fits 93 [] [] M = am_X cal k_Evaluator_fits 94 [] [.int 0] M := (am_X_eq cal k_Evaluator_fits 93 _ _ M).trans rfl
theorem e_Evaluator_fits_94 (cal : aY) (s0 : Int32) (M : aM) : am_X cal k_Evaluator_fits 94 [] [.int s0] M = bif am_ft 3 (.int s0) then some (.inl (some (.int s0)), M) else none := (am_X_eq cal k_Evaluator_fits 94 _ _ M).trans rfl
theorem e_Evaluator_fits_95 (cal : aY) (x0 : Nat) (x1 : Int64) (x4 : Int32) (M : aM) : am_X cal k_Evaluator_fits 95 [(0, .ref x0), (1, .long x1), (4, .int x4)] [] M = am_cI (cal 6 [.int x4] M) (fun v3 M1 => if 0 ≤ v3 then am_X cal k_Evaluator_fits 124 [(0, .ref x0), (1, .long x1), (5, .int v3)] [] M1 else (am_ln M1 x0 1).bind fun _ => am_cJ (cal 7 [.ref x0, .int x4] M1) (fun v6 M4 => if ¬ lg_cmp v6 x1 = 0 then am_X cal k_Evaluator_fits 122 [] [] M4 else am_X cal k_Evaluator_fits 123 [] [.int 1] M4) (fun v5 M4 => some (.inr v5, M4))) (fun v2 M1 => some (.inr v2, M1)) := (am_X_eq cal k_Evaluator_fits 95 _ _ M).trans rfl
theorem e_Evaluator_fits_122 (cal : aY)  (M : aM) : am_X cal k_Evaluator_fits 122 [] [] M = am_X cal k_Evaluator_fits 123 [] [.int 0] M := (am_X_eq cal k_Evaluator_fits 122 _ _ M).trans rfl
theorem e_Evaluator_fits_123 (cal : aY) (s0 : Int32) (M : aM) : am_X cal k_Evaluator_fits 123 [] [.int s0] M = bif am_ft 3 (.int s0) then some (.inl (some (.int s0)), M) else none := (am_X_eq cal k_Evaluator_fits 123 _ _ M).trans rfl
theorem e_Evaluator_fits_124 (cal : aY) (x0 : Nat) (x1 : Int64) (x5 : Int32) (M : aM) : am_X cal k_Evaluator_fits 124 [(0, .ref x0), (1, .long x1), (5, .int x5)] [] M = (am_rA M x0 1 1).bind fun v1 => (am_ix x5).bind fun v2 => (am_rJ M v1 11 v2).bind fun v3 => if ¬ lg_cmp v3 0 = 0 then am_X cal k_Evaluator_fits 144 [(0, .ref x0), (1, .long x1), (5, .int x5)] [] M else (am_rA M x0 1 1).bind fun v4 => (am_ix x5).bind fun v5 => (am_wr M v4 11 v5 (.long x1)).bind fun M6 => am_X cal k_Evaluator_fits 144 [(0, .ref x0), (1, .long x1), (5, .int x5)] [] M6 := (am_X_eq cal k_Evaluator_fits 124 _ _ M).trans rfl
theorem e_Evaluator_fits_144 (cal : aY) (x0 : Nat) (x1 : Int64) (x5 : Int32) (M : aM) : am_X cal k_Evaluator_fits 144 [(0, .ref x0), (1, .long x1), (5, .int x5)] [] M = (am_rA M x0 1 1).bind fun v1 => (am_ix x5).bind fun v2 => (am_rJ M v1 11 v2).bind fun v3 => if ¬ lg_cmp v3 x1 = 0 then am_X cal k_Evaluator_fits 160 [] [] M else am_X cal k_Evaluator_fits 161 [] [.int 1] M := (am_X_eq cal k_Evaluator_fits 144 _ _ M).trans rfl
theorem e_Evaluator_fits_160 (cal : aY)  (M : aM) : am_X cal k_Evaluator_fits 160 [] [] M = am_X cal k_Evaluator_fits 161 [] [.int 0] M := (am_X_eq cal k_Evaluator_fits 160 _ _ M).trans rfl
theorem e_Evaluator_fits_161 (cal : aY) (s0 : Int32) (M : aM) : am_X cal k_Evaluator_fits 161 [] [.int s0] M = bif am_ft 3 (.int s0) then some (.inl (some (.int s0)), M) else none := (am_X_eq cal k_Evaluator_fits 161 _ _ M).trans rfl
theorem y_Evaluator_variableOf (d : Nat) (a0 : Int32) (M : aM) : am_Y (d + 1) 6 [.int a0] M = am_X (am_Y d) k_Evaluator_variableOf 0 [(0, .int a0)] [] M := rfl
theorem e_Evaluator_variableOf_0 (cal : aY) (x0 : Int32) (M : aM) : am_X cal k_Evaluator_variableOf 0 [(0, .int x0)] [] M = if ¬ x0 = 83 then am_X cal k_Evaluator_variableOf 8 [(0, .int x0)] [] M else some (.inl (some (.int 5)), M) := (am_X_eq cal k_Evaluator_variableOf 0 _ _ M).trans rfl
theorem e_Evaluator_variableOf_8 (cal : aY) (x0 : Int32) (M : aM) : am_X cal k_Evaluator_variableOf 8 [(0, .int x0)] [] M = if x0 < 65 then am_X cal k_Evaluator_variableOf 27 [] [] M else if 69 < x0 then am_X cal k_Evaluator_variableOf 27 [] [] M else am_X cal k_Evaluator_variableOf 28 [] [.int (x0 - 65)] M := (am_X_eq cal k_Evaluator_variableOf 8 _ _ M).trans rfl
theorem e_Evaluator_variableOf_27 (cal : aY)  (M : aM) : am_X cal k_Evaluator_variableOf 27 [] [] M = am_X cal k_Evaluator_variableOf 28 [] [.int (-1)] M := (am_X_eq cal k_Evaluator_variableOf 27 _ _ M).trans rfl
theorem e_Evaluator_variableOf_28 (cal : aY) (s0 : Int32) (M : aM) : am_X cal k_Evaluator_variableOf 28 [] [.int s0] M = some (.inl (some (.int s0)), M) := (am_X_eq cal k_Evaluator_variableOf 28 _ _ M).trans rfl
theorem y_Evaluator_constant (d : Nat) (a0 : Nat) (a1 : Int32) (M : aM) : am_Y (d + 1) 7 [.ref a0, .int a1] M = am_X (am_Y d) k_Evaluator_constant 0 [(0, .ref a0), (1, .int a1)] [] M := rfl
theorem e_Evaluator_constant_0 (cal : aY) (x0 : Nat) (x1 : Int32) (M : aM) : am_X cal k_Evaluator_constant 0 [(0, .ref x0), (1, .int x1)] [] M = if x1 < 97 then am_X cal k_Evaluator_constant 24 [(0, .ref x0), (1, .int x1)] [] M else if 104 < x1 then am_X cal k_Evaluator_constant 24 [(0, .ref x0), (1, .int x1)] [] M else am_cJ (cal 42 [.int ((2000 + x1) - 97)] M) (fun v3 M1 => some (.inl (some (.long v3)), M1)) (fun v2 M1 => some (.inr v2, M1)) := (am_X_eq cal k_Evaluator_constant 0 _ _ M).trans rfl
theorem e_Evaluator_constant_24 (cal : aY) (x0 : Nat) (x1 : Int32) (M : aM) : am_X cal k_Evaluator_constant 24 [(0, .ref x0), (1, .int x1)] [] M = if ¬ x1 = 39 then am_X cal k_Evaluator_constant 60 [(1, .int x1)] [] M else (am_rA M x0 1 0).bind fun v1 => (am_ln M v1 3).bind fun _ => am_cI (cal 28 [.ref v1] M) (fun v4 M2 => (am_rA M2 x0 1 0).bind fun v5 => (am_ln M2 v5 3).bind fun _ => am_cI (cal 28 [.ref v5] M2) (fun v8 M6 => am_cJ (cal 42 [.int ((((v4 - 48) * 10) + v8) - 48)] M6) (fun v11 M9 => some (.inl (some (.long v11)), M9)) (fun v10 M9 => some (.inr v10, M9))) (fun v7 M6 => some (.inr v7, M6))) (fun v3 M2 => some (.inr v3, M2)) := (am_X_eq cal k_Evaluator_constant 24 _ _ M).trans rfl
theorem e_Evaluator_constant_60 (cal : aY) (x1 : Int32) (M : aM) : am_X cal k_Evaluator_constant 60 [(1, .int x1)] [] M = am_cJ (cal 42 [.int (x1 - 48)] M) (fun v3 M1 => some (.inl (some (.long v3)), M1)) (fun v2 M1 => some (.inr v2, M1)) := (am_X_eq cal k_Evaluator_constant 60 _ _ M).trans rfl
theorem y_Evaluator_guardHolds (d : Nat) (a0 : Nat) (M : aM) : am_Y (d + 1) 8 [.ref a0] M = am_X (am_Y d) k_Evaluator_guardHolds 0 [(0, .ref a0)] [] M := rfl
theorem e_Evaluator_guardHolds_0 (cal : aY) (x0 : Nat) (M : aM) : am_X cal k_Evaluator_guardHolds 0 [(0, .ref x0)] [] M = (am_rA M x0 1 0).bind fun v1 => (am_ln M v1 3).bind fun _ => am_cI (cal 26 [.ref v1, .int 63] M) (fun v4 M2 => if ¬ v4 = 0 then am_X cal k_Evaluator_guardHolds 14 [(0, .ref x0)] [] M2 else some (.inl (some (.int 1)), M2)) (fun v3 M2 => some (.inr v3, M2)) := (am_X_eq cal k_Evaluator_guardHolds 0 _ _ M).trans rfl
theorem e_Evaluator_guardHolds_14 (cal : aY) (x0 : Nat) (M : aM) : am_X cal k_Evaluator_guardHolds 14 [(0, .ref x0)] [] M = (am_ln M x0 1).bind fun _ => am_cJ (cal 9 [.ref x0, .int 0] M) (fun v3 M1 => if ¬ lg_cmp v3 0 = 0 then am_X cal k_Evaluator_guardHolds 28 [(0, .ref x0), (1, .long v3)] [] M1 else some (.inl (some (.int 0)), M1)) (fun v2 M1 => some (.inr v2, M1)) := (am_X_eq cal k_Evaluator_guardHolds 14 _ _ M).trans rfl
theorem e_Evaluator_guardHolds_28 (cal : aY) (x0 : Nat) (x1 : Int64) (M : aM) : am_X cal k_Evaluator_guardHolds 28 [(0, .ref x0), (1, .long x1)] [] M = (am_rA M x0 1 0).bind fun v1 => (am_ln M v1 3).bind fun _ => am_cI (cal 28 [.ref v1] M) (fun v4 M2 => (am_ln M2 x0 1).bind fun _ => am_cJ (cal 9 [.ref x0, .int 0] M2) (fun v7 M5 => if ¬ lg_cmp v7 0 = 0 then am_X cal k_Evaluator_guardHolds 52 [(1, .long x1), (3, .int v4), (4, .long v7)] [] M5 else some (.inl (some (.int 0)), M5)) (fun v6 M5 => some (.inr v6, M5))) (fun v3 M2 => some (.inr v3, M2)) := (am_X_eq cal k_Evaluator_guardHolds 28 _ _ M).trans rfl
theorem e_Evaluator_guardHolds_52 (cal : aY) (x1 : Int64) (x3 : Int32) (x4 : Int64) (M : aM) : am_X cal k_Evaluator_guardHolds 52 [(1, .long x1), (3, .int x3), (4, .long x4)] [] M = if ¬ x3 = 61 then am_X cal k_Evaluator_guardHolds 71 [(1, .long x1), (4, .long x4)] [] M else if ¬ lg_cmp x1 x4 = 0 then am_X cal k_Evaluator_guardHolds 69 [] [] M else am_X cal k_Evaluator_guardHolds 70 [] [.int 1] M := (am_X_eq cal k_Evaluator_guardHolds 52 _ _ M).trans rfl
theorem e_Evaluator_guardHolds_69 (cal : aY)  (M : aM) : am_X cal k_Evaluator_guardHolds 69 [] [] M = am_X cal k_Evaluator_guardHolds 70 [] [.int 0] M := (am_X_eq cal k_Evaluator_guardHolds 69 _ _ M).trans rfl
theorem e_Evaluator_guardHolds_70 (cal : aY) (s0 : Int32) (M : aM) : am_X cal k_Evaluator_guardHolds 70 [] [.int s0] M = bif am_ft 3 (.int s0) then some (.inl (some (.int s0)), M) else none := (am_X_eq cal k_Evaluator_guardHolds 70 _ _ M).trans rfl
theorem e_Evaluator_guardHolds_71 (cal : aY) (x1 : Int64) (x4 : Int64) (M : aM) : am_X cal k_Evaluator_guardHolds 71 [(1, .long x1), (4, .long x4)] [] M = am_cI (cal 54 [.long x1] M) (fun v3 M1 => if v3 = 0 then am_X cal k_Evaluator_guardHolds 97 [] [] M1 else am_cI (cal 54 [.long x4] M1) (fun v6 M4 => if v6 = 0 then am_X cal k_Evaluator_guardHolds 97 [] [] M4 else if 0 ≤ lg_cmp x1 x4 then am_X cal k_Evaluator_guardHolds 97 [] [] M4 else am_X cal k_Evaluator_guardHolds 98 [] [.int 1] M4) (fun v5 M4 => some (.inr v5, M4))) (fun v2 M1 => some (.inr v2, M1)) := (am_X_eq cal k_Evaluator_guardHolds 71 _ _ M).trans rfl
theorem e_Evaluator_guardHolds_97 (cal : aY)  (M : aM) : am_X cal k_Evaluator_guardHolds 97 [] [] M = am_X cal k_Evaluator_guardHolds 98 [] [.int 0] M := (am_X_eq cal k_Evaluator_guardHolds 97 _ _ M).trans rfl
theorem e_Evaluator_guardHolds_98 (cal : aY) (s0 : Int32) (M : aM) : am_X cal k_Evaluator_guardHolds 98 [] [.int s0] M = bif am_ft 3 (.int s0) then some (.inl (some (.int s0)), M) else none := (am_X_eq cal k_Evaluator_guardHolds 98 _ _ M).trans rfl
theorem y_Evaluator_evaluate (d : Nat) (a0 : Nat) (a1 : Int32) (M : aM) : am_Y (d + 1) 9 [.ref a0, .int a1] M = am_X (am_Y d) k_Evaluator_evaluate 0 [(0, .ref a0), (1, .int a1)] [] M := rfl
theorem e_Evaluator_evaluate_0 (cal : aY) (x0 : Nat) (x1 : Int32) (M : aM) : am_X cal k_Evaluator_evaluate 0 [(0, .ref x0), (1, .int x1)] [] M = (am_rA M x0 1 0).bind fun v1 => (am_ln M v1 3).bind fun _ => am_cI (cal 28 [.ref v1] M) (fun v4 M2 => if v4 = 40 then am_X cal k_Evaluator_evaluate 32 [(0, .ref x0), (1, .int x1), (2, .int v4)] [] M2 else if v4 = 43 then am_X cal k_Evaluator_evaluate 32 [(0, .ref x0), (1, .int x1), (2, .int v4)] [] M2 else if v4 = 45 then am_X cal k_Evaluator_evaluate 32 [(0, .ref x0), (1, .int x1), (2, .int v4)] [] M2 else if ¬ v4 = 47 then am_X cal k_Evaluator_evaluate 39 [(0, .ref x0), (2, .int v4)] [] M2 else am_X cal k_Evaluator_evaluate 32 [(0, .ref x0), (1, .int x1), (2, .int v4)] [] M2) (fun v3 M2 => some (.inr v3, M2)) := (am_X_eq cal k_Evaluator_evaluate 0 _ _ M).trans rfl
theorem e_Evaluator_evaluate_32 (cal : aY) (x0 : Nat) (x1 : Int32) (x2 : Int32) (M : aM) : am_X cal k_Evaluator_evaluate 32 [(0, .ref x0), (1, .int x1), (2, .int x2)] [] M = (am_ln M x0 1).bind fun _ => am_cJ (cal 10 [.ref x0, .int x2, .int x1] M) (fun v3 M1 => some (.inl (some (.long v3)), M1)) (fun v2 M1 => some (.inr v2, M1)) := (am_X_eq cal k_Evaluator_evaluate 32 _ _ M).trans rfl
theorem e_Evaluator_evaluate_39 (cal : aY) (x0 : Nat) (x2 : Int32) (M : aM) : am_X cal k_Evaluator_evaluate 39 [(0, .ref x0), (2, .int x2)] [] M = if ¬ x2 = 35 then am_X cal k_Evaluator_evaluate 57 [(0, .ref x0), (2, .int x2)] [] M else (am_rI M x0 1 2).bind fun v1 => am_cJ (cal 42 [.int (3000 + v1)] M) (fun v4 M2 => some (.inl (some (.long v4)), M2)) (fun v3 M2 => some (.inr v3, M2)) := (am_X_eq cal k_Evaluator_evaluate 39 _ _ M).trans rfl
theorem e_Evaluator_evaluate_57 (cal : aY) (x0 : Nat) (x2 : Int32) (M : aM) : am_X cal k_Evaluator_evaluate 57 [(0, .ref x0), (2, .int x2)] [] M = am_cI (cal 6 [.int x2] M) (fun v3 M1 => if 0 ≤ v3 then am_X cal k_Evaluator_evaluate 72 [(0, .ref x0), (3, .int v3)] [] M1 else (am_ln M1 x0 1).bind fun _ => am_cJ (cal 7 [.ref x0, .int x2] M1) (fun v6 M4 => some (.inl (some (.long v6)), M4)) (fun v5 M4 => some (.inr v5, M4))) (fun v2 M1 => some (.inr v2, M1)) := (am_X_eq cal k_Evaluator_evaluate 57 _ _ M).trans rfl
theorem e_Evaluator_evaluate_72 (cal : aY) (x0 : Nat) (x3 : Int32) (M : aM) : am_X cal k_Evaluator_evaluate 72 [(0, .ref x0), (3, .int x3)] [] M = (am_rA M x0 1 1).bind fun v1 => (am_ix x3).bind fun v2 => (am_rJ M v1 11 v2).bind fun v3 => if ¬ lg_cmp v3 0 = 0 then am_X cal k_Evaluator_evaluate 91 [(0, .ref x0), (3, .int x3)] [] M else (am_ln M x0 1).bind fun _ => am_cJ (cal 11 [.ref x0, .int 1] M) (fun v6 M4 => am_X cal k_Evaluator_evaluate 97 [] [.long v6] M4) (fun v5 M4 => some (.inr v5, M4)) := (am_X_eq cal k_Evaluator_evaluate 72 _ _ M).trans rfl
theorem e_Evaluator_evaluate_91 (cal : aY) (x0 : Nat) (x3 : Int32) (M : aM) : am_X cal k_Evaluator_evaluate 91 [(0, .ref x0), (3, .int x3)] [] M = (am_rA M x0 1 1).bind fun v1 => (am_ix x3).bind fun v2 => (am_rJ M v1 11 v2).bind fun v3 => am_X cal k_Evaluator_evaluate 97 [] [.long v3] M := (am_X_eq cal k_Evaluator_evaluate 91 _ _ M).trans rfl
theorem e_Evaluator_evaluate_97 (cal : aY) (s0 : Int64) (M : aM) : am_X cal k_Evaluator_evaluate 97 [] [.long s0] M = some (.inl (some (.long s0)), M) := (am_X_eq cal k_Evaluator_evaluate 97 _ _ M).trans rfl
theorem y_Evaluator_evaluateTwo (d : Nat) (a0 : Nat) (a1 : Int32) (a2 : Int32) (M : aM) : am_Y (d + 1) 10 [.ref a0, .int a1, .int a2] M = am_X (am_Y d) k_Evaluator_evaluateTwo 0 [(0, .ref a0), (1, .int a1), (2, .int a2)] [] M := rfl
theorem e_Evaluator_evaluateTwo_0 (cal : aY) (x0 : Nat) (x1 : Int32) (x2 : Int32) (M : aM) : am_X cal k_Evaluator_evaluateTwo 0 [(0, .ref x0), (1, .int x1), (2, .int x2)] [] M = if x2 < 4 then am_X cal k_Evaluator_evaluateTwo 11 [(0, .ref x0), (1, .int x1), (2, .int x2)] [] M else (am_ln M x0 1).bind fun _ => am_cJ (cal 11 [.ref x0, .int 1] M) (fun v3 M1 => some (.inl (some (.long v3)), M1)) (fun v2 M1 => some (.inr v2, M1)) := (am_X_eq cal k_Evaluator_evaluateTwo 0 _ _ M).trans rfl
theorem e_Evaluator_evaluateTwo_11 (cal : aY) (x0 : Nat) (x1 : Int32) (x2 : Int32) (M : aM) : am_X cal k_Evaluator_evaluateTwo 11 [(0, .ref x0), (1, .int x1), (2, .int x2)] [] M = (am_ln M x0 1).bind fun _ => am_cJ (cal 9 [.ref x0, .int (x2 + 1)] M) (fun v3 M1 => if ¬ lg_cmp v3 0 = 0 then am_X cal k_Evaluator_evaluateTwo 27 [(0, .ref x0), (1, .int x1), (2, .int x2), (3, .long v3)] [] M1 else some (.inl (some (.long 0)), M1)) (fun v2 M1 => some (.inr v2, M1)) := (am_X_eq cal k_Evaluator_evaluateTwo 11 _ _ M).trans rfl
theorem e_Evaluator_evaluateTwo_27 (cal : aY) (x0 : Nat) (x1 : Int32) (x2 : Int32) (x3 : Int64) (M : aM) : am_X cal k_Evaluator_evaluateTwo 27 [(0, .ref x0), (1, .int x1), (2, .int x2), (3, .long x3)] [] M = if ¬ x1 = 40 then am_X cal k_Evaluator_evaluateTwo 43 [(0, .ref x0), (1, .int x1), (2, .int x2), (3, .long x3)] [] M else (am_rA M x0 1 0).bind fun v1 => (am_ln M v1 3).bind fun _ => am_cI (cal 26 [.ref v1, .int 44] M) (fun v4 M2 => am_X cal k_Evaluator_evaluateTwo 43 [(0, .ref x0), (1, .int x1), (2, .int x2), (3, .long x3)] [] M2) (fun v3 M2 => some (.inr v3, M2)) := (am_X_eq cal k_Evaluator_evaluateTwo 27 _ _ M).trans rfl
theorem e_Evaluator_evaluateTwo_43 (cal : aY) (x0 : Nat) (x1 : Int32) (x2 : Int32) (x3 : Int64) (M : aM) : am_X cal k_Evaluator_evaluateTwo 43 [(0, .ref x0), (1, .int x1), (2, .int x2), (3, .long x3)] [] M = (am_ln M x0 1).bind fun _ => am_cJ (cal 9 [.ref x0, .int (x2 + 1)] M) (fun v3 M1 => if ¬ lg_cmp v3 0 = 0 then am_X cal k_Evaluator_evaluateTwo 61 [(0, .ref x0), (1, .int x1), (3, .long x3), (5, .long v3)] [] M1 else some (.inl (some (.long 0)), M1)) (fun v2 M1 => some (.inr v2, M1)) := (am_X_eq cal k_Evaluator_evaluateTwo 43 _ _ M).trans rfl
theorem e_Evaluator_evaluateTwo_61 (cal : aY) (x0 : Nat) (x1 : Int32) (x3 : Int64) (x5 : Int64) (M : aM) : am_X cal k_Evaluator_evaluateTwo 61 [(0, .ref x0), (1, .int x1), (3, .long x3), (5, .long x5)] [] M = if x1 = 40 then am_X cal k_Evaluator_evaluateTwo 76 [(0, .ref x0), (3, .long x3), (5, .long x5)] [] M else (am_ln M x0 1).bind fun _ => am_cJ (cal 12 [.ref x0, .int x1, .long x3, .long x5] M) (fun v3 M1 => some (.inl (some (.long v3)), M1)) (fun v2 M1 => some (.inr v2, M1)) := (am_X_eq cal k_Evaluator_evaluateTwo 61 _ _ M).trans rfl
theorem e_Evaluator_evaluateTwo_76 (cal : aY) (x0 : Nat) (x3 : Int64) (x5 : Int64) (M : aM) : am_X cal k_Evaluator_evaluateTwo 76 [(0, .ref x0), (3, .long x3), (5, .long x5)] [] M = (am_rA M x0 1 0).bind fun v1 => (am_ln M v1 3).bind fun _ => am_cI (cal 26 [.ref v1, .int 41] M) (fun v4 M2 => am_cJ (cal 43 [.long x3, .long x5] M2) (fun v7 M5 => if ¬ lg_cmp v7 0 = 0 then am_X cal k_Evaluator_evaluateTwo 109 [(7, .long v7)] [] M5 else (am_ln M5 x0 1).bind fun _ => am_cJ (cal 11 [.ref x0, .int 1] M5) (fun v10 M8 => am_X cal k_Evaluator_evaluateTwo 111 [] [.long v10] M8) (fun v9 M8 => some (.inr v9, M8))) (fun v6 M5 => some (.inr v6, M5))) (fun v3 M2 => some (.inr v3, M2)) := (am_X_eq cal k_Evaluator_evaluateTwo 76 _ _ M).trans rfl
theorem e_Evaluator_evaluateTwo_109 (cal : aY) (x7 : Int64) (M : aM) : am_X cal k_Evaluator_evaluateTwo 109 [(7, .long x7)] [] M = am_X cal k_Evaluator_evaluateTwo 111 [] [.long x7] M := (am_X_eq cal k_Evaluator_evaluateTwo 109 _ _ M).trans rfl
theorem e_Evaluator_evaluateTwo_111 (cal : aY) (s0 : Int64) (M : aM) : am_X cal k_Evaluator_evaluateTwo 111 [] [.long s0] M = some (.inl (some (.long s0)), M) := (am_X_eq cal k_Evaluator_evaluateTwo 111 _ _ M).trans rfl
theorem y_Evaluator_failed (d : Nat) (a0 : Nat) (a1 : Int32) (M : aM) : am_Y (d + 1) 11 [.ref a0, .int a1] M = am_X (am_Y d) k_Evaluator_failed 0 [(0, .ref a0), (1, .int a1)] [] M := rfl
theorem e_Evaluator_failed_0 (cal : aY) (x0 : Nat) (x1 : Int32) (M : aM) : am_X cal k_Evaluator_failed 0 [(0, .ref x0), (1, .int x1)] [] M = (am_wr M x0 1 3 (.int x1)).bind fun M1 => some (.inl (some (.long 0)), M1) := (am_X_eq cal k_Evaluator_failed 0 _ _ M).trans rfl
theorem y_Evaluator_calculate (d : Nat) (a0 : Nat) (a1 : Int32) (a2 : Int64) (a3 : Int64) (M : aM) : am_Y (d + 1) 12 [.ref a0, .int a1, .long a2, .long a3] M = am_X (am_Y d) k_Evaluator_calculate 0 [(0, .ref a0), (1, .int a1), (2, .long a2), (4, .long a3)] [] M := rfl
theorem e_Evaluator_calculate_0 (cal : aY) (x0 : Nat) (x1 : Int32) (x2 : Int64) (x4 : Int64) (M : aM) : am_X cal k_Evaluator_calculate 0 [(0, .ref x0), (1, .int x1), (2, .long x2), (4, .long x4)] [] M = am_cI (cal 54 [.long x2] M) (fun v3 M1 => if v3 = 0 then am_X cal k_Evaluator_calculate 15 [(0, .ref x0)] [] M1 else am_cI (cal 54 [.long x4] M1) (fun v6 M4 => if ¬ v6 = 0 then am_X cal k_Evaluator_calculate 21 [(0, .ref x0), (1, .int x1), (2, .long x2), (4, .long x4)] [] M4 else am_X cal k_Evaluator_calculate 15 [(0, .ref x0)] [] M4) (fun v5 M4 => some (.inr v5, M4))) (fun v2 M1 => some (.inr v2, M1)) := (am_X_eq cal k_Evaluator_calculate 0 _ _ M).trans rfl
theorem e_Evaluator_calculate_15 (cal : aY) (x0 : Nat) (M : aM) : am_X cal k_Evaluator_calculate 15 [(0, .ref x0)] [] M = (am_ln M x0 1).bind fun _ => am_cJ (cal 11 [.ref x0, .int 1] M) (fun v3 M1 => some (.inl (some (.long v3)), M1)) (fun v2 M1 => some (.inr v2, M1)) := (am_X_eq cal k_Evaluator_calculate 15 _ _ M).trans rfl
theorem e_Evaluator_calculate_21 (cal : aY) (x0 : Nat) (x1 : Int32) (x2 : Int64) (x4 : Int64) (M : aM) : am_X cal k_Evaluator_calculate 21 [(0, .ref x0), (1, .int x1), (2, .long x2), (4, .long x4)] [] M = am_cI (cal 48 [.long x2, .int 0] M) (fun v3 M1 => am_cI (cal 48 [.long x4, .int 0] M1) (fun v6 M4 => if ¬ x1 = 47 then am_X cal k_Evaluator_calculate 53 [(0, .ref x0), (1, .int x1), (6, .int v3), (7, .int v6)] [] M4 else if ¬ v6 = 0 then am_X cal k_Evaluator_calculate 53 [(0, .ref x0), (1, .int x1), (6, .int v3), (7, .int v6)] [] M4 else (am_ln M4 x0 1).bind fun _ => am_cJ (cal 11 [.ref x0, .int 2] M4) (fun v9 M7 => some (.inl (some (.long v9)), M7)) (fun v8 M7 => some (.inr v8, M7))) (fun v5 M4 => some (.inr v5, M4))) (fun v2 M1 => some (.inr v2, M1)) := (am_X_eq cal k_Evaluator_calculate 21 _ _ M).trans rfl
theorem e_Evaluator_calculate_53 (cal : aY) (x0 : Nat) (x1 : Int32) (x6 : Int32) (x7 : Int32) (M : aM) : am_X cal k_Evaluator_calculate 53 [(0, .ref x0), (1, .int x1), (6, .int x6), (7, .int x7)] [] M = if ¬ x1 = 43 then am_X cal k_Evaluator_calculate 67 [(0, .ref x0), (1, .int x1), (6, .int x6), (7, .int x7)] [] M else am_X cal k_Evaluator_calculate 86 [(0, .ref x0)] [.int (x6 + x7)] M := (am_X_eq cal k_Evaluator_calculate 53 _ _ M).trans rfl
theorem e_Evaluator_calculate_67 (cal : aY) (x0 : Nat) (x1 : Int32) (x6 : Int32) (x7 : Int32) (M : aM) : am_X cal k_Evaluator_calculate 67 [(0, .ref x0), (1, .int x1), (6, .int x6), (7, .int x7)] [] M = if ¬ x1 = 45 then am_X cal k_Evaluator_calculate 81 [(0, .ref x0), (6, .int x6), (7, .int x7)] [] M else am_X cal k_Evaluator_calculate 86 [(0, .ref x0)] [.int (x6 - x7)] M := (am_X_eq cal k_Evaluator_calculate 67 _ _ M).trans rfl
theorem e_Evaluator_calculate_81 (cal : aY) (x0 : Nat) (x6 : Int32) (x7 : Int32) (M : aM) : am_X cal k_Evaluator_calculate 81 [(0, .ref x0), (6, .int x6), (7, .int x7)] [] M = if x7 = 0 then none else am_X cal k_Evaluator_calculate 86 [(0, .ref x0)] [.int (x6 / x7)] M := (am_X_eq cal k_Evaluator_calculate 81 _ _ M).trans rfl
theorem e_Evaluator_calculate_86 (cal : aY) (x0 : Nat) (s0 : Int32) (M : aM) : am_X cal k_Evaluator_calculate 86 [(0, .ref x0)] [.int s0] M = if (if 0 ≤ s0 then s0 else 0 - s0) ≤ 999 then am_X cal k_Evaluator_calculate 107 [(8, .int s0)] [] M else (am_ln M x0 1).bind fun _ => am_cJ (cal 11 [.ref x0, .int 1] M) (fun v3 M1 => am_X cal k_Evaluator_calculate 112 [] [.long v3] M1) (fun v2 M1 => some (.inr v2, M1)) := (am_X_eq cal k_Evaluator_calculate 86 _ _ M).trans rfl
theorem e_Evaluator_calculate_107 (cal : aY) (x8 : Int32) (M : aM) : am_X cal k_Evaluator_calculate 107 [(8, .int x8)] [] M = am_cJ (cal 42 [.int x8] M) (fun v3 M1 => am_X cal k_Evaluator_calculate 112 [] [.long v3] M1) (fun v2 M1 => some (.inr v2, M1)) := (am_X_eq cal k_Evaluator_calculate 107 _ _ M).trans rfl
theorem e_Evaluator_calculate_112 (cal : aY) (s0 : Int64) (M : aM) : am_X cal k_Evaluator_calculate 112 [] [.long s0] M = some (.inl (some (.long s0)), M) := (am_X_eq cal k_Evaluator_calculate 112 _ _ M).trans rfl
theorem y_Grammar_init (d : Nat) (a0 : Nat) (M : aM) : am_Y (d + 1) 13 [.ref a0] M = am_X (am_Y d) k_Grammar_init 0 [(0, .ref a0)] [] M := rfl
theorem e_Grammar_init_0 (cal : aY) (x0 : Nat) (M : aM) : am_X cal k_Grammar_init 0 [(0, .ref x0)] [] M = am_cV (cal 22 [.ref M.1.length] (am_nw M 3 (am_df 3))) (fun M1 => (am_wr M1 x0 2 0 (.ref M.1.length)).bind fun M3 => some (.inl none, M3)) (fun v2 M1 => none) := (am_X_eq cal k_Grammar_init 0 _ _ M).trans rfl
theorem y_Grammar_placeOfFault (d : Nat) (a0 : Nat) (a1 : Nat) (M : aM) : am_Y (d + 1) 14 [.ref a0, .ref a1] M = am_X (am_Y d) k_Grammar_placeOfFault 0 [(0, .ref a0), (1, .ref a1)] [] M := rfl
theorem e_Grammar_placeOfFault_0 (cal : aY) (x0 : Nat) (x1 : Nat) (M : aM) : am_X cal k_Grammar_placeOfFault 0 [(0, .ref x0), (1, .ref x1)] [] M = (am_rA M x0 2 0).bind fun v1 => (am_ln M v1 3).bind fun _ => am_cV (cal 23 [.ref v1, .ref x1] M) (fun M2 => am_X cal k_Grammar_placeOfFault 10 [(0, .ref x0), (2, .int 0)] [] M2) (fun v3 M2 => some (.inr v3, M2)) := (am_X_eq cal k_Grammar_placeOfFault 0 _ _ M).trans rfl
theorem e_Grammar_placeOfFault_10 (cal : aY) (x0 : Nat) (x2 : Int32) (M : aM) : am_X cal k_Grammar_placeOfFault 10 [(0, .ref x0), (2, .int x2)] [] M = if 60 ≤ x2 then am_X cal k_Grammar_placeOfFault 84 [] [] M else (am_rA M x0 2 0).bind fun v1 => (am_ln M v1 3).bind fun _ => am_cI (cal 24 [.ref v1] M) (fun v4 M2 => if ¬ v4 = 0 then am_X cal k_Grammar_placeOfFault 84 [] [] M2 else (am_ln M2 x0 2).bind fun _ => am_cI (cal 15 [.ref x0, .int 0] M2) (fun v7 M5 => if v7 = 0 then am_X cal k_Grammar_placeOfFault 64 [(0, .ref x0), (2, .int x2)] [] M5 else (am_ln M5 x0 2).bind fun _ => am_cI (cal 18 [.ref x0] M5) (fun v10 M8 => if v10 = 0 then am_X cal k_Grammar_placeOfFault 64 [(0, .ref x0), (2, .int x2)] [] M8 else (am_rA M8 x0 2 0).bind fun v11 => (am_ln M8 v11 3).bind fun _ => am_cI (cal 26 [.ref v11, .int 58] M8) (fun v14 M12 => if v14 = 0 then am_X cal k_Grammar_placeOfFault 64 [(0, .ref x0), (2, .int x2)] [] M12 else (am_ln M12 x0 2).bind fun _ => am_cI (cal 20 [.ref x0] M12) (fun v17 M15 => if v17 = 0 then am_X cal k_Grammar_placeOfFault 64 [(0, .ref x0), (2, .int x2)] [] M15 else am_X cal k_Grammar_placeOfFault 65 [(0, .ref x0), (2, .int x2)] [.int 1] M15) (fun v16 M15 => some (.inr v16, M15))) (fun v13 M12 => some (.inr v13, M12))) (fun v9 M8 => some (.inr v9, M8))) (fun v6 M5 => some (.inr v6, M5))) (fun v3 M2 => some (.inr v3, M2)) := (am_X_eq cal k_Grammar_placeOfFault 10 _ _ M).trans rfl
theorem e_Grammar_placeOfFault_64 (cal : aY) (x0 : Nat) (x2 : Int32) (M : aM) : am_X cal k_Grammar_placeOfFault 64 [(0, .ref x0), (2, .int x2)] [] M = am_X cal k_Grammar_placeOfFault 65 [(0, .ref x0), (2, .int x2)] [.int 0] M := (am_X_eq cal k_Grammar_placeOfFault 64 _ _ M).trans rfl
theorem e_Grammar_placeOfFault_65 (cal : aY) (x0 : Nat) (x2 : Int32) (s0 : Int32) (M : aM) : am_X cal k_Grammar_placeOfFault 65 [(0, .ref x0), (2, .int x2)] [.int s0] M = if ¬ s0 = 0 then am_X cal k_Grammar_placeOfFault 78 [(0, .ref x0), (2, .int x2)] [] M else (am_rA M x0 2 0).bind fun v1 => (am_rI M v1 3 1).bind fun v2 => some (.inl (some (.int v2)), M) := (am_X_eq cal k_Grammar_placeOfFault 65 _ _ M).trans rfl
theorem e_Grammar_placeOfFault_78 (cal : aY) (x0 : Nat) (x2 : Int32) (M : aM) : am_X cal k_Grammar_placeOfFault 78 [(0, .ref x0), (2, .int x2)] [] M = am_X cal k_Grammar_placeOfFault 10 [(0, .ref x0), (2, .int (x2 + 1))] [] M := (am_X_eq cal k_Grammar_placeOfFault 78 _ _ M).trans rfl
theorem e_Grammar_placeOfFault_84 (cal : aY)  (M : aM) : am_X cal k_Grammar_placeOfFault 84 [] [] M = some (.inl (some (.int (-2))), M) := (am_X_eq cal k_Grammar_placeOfFault 84 _ _ M).trans rfl
theorem y_Grammar_readPattern (d : Nat) (a0 : Nat) (a1 : Int32) (M : aM) : am_Y (d + 1) 15 [.ref a0, .int a1] M = am_X (am_Y d) k_Grammar_readPattern 0 [(0, .ref a0), (1, .int a1)] [] M := rfl
theorem e_Grammar_readPattern_0 (cal : aY) (x0 : Nat) (x1 : Int32) (M : aM) : am_X cal k_Grammar_readPattern 0 [(0, .ref x0), (1, .int x1)] [] M = (am_rA M x0 2 0).bind fun v1 => (am_ln M v1 3).bind fun _ => am_cI (cal 25 [.ref v1] M) (fun v4 M2 => if ¬ v4 = 40 then am_X cal k_Grammar_readPattern 79 [(0, .ref x0)] [] M2 else if 4 ≤ x1 then am_X cal k_Grammar_readPattern 77 [] [] M2 else (am_rA M2 x0 2 0).bind fun v5 => (am_ln M2 v5 3).bind fun _ => am_cI (cal 26 [.ref v5, .int 40] M2) (fun v8 M6 => if v8 = 0 then am_X cal k_Grammar_readPattern 77 [] [] M6 else (am_ln M6 x0 2).bind fun _ => am_cI (cal 15 [.ref x0, .int (x1 + 1)] M6) (fun v11 M9 => if v11 = 0 then am_X cal k_Grammar_readPattern 77 [] [] M9 else (am_rA M9 x0 2 0).bind fun v12 => (am_ln M9 v12 3).bind fun _ => am_cI (cal 26 [.ref v12, .int 44] M9) (fun v15 M13 => if v15 = 0 then am_X cal k_Grammar_readPattern 77 [] [] M13 else (am_ln M13 x0 2).bind fun _ => am_cI (cal 15 [.ref x0, .int (x1 + 1)] M13) (fun v18 M16 => if v18 = 0 then am_X cal k_Grammar_readPattern 77 [] [] M16 else (am_rA M16 x0 2 0).bind fun v19 => (am_ln M16 v19 3).bind fun _ => am_cI (cal 26 [.ref v19, .int 41] M16) (fun v22 M20 => if v22 = 0 then am_X cal k_Grammar_readPattern 77 [] [] M20 else am_X cal k_Grammar_readPattern 78 [] [.int 1] M20) (fun v21 M20 => some (.inr v21, M20))) (fun v17 M16 => some (.inr v17, M16))) (fun v14 M13 => some (.inr v14, M13))) (fun v10 M9 => some (.inr v10, M9))) (fun v7 M6 => some (.inr v7, M6))) (fun v3 M2 => some (.inr v3, M2)) := (am_X_eq cal k_Grammar_readPattern 0 _ _ M).trans rfl
theorem e_Grammar_readPattern_77 (cal : aY)  (M : aM) : am_X cal k_Grammar_readPattern 77 [] [] M = am_X cal k_Grammar_readPattern 78 [] [.int 0] M := (am_X_eq cal k_Grammar_readPattern 77 _ _ M).trans rfl
theorem e_Grammar_readPattern_78 (cal : aY) (s0 : Int32) (M : aM) : am_X cal k_Grammar_readPattern 78 [] [.int s0] M = bif am_ft 3 (.int s0) then some (.inl (some (.int s0)), M) else none := (am_X_eq cal k_Grammar_readPattern 78 _ _ M).trans rfl
theorem e_Grammar_readPattern_79 (cal : aY) (x0 : Nat) (M : aM) : am_X cal k_Grammar_readPattern 79 [(0, .ref x0)] [] M = (am_rA M x0 2 0).bind fun v1 => (am_ln M v1 3).bind fun _ => am_cI (cal 26 [.ref v1, .int 95] M) (fun v4 M2 => if ¬ v4 = 0 then am_X cal k_Grammar_readPattern 98 [] [] M2 else (am_ln M2 x0 2).bind fun _ => am_cI (cal 16 [.ref x0] M2) (fun v7 M5 => if v7 = 0 then am_X cal k_Grammar_readPattern 102 [] [] M5 else am_X cal k_Grammar_readPattern 98 [] [] M5) (fun v6 M5 => some (.inr v6, M5))) (fun v3 M2 => some (.inr v3, M2)) := (am_X_eq cal k_Grammar_readPattern 79 _ _ M).trans rfl
theorem e_Grammar_readPattern_98 (cal : aY)  (M : aM) : am_X cal k_Grammar_readPattern 98 [] [] M = am_X cal k_Grammar_readPattern 103 [] [.int 1] M := (am_X_eq cal k_Grammar_readPattern 98 _ _ M).trans rfl
theorem e_Grammar_readPattern_102 (cal : aY)  (M : aM) : am_X cal k_Grammar_readPattern 102 [] [] M = am_X cal k_Grammar_readPattern 103 [] [.int 0] M := (am_X_eq cal k_Grammar_readPattern 102 _ _ M).trans rfl
theorem e_Grammar_readPattern_103 (cal : aY) (s0 : Int32) (M : aM) : am_X cal k_Grammar_readPattern 103 [] [.int s0] M = bif am_ft 3 (.int s0) then some (.inl (some (.int s0)), M) else none := (am_X_eq cal k_Grammar_readPattern 103 _ _ M).trans rfl
theorem y_Grammar_readSimple (d : Nat) (a0 : Nat) (M : aM) : am_Y (d + 1) 16 [.ref a0] M = am_X (am_Y d) k_Grammar_readSimple 0 [(0, .ref a0)] [] M := rfl
theorem e_Grammar_readSimple_0 (cal : aY) (x0 : Nat) (M : aM) : am_X cal k_Grammar_readSimple 0 [(0, .ref x0)] [] M = (am_rA M x0 2 0).bind fun v1 => (am_ln M v1 3).bind fun _ => am_cI (cal 26 [.ref v1, .int 39] M) (fun v4 M2 => if v4 = 0 then am_X cal k_Grammar_readSimple 46 [(0, .ref x0)] [] M2 else (am_rA M2 x0 2 0).bind fun v5 => (am_ln M2 v5 3).bind fun _ => am_cI (cal 27 [.ref v5, .int 48, .int 57] M2) (fun v8 M6 => if v8 = 0 then am_X cal k_Grammar_readSimple 44 [] [] M6 else (am_rA M6 x0 2 0).bind fun v9 => (am_ln M6 v9 3).bind fun _ => am_cI (cal 27 [.ref v9, .int 48, .int 57] M6) (fun v12 M10 => if v12 = 0 then am_X cal k_Grammar_readSimple 44 [] [] M10 else am_X cal k_Grammar_readSimple 45 [] [.int 1] M10) (fun v11 M10 => some (.inr v11, M10))) (fun v7 M6 => some (.inr v7, M6))) (fun v3 M2 => some (.inr v3, M2)) := (am_X_eq cal k_Grammar_readSimple 0 _ _ M).trans rfl
theorem e_Grammar_readSimple_44 (cal : aY)  (M : aM) : am_X cal k_Grammar_readSimple 44 [] [] M = am_X cal k_Grammar_readSimple 45 [] [.int 0] M := (am_X_eq cal k_Grammar_readSimple 44 _ _ M).trans rfl
theorem e_Grammar_readSimple_45 (cal : aY) (s0 : Int32) (M : aM) : am_X cal k_Grammar_readSimple 45 [] [.int s0] M = bif am_ft 3 (.int s0) then some (.inl (some (.int s0)), M) else none := (am_X_eq cal k_Grammar_readSimple 45 _ _ M).trans rfl
theorem e_Grammar_readSimple_46 (cal : aY) (x0 : Nat) (M : aM) : am_X cal k_Grammar_readSimple 46 [(0, .ref x0)] [] M = (am_rA M x0 2 0).bind fun v1 => (am_ln M v1 3).bind fun _ => am_cI (cal 27 [.ref v1, .int 48, .int 57] M) (fun v4 M2 => if ¬ v4 = 0 then am_X cal k_Grammar_readSimple 81 [] [] M2 else (am_rA M2 x0 2 0).bind fun v5 => (am_ln M2 v5 3).bind fun _ => am_cI (cal 27 [.ref v5, .int 97, .int 104] M2) (fun v8 M6 => if ¬ v8 = 0 then am_X cal k_Grammar_readSimple 81 [] [] M6 else (am_ln M6 x0 2).bind fun _ => am_cI (cal 17 [.ref x0] M6) (fun v11 M9 => if v11 = 0 then am_X cal k_Grammar_readSimple 85 [] [] M9 else am_X cal k_Grammar_readSimple 81 [] [] M9) (fun v10 M9 => some (.inr v10, M9))) (fun v7 M6 => some (.inr v7, M6))) (fun v3 M2 => some (.inr v3, M2)) := (am_X_eq cal k_Grammar_readSimple 46 _ _ M).trans rfl
theorem e_Grammar_readSimple_81 (cal : aY)  (M : aM) : am_X cal k_Grammar_readSimple 81 [] [] M = am_X cal k_Grammar_readSimple 86 [] [.int 1] M := (am_X_eq cal k_Grammar_readSimple 81 _ _ M).trans rfl
theorem e_Grammar_readSimple_85 (cal : aY)  (M : aM) : am_X cal k_Grammar_readSimple 85 [] [] M = am_X cal k_Grammar_readSimple 86 [] [.int 0] M := (am_X_eq cal k_Grammar_readSimple 85 _ _ M).trans rfl
theorem e_Grammar_readSimple_86 (cal : aY) (s0 : Int32) (M : aM) : am_X cal k_Grammar_readSimple 86 [] [.int s0] M = bif am_ft 3 (.int s0) then some (.inl (some (.int s0)), M) else none := (am_X_eq cal k_Grammar_readSimple 86 _ _ M).trans rfl
theorem y_Grammar_readVariable (d : Nat) (a0 : Nat) (M : aM) : am_Y (d + 1) 17 [.ref a0] M = am_X (am_Y d) k_Grammar_readVariable 0 [(0, .ref a0)] [] M := rfl
theorem e_Grammar_readVariable_0 (cal : aY) (x0 : Nat) (M : aM) : am_X cal k_Grammar_readVariable 0 [(0, .ref x0)] [] M = (am_rA M x0 2 0).bind fun v1 => (am_ln M v1 3).bind fun _ => am_cI (cal 27 [.ref v1, .int 65, .int 69] M) (fun v4 M2 => if ¬ v4 = 0 then am_X cal k_Grammar_readVariable 26 [] [] M2 else (am_rA M2 x0 2 0).bind fun v5 => (am_ln M2 v5 3).bind fun _ => am_cI (cal 26 [.ref v5, .int 83] M2) (fun v8 M6 => if v8 = 0 then am_X cal k_Grammar_readVariable 30 [] [] M6 else am_X cal k_Grammar_readVariable 26 [] [] M6) (fun v7 M6 => some (.inr v7, M6))) (fun v3 M2 => some (.inr v3, M2)) := (am_X_eq cal k_Grammar_readVariable 0 _ _ M).trans rfl
theorem e_Grammar_readVariable_26 (cal : aY)  (M : aM) : am_X cal k_Grammar_readVariable 26 [] [] M = am_X cal k_Grammar_readVariable 31 [] [.int 1] M := (am_X_eq cal k_Grammar_readVariable 26 _ _ M).trans rfl
theorem e_Grammar_readVariable_30 (cal : aY)  (M : aM) : am_X cal k_Grammar_readVariable 30 [] [] M = am_X cal k_Grammar_readVariable 31 [] [.int 0] M := (am_X_eq cal k_Grammar_readVariable 30 _ _ M).trans rfl
theorem e_Grammar_readVariable_31 (cal : aY) (s0 : Int32) (M : aM) : am_X cal k_Grammar_readVariable 31 [] [.int s0] M = bif am_ft 3 (.int s0) then some (.inl (some (.int s0)), M) else none := (am_X_eq cal k_Grammar_readVariable 31 _ _ M).trans rfl
theorem y_Grammar_readGuard (d : Nat) (a0 : Nat) (M : aM) : am_Y (d + 1) 18 [.ref a0] M = am_X (am_Y d) k_Grammar_readGuard 0 [(0, .ref a0)] [] M := rfl
theorem e_Grammar_readGuard_0 (cal : aY) (x0 : Nat) (M : aM) : am_X cal k_Grammar_readGuard 0 [(0, .ref x0)] [] M = (am_rA M x0 2 0).bind fun v1 => (am_ln M v1 3).bind fun _ => am_cI (cal 26 [.ref v1, .int 63] M) (fun v4 M2 => if ¬ v4 = 0 then am_X cal k_Grammar_readGuard 14 [(0, .ref x0)] [] M2 else some (.inl (some (.int 1)), M2)) (fun v3 M2 => some (.inr v3, M2)) := (am_X_eq cal k_Grammar_readGuard 0 _ _ M).trans rfl
theorem e_Grammar_readGuard_14 (cal : aY) (x0 : Nat) (M : aM) : am_X cal k_Grammar_readGuard 14 [(0, .ref x0)] [] M = (am_ln M x0 2).bind fun _ => am_cI (cal 19 [.ref x0, .int 0] M) (fun v3 M1 => if v3 = 0 then am_X cal k_Grammar_readGuard 58 [] [] M1 else (am_rA M1 x0 2 0).bind fun v4 => (am_ln M1 v4 3).bind fun _ => am_cI (cal 26 [.ref v4, .int 60] M1) (fun v7 M5 => if ¬ v7 = 0 then am_X cal k_Grammar_readGuard 46 [(0, .ref x0)] [] M5 else (am_rA M5 x0 2 0).bind fun v8 => (am_ln M5 v8 3).bind fun _ => am_cI (cal 26 [.ref v8, .int 61] M5) (fun v11 M9 => if v11 = 0 then am_X cal k_Grammar_readGuard 58 [] [] M9 else am_X cal k_Grammar_readGuard 46 [(0, .ref x0)] [] M9) (fun v10 M9 => some (.inr v10, M9))) (fun v6 M5 => some (.inr v6, M5))) (fun v2 M1 => some (.inr v2, M1)) := (am_X_eq cal k_Grammar_readGuard 14 _ _ M).trans rfl
theorem e_Grammar_readGuard_46 (cal : aY) (x0 : Nat) (M : aM) : am_X cal k_Grammar_readGuard 46 [(0, .ref x0)] [] M = (am_ln M x0 2).bind fun _ => am_cI (cal 19 [.ref x0, .int 0] M) (fun v3 M1 => if v3 = 0 then am_X cal k_Grammar_readGuard 58 [] [] M1 else am_X cal k_Grammar_readGuard 59 [] [.int 1] M1) (fun v2 M1 => some (.inr v2, M1)) := (am_X_eq cal k_Grammar_readGuard 46 _ _ M).trans rfl
theorem e_Grammar_readGuard_58 (cal : aY)  (M : aM) : am_X cal k_Grammar_readGuard 58 [] [] M = am_X cal k_Grammar_readGuard 59 [] [.int 0] M := (am_X_eq cal k_Grammar_readGuard 58 _ _ M).trans rfl
theorem e_Grammar_readGuard_59 (cal : aY) (s0 : Int32) (M : aM) : am_X cal k_Grammar_readGuard 59 [] [.int s0] M = bif am_ft 3 (.int s0) then some (.inl (some (.int s0)), M) else none := (am_X_eq cal k_Grammar_readGuard 59 _ _ M).trans rfl
theorem y_Grammar_readExpression (d : Nat) (a0 : Nat) (a1 : Int32) (M : aM) : am_Y (d + 1) 19 [.ref a0, .int a1] M = am_X (am_Y d) k_Grammar_readExpression 0 [(0, .ref a0), (1, .int a1)] [] M := rfl
theorem e_Grammar_readExpression_0 (cal : aY) (x0 : Nat) (x1 : Int32) (M : aM) : am_X cal k_Grammar_readExpression 0 [(0, .ref x0), (1, .int x1)] [] M = (am_rA M x0 2 0).bind fun v1 => (am_ln M v1 3).bind fun _ => am_cI (cal 25 [.ref v1] M) (fun v4 M2 => if ¬ v4 = 40 then am_X cal k_Grammar_readExpression 81 [(0, .ref x0), (1, .int x1), (2, .int v4)] [] M2 else if 4 ≤ x1 then am_X cal k_Grammar_readExpression 79 [] [] M2 else (am_rA M2 x0 2 0).bind fun v5 => (am_ln M2 v5 3).bind fun _ => am_cI (cal 26 [.ref v5, .int 40] M2) (fun v8 M6 => if v8 = 0 then am_X cal k_Grammar_readExpression 79 [] [] M6 else (am_ln M6 x0 2).bind fun _ => am_cI (cal 19 [.ref x0, .int (x1 + 1)] M6) (fun v11 M9 => if v11 = 0 then am_X cal k_Grammar_readExpression 79 [] [] M9 else (am_rA M9 x0 2 0).bind fun v12 => (am_ln M9 v12 3).bind fun _ => am_cI (cal 26 [.ref v12, .int 44] M9) (fun v15 M13 => if v15 = 0 then am_X cal k_Grammar_readExpression 79 [] [] M13 else (am_ln M13 x0 2).bind fun _ => am_cI (cal 19 [.ref x0, .int (x1 + 1)] M13) (fun v18 M16 => if v18 = 0 then am_X cal k_Grammar_readExpression 79 [] [] M16 else (am_rA M16 x0 2 0).bind fun v19 => (am_ln M16 v19 3).bind fun _ => am_cI (cal 26 [.ref v19, .int 41] M16) (fun v22 M20 => if v22 = 0 then am_X cal k_Grammar_readExpression 79 [] [] M20 else am_X cal k_Grammar_readExpression 80 [] [.int 1] M20) (fun v21 M20 => some (.inr v21, M20))) (fun v17 M16 => some (.inr v17, M16))) (fun v14 M13 => some (.inr v14, M13))) (fun v10 M9 => some (.inr v10, M9))) (fun v7 M6 => some (.inr v7, M6))) (fun v3 M2 => some (.inr v3, M2)) := (am_X_eq cal k_Grammar_readExpression 0 _ _ M).trans rfl
theorem e_Grammar_readExpression_79 (cal : aY)  (M : aM) : am_X cal k_Grammar_readExpression 79 [] [] M = am_X cal k_Grammar_readExpression 80 [] [.int 0] M := (am_X_eq cal k_Grammar_readExpression 79 _ _ M).trans rfl
theorem e_Grammar_readExpression_80 (cal : aY) (s0 : Int32) (M : aM) : am_X cal k_Grammar_readExpression 80 [] [.int s0] M = bif am_ft 3 (.int s0) then some (.inl (some (.int s0)), M) else none := (am_X_eq cal k_Grammar_readExpression 80 _ _ M).trans rfl
theorem e_Grammar_readExpression_81 (cal : aY) (x0 : Nat) (x1 : Int32) (x2 : Int32) (M : aM) : am_X cal k_Grammar_readExpression 81 [(0, .ref x0), (1, .int x1), (2, .int x2)] [] M = if x2 = 43 then am_X cal k_Grammar_readExpression 99 [(0, .ref x0), (1, .int x1), (2, .int x2)] [] M else if x2 = 45 then am_X cal k_Grammar_readExpression 99 [(0, .ref x0), (1, .int x1), (2, .int x2)] [] M else if ¬ x2 = 47 then am_X cal k_Grammar_readExpression 141 [(0, .ref x0)] [] M else am_X cal k_Grammar_readExpression 99 [(0, .ref x0), (1, .int x1), (2, .int x2)] [] M := (am_X_eq cal k_Grammar_readExpression 81 _ _ M).trans rfl
theorem e_Grammar_readExpression_99 (cal : aY) (x0 : Nat) (x1 : Int32) (x2 : Int32) (M : aM) : am_X cal k_Grammar_readExpression 99 [(0, .ref x0), (1, .int x1), (2, .int x2)] [] M = if 4 ≤ x1 then am_X cal k_Grammar_readExpression 139 [] [] M else (am_rA M x0 2 0).bind fun v1 => (am_ln M v1 3).bind fun _ => am_cI (cal 26 [.ref v1, .int x2] M) (fun v4 M2 => if v4 = 0 then am_X cal k_Grammar_readExpression 139 [] [] M2 else (am_ln M2 x0 2).bind fun _ => am_cI (cal 19 [.ref x0, .int (x1 + 1)] M2) (fun v7 M5 => if v7 = 0 then am_X cal k_Grammar_readExpression 139 [] [] M5 else (am_ln M5 x0 2).bind fun _ => am_cI (cal 19 [.ref x0, .int (x1 + 1)] M5) (fun v10 M8 => if v10 = 0 then am_X cal k_Grammar_readExpression 139 [] [] M8 else am_X cal k_Grammar_readExpression 140 [] [.int 1] M8) (fun v9 M8 => some (.inr v9, M8))) (fun v6 M5 => some (.inr v6, M5))) (fun v3 M2 => some (.inr v3, M2)) := (am_X_eq cal k_Grammar_readExpression 99 _ _ M).trans rfl
theorem e_Grammar_readExpression_139 (cal : aY)  (M : aM) : am_X cal k_Grammar_readExpression 139 [] [] M = am_X cal k_Grammar_readExpression 140 [] [.int 0] M := (am_X_eq cal k_Grammar_readExpression 139 _ _ M).trans rfl
theorem e_Grammar_readExpression_140 (cal : aY) (s0 : Int32) (M : aM) : am_X cal k_Grammar_readExpression 140 [] [.int s0] M = bif am_ft 3 (.int s0) then some (.inl (some (.int s0)), M) else none := (am_X_eq cal k_Grammar_readExpression 140 _ _ M).trans rfl
theorem e_Grammar_readExpression_141 (cal : aY) (x0 : Nat) (M : aM) : am_X cal k_Grammar_readExpression 141 [(0, .ref x0)] [] M = (am_rA M x0 2 0).bind fun v1 => (am_ln M v1 3).bind fun _ => am_cI (cal 26 [.ref v1, .int 35] M) (fun v4 M2 => if ¬ v4 = 0 then am_X cal k_Grammar_readExpression 160 [] [] M2 else (am_ln M2 x0 2).bind fun _ => am_cI (cal 16 [.ref x0] M2) (fun v7 M5 => if v7 = 0 then am_X cal k_Grammar_readExpression 164 [] [] M5 else am_X cal k_Grammar_readExpression 160 [] [] M5) (fun v6 M5 => some (.inr v6, M5))) (fun v3 M2 => some (.inr v3, M2)) := (am_X_eq cal k_Grammar_readExpression 141 _ _ M).trans rfl
theorem e_Grammar_readExpression_160 (cal : aY)  (M : aM) : am_X cal k_Grammar_readExpression 160 [] [] M = am_X cal k_Grammar_readExpression 165 [] [.int 1] M := (am_X_eq cal k_Grammar_readExpression 160 _ _ M).trans rfl
theorem e_Grammar_readExpression_164 (cal : aY)  (M : aM) : am_X cal k_Grammar_readExpression 164 [] [] M = am_X cal k_Grammar_readExpression 165 [] [.int 0] M := (am_X_eq cal k_Grammar_readExpression 164 _ _ M).trans rfl
theorem e_Grammar_readExpression_165 (cal : aY) (s0 : Int32) (M : aM) : am_X cal k_Grammar_readExpression 165 [] [.int s0] M = bif am_ft 3 (.int s0) then some (.inl (some (.int s0)), M) else none := (am_X_eq cal k_Grammar_readExpression 165 _ _ M).trans rfl
theorem y_Grammar_readActions (d : Nat) (a0 : Nat) (M : aM) : am_Y (d + 1) 20 [.ref a0] M = am_X (am_Y d) k_Grammar_readActions 0 [(0, .ref a0)] [] M := rfl
theorem e_Grammar_readActions_0 (cal : aY) (x0 : Nat) (M : aM) : am_X cal k_Grammar_readActions 0 [(0, .ref x0)] [] M = am_X cal k_Grammar_readActions 2 [(0, .ref x0), (1, .int 0)] [] M := (am_X_eq cal k_Grammar_readActions 0 _ _ M).trans rfl
theorem e_Grammar_readActions_2 (cal : aY) (x0 : Nat) (x1 : Int32) (M : aM) : am_X cal k_Grammar_readActions 2 [(0, .ref x0), (1, .int x1)] [] M = if 60 ≤ x1 then am_X cal k_Grammar_readActions 37 [] [] M else (am_rA M x0 2 0).bind fun v1 => (am_ln M v1 3).bind fun _ => am_cI (cal 26 [.ref v1, .int 59] M) (fun v4 M2 => if v4 = 0 then am_X cal k_Grammar_readActions 22 [(0, .ref x0), (1, .int x1)] [] M2 else some (.inl (some (.int 1)), M2)) (fun v3 M2 => some (.inr v3, M2)) := (am_X_eq cal k_Grammar_readActions 2 _ _ M).trans rfl
theorem e_Grammar_readActions_22 (cal : aY) (x0 : Nat) (x1 : Int32) (M : aM) : am_X cal k_Grammar_readActions 22 [(0, .ref x0), (1, .int x1)] [] M = (am_ln M x0 2).bind fun _ => am_cI (cal 21 [.ref x0] M) (fun v3 M1 => if ¬ v3 = 0 then am_X cal k_Grammar_readActions 31 [(0, .ref x0), (1, .int x1)] [] M1 else some (.inl (some (.int 0)), M1)) (fun v2 M1 => some (.inr v2, M1)) := (am_X_eq cal k_Grammar_readActions 22 _ _ M).trans rfl
theorem e_Grammar_readActions_31 (cal : aY) (x0 : Nat) (x1 : Int32) (M : aM) : am_X cal k_Grammar_readActions 31 [(0, .ref x0), (1, .int x1)] [] M = am_X cal k_Grammar_readActions 2 [(0, .ref x0), (1, .int (x1 + 1))] [] M := (am_X_eq cal k_Grammar_readActions 31 _ _ M).trans rfl
theorem e_Grammar_readActions_37 (cal : aY)  (M : aM) : am_X cal k_Grammar_readActions 37 [] [] M = some (.inl (some (.int 0)), M) := (am_X_eq cal k_Grammar_readActions 37 _ _ M).trans rfl
theorem y_Grammar_readAction (d : Nat) (a0 : Nat) (M : aM) : am_Y (d + 1) 21 [.ref a0] M = am_X (am_Y d) k_Grammar_readAction 0 [(0, .ref a0)] [] M := rfl
theorem e_Grammar_readAction_0 (cal : aY) (x0 : Nat) (M : aM) : am_X cal k_Grammar_readAction 0 [(0, .ref x0)] [] M = (am_rA M x0 2 0).bind fun v1 => (am_ln M v1 3).bind fun _ => am_cI (cal 26 [.ref v1, .int 33] M) (fun v4 M2 => if v4 = 0 then am_X cal k_Grammar_readAction 34 [(0, .ref x0)] [] M2 else (am_ln M2 x0 2).bind fun _ => am_cI (cal 19 [.ref x0, .int 0] M2) (fun v7 M5 => if v7 = 0 then am_X cal k_Grammar_readAction 32 [] [] M5 else (am_ln M5 x0 2).bind fun _ => am_cI (cal 19 [.ref x0, .int 0] M5) (fun v10 M8 => if v10 = 0 then am_X cal k_Grammar_readAction 32 [] [] M8 else am_X cal k_Grammar_readAction 33 [] [.int 1] M8) (fun v9 M8 => some (.inr v9, M8))) (fun v6 M5 => some (.inr v6, M5))) (fun v3 M2 => some (.inr v3, M2)) := (am_X_eq cal k_Grammar_readAction 0 _ _ M).trans rfl
theorem e_Grammar_readAction_32 (cal : aY)  (M : aM) : am_X cal k_Grammar_readAction 32 [] [] M = am_X cal k_Grammar_readAction 33 [] [.int 0] M := (am_X_eq cal k_Grammar_readAction 32 _ _ M).trans rfl
theorem e_Grammar_readAction_33 (cal : aY) (s0 : Int32) (M : aM) : am_X cal k_Grammar_readAction 33 [] [.int s0] M = bif am_ft 3 (.int s0) then some (.inl (some (.int s0)), M) else none := (am_X_eq cal k_Grammar_readAction 33 _ _ M).trans rfl
theorem e_Grammar_readAction_34 (cal : aY) (x0 : Nat) (M : aM) : am_X cal k_Grammar_readAction 34 [(0, .ref x0)] [] M = (am_rA M x0 2 0).bind fun v1 => (am_ln M v1 3).bind fun _ => am_cI (cal 26 [.ref v1, .int 126] M) (fun v4 M2 => if ¬ v4 = 0 then am_X cal k_Grammar_readAction 70 [(0, .ref x0)] [] M2 else (am_rA M2 x0 2 0).bind fun v5 => (am_ln M2 v5 3).bind fun _ => am_cI (cal 26 [.ref v5, .int 38] M2) (fun v8 M6 => if ¬ v8 = 0 then am_X cal k_Grammar_readAction 70 [(0, .ref x0)] [] M6 else (am_rA M6 x0 2 0).bind fun v9 => (am_ln M6 v9 3).bind fun _ => am_cI (cal 26 [.ref v9, .int 36] M6) (fun v12 M10 => if v12 = 0 then am_X cal k_Grammar_readAction 76 [(0, .ref x0)] [] M10 else am_X cal k_Grammar_readAction 70 [(0, .ref x0)] [] M10) (fun v11 M10 => some (.inr v11, M10))) (fun v7 M6 => some (.inr v7, M6))) (fun v3 M2 => some (.inr v3, M2)) := (am_X_eq cal k_Grammar_readAction 34 _ _ M).trans rfl
theorem e_Grammar_readAction_70 (cal : aY) (x0 : Nat) (M : aM) : am_X cal k_Grammar_readAction 70 [(0, .ref x0)] [] M = (am_ln M x0 2).bind fun _ => am_cI (cal 19 [.ref x0, .int 0] M) (fun v3 M1 => bif am_ft 3 (.int v3) then some (.inl (some (.int v3)), M1) else none) (fun v2 M1 => some (.inr v2, M1)) := (am_X_eq cal k_Grammar_readAction 70 _ _ M).trans rfl
theorem e_Grammar_readAction_76 (cal : aY) (x0 : Nat) (M : aM) : am_X cal k_Grammar_readAction 76 [(0, .ref x0)] [] M = (am_rA M x0 2 0).bind fun v1 => (am_ln M v1 3).bind fun _ => am_cI (cal 26 [.ref v1, .int 64] M) (fun v4 M2 => if v4 = 0 then am_X cal k_Grammar_readAction 115 [(0, .ref x0)] [] M2 else (am_rA M2 x0 2 0).bind fun v5 => (am_ln M2 v5 3).bind fun _ => am_cI (cal 27 [.ref v5, .int 48, .int 50] M2) (fun v8 M6 => if v8 = 0 then am_X cal k_Grammar_readAction 113 [] [] M6 else (am_ln M6 x0 2).bind fun _ => am_cI (cal 17 [.ref x0] M6) (fun v11 M9 => if v11 = 0 then am_X cal k_Grammar_readAction 113 [] [] M9 else am_X cal k_Grammar_readAction 114 [] [.int 1] M9) (fun v10 M9 => some (.inr v10, M9))) (fun v7 M6 => some (.inr v7, M6))) (fun v3 M2 => some (.inr v3, M2)) := (am_X_eq cal k_Grammar_readAction 76 _ _ M).trans rfl
theorem e_Grammar_readAction_113 (cal : aY)  (M : aM) : am_X cal k_Grammar_readAction 113 [] [] M = am_X cal k_Grammar_readAction 114 [] [.int 0] M := (am_X_eq cal k_Grammar_readAction 113 _ _ M).trans rfl
theorem e_Grammar_readAction_114 (cal : aY) (s0 : Int32) (M : aM) : am_X cal k_Grammar_readAction 114 [] [.int s0] M = bif am_ft 3 (.int s0) then some (.inl (some (.int s0)), M) else none := (am_X_eq cal k_Grammar_readAction 114 _ _ M).trans rfl
theorem e_Grammar_readAction_115 (cal : aY) (x0 : Nat) (M : aM) : am_X cal k_Grammar_readAction 115 [(0, .ref x0)] [] M = (am_rA M x0 2 0).bind fun v1 => (am_ln M v1 3).bind fun _ => am_cI (cal 26 [.ref v1, .int 42] M) (fun v4 M2 => if v4 = 0 then am_X cal k_Grammar_readAction 145 [] [] M2 else (am_rA M2 x0 2 0).bind fun v5 => (am_ln M2 v5 3).bind fun _ => am_cI (cal 27 [.ref v5, .int 48, .int 49] M2) (fun v8 M6 => if v8 = 0 then am_X cal k_Grammar_readAction 145 [] [] M6 else am_X cal k_Grammar_readAction 146 [] [.int 1] M6) (fun v7 M6 => some (.inr v7, M6))) (fun v3 M2 => some (.inr v3, M2)) := (am_X_eq cal k_Grammar_readAction 115 _ _ M).trans rfl
theorem e_Grammar_readAction_145 (cal : aY)  (M : aM) : am_X cal k_Grammar_readAction 145 [] [] M = am_X cal k_Grammar_readAction 146 [] [.int 0] M := (am_X_eq cal k_Grammar_readAction 145 _ _ M).trans rfl
theorem e_Grammar_readAction_146 (cal : aY) (s0 : Int32) (M : aM) : am_X cal k_Grammar_readAction 146 [] [.int s0] M = bif am_ft 3 (.int s0) then some (.inl (some (.int s0)), M) else none := (am_X_eq cal k_Grammar_readAction 146 _ _ M).trans rfl
theorem y_Reader_init (d : Nat) (a0 : Nat) (M : aM) : am_Y (d + 1) 22 [.ref a0] M = am_X (am_Y d) k_Reader_init 0 [(0, .ref a0)] [] M := rfl
theorem e_Reader_init_0 (cal : aY) (x0 : Nat) (M : aM) : am_X cal k_Reader_init 0 [(0, .ref x0)] [] M = am_cV (cal 56 [.ref M.1.length] (am_nw M 6 (am_df 6))) (fun M1 => (am_wr M1 x0 3 0 (.ref M.1.length)).bind fun M3 => some (.inl none, M3)) (fun v2 M1 => none) := (am_X_eq cal k_Reader_init 0 _ _ M).trans rfl
theorem y_Reader_open (d : Nat) (a0 : Nat) (a1 : Nat) (M : aM) : am_Y (d + 1) 23 [.ref a0, .ref a1] M = am_X (am_Y d) k_Reader_open 0 [(0, .ref a0), (1, .ref a1)] [] M := rfl
theorem e_Reader_open_0 (cal : aY) (x0 : Nat) (x1 : Nat) (M : aM) : am_X cal k_Reader_open 0 [(0, .ref x0), (1, .ref x1)] [] M = (am_wr M x0 3 0 (.ref x1)).bind fun M1 => (am_wr M1 x0 3 1 (.int 0)).bind fun M2 => some (.inl none, M2) := (am_X_eq cal k_Reader_open 0 _ _ M).trans rfl
theorem y_Reader_isAtEnd (d : Nat) (a0 : Nat) (M : aM) : am_Y (d + 1) 24 [.ref a0] M = am_X (am_Y d) k_Reader_isAtEnd 0 [(0, .ref a0)] [] M := rfl
theorem e_Reader_isAtEnd_0 (cal : aY) (x0 : Nat) (M : aM) : am_X cal k_Reader_isAtEnd 0 [(0, .ref x0)] [] M = (am_rI M x0 3 1).bind fun v1 => (am_rA M x0 3 0).bind fun v2 => (am_rI M v2 6 1).bind fun v3 => if v1 < v3 then am_X cal k_Reader_isAtEnd 18 [] [] M else am_X cal k_Reader_isAtEnd 19 [] [.int 1] M := (am_X_eq cal k_Reader_isAtEnd 0 _ _ M).trans rfl
theorem e_Reader_isAtEnd_18 (cal : aY)  (M : aM) : am_X cal k_Reader_isAtEnd 18 [] [] M = am_X cal k_Reader_isAtEnd 19 [] [.int 0] M := (am_X_eq cal k_Reader_isAtEnd 18 _ _ M).trans rfl
theorem e_Reader_isAtEnd_19 (cal : aY) (s0 : Int32) (M : aM) : am_X cal k_Reader_isAtEnd 19 [] [.int s0] M = bif am_ft 3 (.int s0) then some (.inl (some (.int s0)), M) else none := (am_X_eq cal k_Reader_isAtEnd 19 _ _ M).trans rfl
theorem y_Reader_sign (d : Nat) (a0 : Nat) (M : aM) : am_Y (d + 1) 25 [.ref a0] M = am_X (am_Y d) k_Reader_sign 0 [(0, .ref a0)] [] M := rfl
theorem e_Reader_sign_0 (cal : aY) (x0 : Nat) (M : aM) : am_X cal k_Reader_sign 0 [(0, .ref x0)] [] M = (am_rI M x0 3 1).bind fun v1 => (am_rA M x0 3 0).bind fun v2 => (am_rI M v2 6 1).bind fun v3 => if v3 ≤ v1 then am_X cal k_Reader_sign 29 [] [] M else (am_rA M x0 3 0).bind fun v4 => (am_rA M v4 6 0).bind fun v5 => (am_rI M x0 3 1).bind fun v6 => (am_ix v6).bind fun v7 => (am_rI M v5 13 v7).bind fun v8 => am_X cal k_Reader_sign 30 [] [.int v8] M := (am_X_eq cal k_Reader_sign 0 _ _ M).trans rfl
theorem e_Reader_sign_29 (cal : aY)  (M : aM) : am_X cal k_Reader_sign 29 [] [] M = am_X cal k_Reader_sign 30 [] [.int 0] M := (am_X_eq cal k_Reader_sign 29 _ _ M).trans rfl
theorem e_Reader_sign_30 (cal : aY) (s0 : Int32) (M : aM) : am_X cal k_Reader_sign 30 [] [.int s0] M = bif am_ft 4 (.int s0) then some (.inl (some (.int s0)), M) else none := (am_X_eq cal k_Reader_sign 30 _ _ M).trans rfl
theorem y_Reader_accept (d : Nat) (a0 : Nat) (a1 : Int32) (M : aM) : am_Y (d + 1) 26 [.ref a0, .int a1] M = am_X (am_Y d) k_Reader_accept 0 [(0, .ref a0), (1, .int a1)] [] M := rfl
theorem e_Reader_accept_0 (cal : aY) (x0 : Nat) (x1 : Int32) (M : aM) : am_X cal k_Reader_accept 0 [(0, .ref x0), (1, .int x1)] [] M = (am_rI M x0 3 1).bind fun v1 => (am_rA M x0 3 0).bind fun v2 => (am_rI M v2 6 1).bind fun v3 => if v3 ≤ v1 then am_X cal k_Reader_accept 34 [(0, .ref x0)] [] M else (am_rA M x0 3 0).bind fun v4 => (am_rA M v4 6 0).bind fun v5 => (am_rI M x0 3 1).bind fun v6 => (am_ix v6).bind fun v7 => (am_rI M v5 13 v7).bind fun v8 => if ¬ v8 = x1 then am_X cal k_Reader_accept 34 [(0, .ref x0)] [] M else am_X cal k_Reader_accept 35 [(0, .ref x0)] [.int 1] M := (am_X_eq cal k_Reader_accept 0 _ _ M).trans rfl
theorem e_Reader_accept_34 (cal : aY) (x0 : Nat) (M : aM) : am_X cal k_Reader_accept 34 [(0, .ref x0)] [] M = am_X cal k_Reader_accept 35 [(0, .ref x0)] [.int 0] M := (am_X_eq cal k_Reader_accept 34 _ _ M).trans rfl
theorem e_Reader_accept_35 (cal : aY) (x0 : Nat) (s0 : Int32) (M : aM) : am_X cal k_Reader_accept 35 [(0, .ref x0)] [.int s0] M = (am_rI M x0 3 1).bind fun v1 => if s0 = 0 then am_X cal k_Reader_accept 49 [(2, .int s0)] [.int v1, .ref x0] M else am_X cal k_Reader_accept 50 [(2, .int s0)] [.int 1, .int v1, .ref x0] M := (am_X_eq cal k_Reader_accept 35 _ _ M).trans rfl
theorem e_Reader_accept_49 (cal : aY) (x2 : Int32) (s0 : Int32) (s1 : Nat) (M : aM) : am_X cal k_Reader_accept 49 [(2, .int x2)] [.int s0, .ref s1] M = am_X cal k_Reader_accept 50 [(2, .int x2)] [.int 0, .int s0, .ref s1] M := (am_X_eq cal k_Reader_accept 49 _ _ M).trans rfl
theorem e_Reader_accept_50 (cal : aY) (x2 : Int32) (s0 : Int32) (s1 : Int32) (s2 : Nat) (M : aM) : am_X cal k_Reader_accept 50 [(2, .int x2)] [.int s0, .int s1, .ref s2] M = (am_wr M s2 3 1 (.int (s1 + s0))).bind fun M1 => bif am_ft 3 (.int x2) then some (.inl (some (.int x2)), M1) else none := (am_X_eq cal k_Reader_accept 50 _ _ M).trans rfl
theorem y_Reader_acceptFrom (d : Nat) (a0 : Nat) (a1 : Int32) (a2 : Int32) (M : aM) : am_Y (d + 1) 27 [.ref a0, .int a1, .int a2] M = am_X (am_Y d) k_Reader_acceptFrom 0 [(0, .ref a0), (1, .int a1), (2, .int a2)] [] M := rfl
theorem e_Reader_acceptFrom_0 (cal : aY) (x0 : Nat) (x1 : Int32) (x2 : Int32) (M : aM) : am_X cal k_Reader_acceptFrom 0 [(0, .ref x0), (1, .int x1), (2, .int x2)] [] M = (am_rI M x0 3 1).bind fun v1 => (am_rA M x0 3 0).bind fun v2 => (am_rI M v2 6 1).bind fun v3 => if v3 ≤ v1 then am_X cal k_Reader_acceptFrom 50 [(0, .ref x0)] [] M else (am_rA M x0 3 0).bind fun v4 => (am_rA M v4 6 0).bind fun v5 => (am_rI M x0 3 1).bind fun v6 => (am_ix v6).bind fun v7 => (am_rI M v5 13 v7).bind fun v8 => if v8 < x1 then am_X cal k_Reader_acceptFrom 50 [(0, .ref x0)] [] M else (am_rA M x0 3 0).bind fun v9 => (am_rA M v9 6 0).bind fun v10 => (am_rI M x0 3 1).bind fun v11 => (am_ix v11).bind fun v12 => (am_rI M v10 13 v12).bind fun v13 => if x2 < v13 then am_X cal k_Reader_acceptFrom 50 [(0, .ref x0)] [] M else am_X cal k_Reader_acceptFrom 51 [(0, .ref x0)] [.int 1] M := (am_X_eq cal k_Reader_acceptFrom 0 _ _ M).trans rfl
theorem e_Reader_acceptFrom_50 (cal : aY) (x0 : Nat) (M : aM) : am_X cal k_Reader_acceptFrom 50 [(0, .ref x0)] [] M = am_X cal k_Reader_acceptFrom 51 [(0, .ref x0)] [.int 0] M := (am_X_eq cal k_Reader_acceptFrom 50 _ _ M).trans rfl
theorem e_Reader_acceptFrom_51 (cal : aY) (x0 : Nat) (s0 : Int32) (M : aM) : am_X cal k_Reader_acceptFrom 51 [(0, .ref x0)] [.int s0] M = (am_rI M x0 3 1).bind fun v1 => if s0 = 0 then am_X cal k_Reader_acceptFrom 65 [(3, .int s0)] [.int v1, .ref x0] M else am_X cal k_Reader_acceptFrom 66 [(3, .int s0)] [.int 1, .int v1, .ref x0] M := (am_X_eq cal k_Reader_acceptFrom 51 _ _ M).trans rfl
theorem e_Reader_acceptFrom_65 (cal : aY) (x3 : Int32) (s0 : Int32) (s1 : Nat) (M : aM) : am_X cal k_Reader_acceptFrom 65 [(3, .int x3)] [.int s0, .ref s1] M = am_X cal k_Reader_acceptFrom 66 [(3, .int x3)] [.int 0, .int s0, .ref s1] M := (am_X_eq cal k_Reader_acceptFrom 65 _ _ M).trans rfl
theorem e_Reader_acceptFrom_66 (cal : aY) (x3 : Int32) (s0 : Int32) (s1 : Int32) (s2 : Nat) (M : aM) : am_X cal k_Reader_acceptFrom 66 [(3, .int x3)] [.int s0, .int s1, .ref s2] M = (am_wr M s2 3 1 (.int (s1 + s0))).bind fun M1 => bif am_ft 3 (.int x3) then some (.inl (some (.int x3)), M1) else none := (am_X_eq cal k_Reader_acceptFrom 66 _ _ M).trans rfl
theorem y_Reader_next (d : Nat) (a0 : Nat) (M : aM) : am_Y (d + 1) 28 [.ref a0] M = am_X (am_Y d) k_Reader_next 0 [(0, .ref a0)] [] M := rfl
theorem e_Reader_next_0 (cal : aY) (x0 : Nat) (M : aM) : am_X cal k_Reader_next 0 [(0, .ref x0)] [] M = (am_rI M x0 3 1).bind fun v1 => (am_rA M x0 3 0).bind fun v2 => (am_rI M v2 6 1).bind fun v3 => if v1 < v3 then am_X cal k_Reader_next 16 [(0, .ref x0)] [] M else bif am_ft 4 (.int 0) then some (.inl (some (.int 0)), M) else none := (am_X_eq cal k_Reader_next 0 _ _ M).trans rfl
theorem e_Reader_next_16 (cal : aY) (x0 : Nat) (M : aM) : am_X cal k_Reader_next 16 [(0, .ref x0)] [] M = (am_rI M x0 3 1).bind fun v1 => (am_wr M x0 3 1 (.int (v1 + 1))).bind fun M2 => (am_rA M2 x0 3 0).bind fun v3 => (am_rA M2 v3 6 0).bind fun v4 => (am_rI M2 x0 3 1).bind fun v5 => (am_ix (v5 - 1)).bind fun v6 => (am_rI M2 v4 13 v6).bind fun v7 => bif am_ft 4 (.int v7) then some (.inl (some (.int v7)), M2) else none := (am_X_eq cal k_Reader_next 16 _ _ M).trans rfl
theorem y_Reader_skipPast (d : Nat) (a0 : Nat) (a1 : Int32) (M : aM) : am_Y (d + 1) 29 [.ref a0, .int a1] M = am_X (am_Y d) k_Reader_skipPast 0 [(0, .ref a0), (1, .int a1)] [] M := rfl
theorem e_Reader_skipPast_0 (cal : aY) (x0 : Nat) (x1 : Int32) (M : aM) : am_X cal k_Reader_skipPast 0 [(0, .ref x0), (1, .int x1)] [] M = am_X cal k_Reader_skipPast 2 [(0, .ref x0), (1, .int x1), (2, .int 0)] [] M := (am_X_eq cal k_Reader_skipPast 0 _ _ M).trans rfl
theorem e_Reader_skipPast_2 (cal : aY) (x0 : Nat) (x1 : Int32) (x2 : Int32) (M : aM) : am_X cal k_Reader_skipPast 2 [(0, .ref x0), (1, .int x1), (2, .int x2)] [] M = if 60 ≤ x2 then am_X cal k_Reader_skipPast 23 [] [] M else (am_ln M x0 3).bind fun _ => am_cI (cal 28 [.ref x0] M) (fun v3 M1 => if ¬ v3 = x1 then am_X cal k_Reader_skipPast 17 [(0, .ref x0), (1, .int x1), (2, .int x2)] [] M1 else some (.inl none, M1)) (fun v2 M1 => some (.inr v2, M1)) := (am_X_eq cal k_Reader_skipPast 2 _ _ M).trans rfl
theorem e_Reader_skipPast_17 (cal : aY) (x0 : Nat) (x1 : Int32) (x2 : Int32) (M : aM) : am_X cal k_Reader_skipPast 17 [(0, .ref x0), (1, .int x1), (2, .int x2)] [] M = am_X cal k_Reader_skipPast 2 [(0, .ref x0), (1, .int x1), (2, .int (x2 + 1))] [] M := (am_X_eq cal k_Reader_skipPast 17 _ _ M).trans rfl
theorem e_Reader_skipPast_23 (cal : aY)  (M : aM) : am_X cal k_Reader_skipPast 23 [] [] M = some (.inl none, M) := (am_X_eq cal k_Reader_skipPast 23 _ _ M).trans rfl
theorem y_Row_init (d : Nat) (a0 : Nat) (a1 : Int32) (M : aM) : am_Y (d + 1) 30 [.ref a0, .int a1] M = am_X (am_Y d) k_Row_init 0 [(0, .ref a0), (1, .int a1)] [] M := rfl
theorem e_Row_init_0 (cal : aY) (x0 : Nat) (x1 : Int32) (M : aM) : am_X cal k_Row_init 0 [(0, .ref x0), (1, .int x1)] [] M = (am_ix x1).bind fun v1 => bif Nat.ble v1 1000 then (am_wr (am_nw M 11 (List.replicate v1 (am_dv 11))) x0 4 0 (.ref M.1.length)).bind fun M2 => some (.inl none, M2) else none := (am_X_eq cal k_Row_init 0 _ _ M).trans rfl
theorem y_Row_put (d : Nat) (a0 : Nat) (a1 : Int64) (M : aM) : am_Y (d + 1) 31 [.ref a0, .long a1] M = am_X (am_Y d) k_Row_put 0 [(0, .ref a0), (1, .long a1)] [] M := rfl
theorem e_Row_put_0 (cal : aY) (x0 : Nat) (x1 : Int64) (M : aM) : am_X cal k_Row_put 0 [(0, .ref x0), (1, .long x1)] [] M = (am_rI M x0 4 1).bind fun v1 => (am_rA M x0 4 0).bind fun v2 => (am_ln M v2 11).bind fun v3 => if nI v3 ≤ v1 then am_X cal k_Row_put 32 [] [] M else (am_rA M x0 4 0).bind fun v4 => (am_rI M x0 4 1).bind fun v5 => (am_ix v5).bind fun v6 => (am_wr M v4 11 v6 (.long x1)).bind fun M7 => (am_rI M7 x0 4 1).bind fun v8 => (am_wr M7 x0 4 1 (.int (v8 + 1))).bind fun M9 => am_X cal k_Row_put 32 [] [] M9 := (am_X_eq cal k_Row_put 0 _ _ M).trans rfl
theorem e_Row_put_32 (cal : aY)  (M : aM) : am_X cal k_Row_put 32 [] [] M = some (.inl none, M) := (am_X_eq cal k_Row_put 32 _ _ M).trans rfl
theorem y_Row_at (d : Nat) (a0 : Nat) (a1 : Int32) (M : aM) : am_Y (d + 1) 32 [.ref a0, .int a1] M = am_X (am_Y d) k_Row_at 0 [(0, .ref a0), (1, .int a1)] [] M := rfl
theorem e_Row_at_0 (cal : aY) (x0 : Nat) (x1 : Int32) (M : aM) : am_X cal k_Row_at 0 [(0, .ref x0), (1, .int x1)] [] M = if x1 < 0 then am_X cal k_Row_at 12 [] [] M else (am_rI M x0 4 1).bind fun v1 => if x1 < v1 then am_X cal k_Row_at 16 [(0, .ref x0), (1, .int x1)] [] M else am_X cal k_Row_at 12 [] [] M := (am_X_eq cal k_Row_at 0 _ _ M).trans rfl
theorem e_Row_at_12 (cal : aY)  (M : aM) : am_X cal k_Row_at 12 [] [] M = am_X cal k_Row_at 22 [] [.long 0] M := (am_X_eq cal k_Row_at 12 _ _ M).trans rfl
theorem e_Row_at_16 (cal : aY) (x0 : Nat) (x1 : Int32) (M : aM) : am_X cal k_Row_at 16 [(0, .ref x0), (1, .int x1)] [] M = (am_rA M x0 4 0).bind fun v1 => (am_ix x1).bind fun v2 => (am_rJ M v1 11 v2).bind fun v3 => am_X cal k_Row_at 22 [] [.long v3] M := (am_X_eq cal k_Row_at 16 _ _ M).trans rfl
theorem e_Row_at_22 (cal : aY) (s0 : Int64) (M : aM) : am_X cal k_Row_at 22 [] [.long s0] M = some (.inl (some (.long s0)), M) := (am_X_eq cal k_Row_at 22 _ _ M).trans rfl
theorem y_Row_take (d : Nat) (a0 : Nat) (a1 : Int32) (M : aM) : am_Y (d + 1) 33 [.ref a0, .int a1] M = am_X (am_Y d) k_Row_take 0 [(0, .ref a0), (1, .int a1)] [] M := rfl
theorem e_Row_take_0 (cal : aY) (x0 : Nat) (x1 : Int32) (M : aM) : am_X cal k_Row_take 0 [(0, .ref x0), (1, .int x1)] [] M = if x1 < 0 then am_X cal k_Row_take 12 [] [] M else (am_rI M x0 4 1).bind fun v1 => if x1 < v1 then am_X cal k_Row_take 13 [(0, .ref x0), (1, .int x1)] [] M else am_X cal k_Row_take 12 [] [] M := (am_X_eq cal k_Row_take 0 _ _ M).trans rfl
theorem e_Row_take_12 (cal : aY)  (M : aM) : am_X cal k_Row_take 12 [] [] M = some (.inl none, M) := (am_X_eq cal k_Row_take 12 _ _ M).trans rfl
theorem e_Row_take_13 (cal : aY) (x0 : Nat) (x1 : Int32) (M : aM) : am_X cal k_Row_take 13 [(0, .ref x0), (1, .int x1)] [] M = am_X cal k_Row_take 17 [(0, .ref x0), (2, .int (x1 + 1))] [] M := (am_X_eq cal k_Row_take 13 _ _ M).trans rfl
theorem e_Row_take_17 (cal : aY) (x0 : Nat) (x2 : Int32) (M : aM) : am_X cal k_Row_take 17 [(0, .ref x0), (2, .int x2)] [] M = (am_rI M x0 4 1).bind fun v1 => if v1 ≤ x2 then am_X cal k_Row_take 45 [(0, .ref x0)] [] M else (am_rA M x0 4 0).bind fun v2 => (am_rA M x0 4 0).bind fun v3 => (am_ix x2).bind fun v4 => (am_rJ M v3 11 v4).bind fun v5 => (am_ix (x2 - 1)).bind fun v6 => (am_wr M v2 11 v6 (.long v5)).bind fun M7 => am_X cal k_Row_take 17 [(0, .ref x0), (2, .int (x2 + 1))] [] M7 := (am_X_eq cal k_Row_take 17 _ _ M).trans rfl
theorem e_Row_take_45 (cal : aY) (x0 : Nat) (M : aM) : am_X cal k_Row_take 45 [(0, .ref x0)] [] M = (am_rI M x0 4 1).bind fun v1 => (am_wr M x0 4 1 (.int (v1 - 1))).bind fun M2 => some (.inl none, M2) := (am_X_eq cal k_Row_take 45 _ _ M).trans rfl
theorem y_Stepper_init (d : Nat) (a0 : Nat) (a1 : Nat) (M : aM) : am_Y (d + 1) 34 [.ref a0, .ref a1] M = am_X (am_Y d) k_Stepper_init 0 [(0, .ref a0), (1, .ref a1)] [] M := rfl
theorem e_Stepper_init_0 (cal : aY) (x0 : Nat) (x1 : Nat) (M : aM) : am_X cal k_Stepper_init 0 [(0, .ref x0), (1, .ref x1)] [] M = (am_wr M x0 5 0 (.ref x1)).bind fun M1 => am_cV (cal 3 [.ref M1.1.length] (am_nw M1 1 (am_df 1))) (fun M2 => (am_wr M2 x0 5 1 (.ref M1.1.length)).bind fun M4 => some (.inl none, M4)) (fun v3 M2 => none) := (am_X_eq cal k_Stepper_init 0 _ _ M).trans rfl
theorem y_Stepper_find (d : Nat) (a0 : Nat) (a1 : Int32) (M : aM) : am_Y (d + 1) 35 [.ref a0, .int a1] M = am_X (am_Y d) k_Stepper_find 0 [(0, .ref a0), (1, .int a1)] [] M := rfl
theorem e_Stepper_find_0 (cal : aY) (x0 : Nat) (x1 : Int32) (M : aM) : am_X cal k_Stepper_find 0 [(0, .ref x0), (1, .int x1)] [] M = (am_wr M x0 5 2 (.int x1)).bind fun M1 => (am_rA M1 x0 5 0).bind fun v2 => (am_rA M1 v2 7 2).bind fun v3 => (am_ix x1).bind fun v4 => (am_rA M1 v3 15 v4).bind fun v5 => (am_rA M1 v5 0 1).bind fun v6 => am_X cal k_Stepper_find 20 [(0, .ref x0), (2, .ref v6), (3, .int 0)] [] M1 := (am_X_eq cal k_Stepper_find 0 _ _ M).trans rfl
theorem e_Stepper_find_20 (cal : aY) (x0 : Nat) (x2 : Nat) (x3 : Int32) (M : aM) : am_X cal k_Stepper_find 20 [(0, .ref x0), (2, .ref x2), (3, .int x3)] [] M = (am_rI M x2 4 1).bind fun v1 => if v1 ≤ x3 then am_X cal k_Stepper_find 58 [] [] M else (am_ln M x2 4).bind fun _ => am_cJ (cal 32 [.ref x2, .int x3] M) (fun v4 M2 => (am_ln M2 x0 5).bind fun _ => am_cI (cal 36 [.ref x0, .long v4] M2) (fun v7 M5 => if v7 < 0 then am_X cal k_Stepper_find 52 [(0, .ref x0), (2, .ref x2), (3, .int x3)] [] M5 else some (.inl (some (.int ((x3 * 100) + v7))), M5)) (fun v6 M5 => some (.inr v6, M5))) (fun v3 M2 => some (.inr v3, M2)) := (am_X_eq cal k_Stepper_find 20 _ _ M).trans rfl
theorem e_Stepper_find_52 (cal : aY) (x0 : Nat) (x2 : Nat) (x3 : Int32) (M : aM) : am_X cal k_Stepper_find 52 [(0, .ref x0), (2, .ref x2), (3, .int x3)] [] M = am_X cal k_Stepper_find 20 [(0, .ref x0), (2, .ref x2), (3, .int (x3 + 1))] [] M := (am_X_eq cal k_Stepper_find 52 _ _ M).trans rfl
theorem e_Stepper_find_58 (cal : aY)  (M : aM) : am_X cal k_Stepper_find 58 [] [] M = some (.inl (some (.int (-1))), M) := (am_X_eq cal k_Stepper_find 58 _ _ M).trans rfl
theorem y_Stepper_findClause (d : Nat) (a0 : Nat) (a1 : Int64) (M : aM) : am_Y (d + 1) 36 [.ref a0, .long a1] M = am_X (am_Y d) k_Stepper_findClause 0 [(0, .ref a0), (1, .long a1)] [] M := rfl
theorem e_Stepper_findClause_0 (cal : aY) (x0 : Nat) (x1 : Int64) (M : aM) : am_X cal k_Stepper_findClause 0 [(0, .ref x0), (1, .long x1)] [] M = (am_rA M x0 5 0).bind fun v1 => (am_rA M v1 7 2).bind fun v2 => (am_rI M x0 5 2).bind fun v3 => (am_ix v3).bind fun v4 => (am_rA M v2 15 v4).bind fun v5 => (am_rA M x0 5 1).bind fun v6 => (am_rA M v6 1 0).bind fun v7 => (am_rA M v5 0 0).bind fun v8 => (am_ln M v7 3).bind fun _ => am_cV (cal 23 [.ref v7, .ref v8] M) (fun M9 => am_X cal k_Stepper_findClause 30 [(0, .ref x0), (1, .long x1), (3, .ref v5), (4, .int 0)] [] M9) (fun v10 M9 => some (.inr v10, M9)) := (am_X_eq cal k_Stepper_findClause 0 _ _ M).trans rfl
theorem e_Stepper_findClause_30 (cal : aY) (x0 : Nat) (x1 : Int64) (x3 : Nat) (x4 : Int32) (M : aM) : am_X cal k_Stepper_findClause 30 [(0, .ref x0), (1, .long x1), (3, .ref x3), (4, .int x4)] [] M = if 60 ≤ x4 then am_X cal k_Stepper_findClause 108 [] [] M else (am_rA M x0 5 1).bind fun v1 => (am_rA M v1 1 0).bind fun v2 => (am_ln M v2 3).bind fun _ => am_cI (cal 24 [.ref v2] M) (fun v5 M3 => if ¬ v5 = 0 then am_X cal k_Stepper_findClause 108 [] [] M3 else (am_rA M3 x0 5 1).bind fun v6 => (am_rI M3 x0 5 2).bind fun v7 => (am_rJ M3 x3 0 3).bind fun v8 => (am_ln M3 v6 1).bind fun _ => am_cV (cal 4 [.ref v6, .int v7, .long v8] M3) (fun M9 => (am_rA M9 x0 5 1).bind fun v11 => (am_ln M9 v11 1).bind fun _ => am_cI (cal 5 [.ref v11, .long x1, .int 0] M9) (fun v14 M12 => if v14 = 0 then am_X cal k_Stepper_findClause 90 [(0, .ref x0), (1, .long x1), (3, .ref x3), (4, .int x4)] [] M12 else (am_rA M12 x0 5 1).bind fun v15 => (am_ln M12 v15 1).bind fun _ => am_cI (cal 8 [.ref v15] M12) (fun v18 M16 => if v18 = 0 then am_X cal k_Stepper_findClause 90 [(0, .ref x0), (1, .long x1), (3, .ref x3), (4, .int x4)] [] M16 else some (.inl (some (.int x4)), M16)) (fun v17 M16 => some (.inr v17, M16))) (fun v13 M12 => some (.inr v13, M12))) (fun v10 M9 => some (.inr v10, M9))) (fun v4 M3 => some (.inr v4, M3)) := (am_X_eq cal k_Stepper_findClause 30 _ _ M).trans rfl
theorem e_Stepper_findClause_90 (cal : aY) (x0 : Nat) (x1 : Int64) (x3 : Nat) (x4 : Int32) (M : aM) : am_X cal k_Stepper_findClause 90 [(0, .ref x0), (1, .long x1), (3, .ref x3), (4, .int x4)] [] M = (am_rA M x0 5 1).bind fun v1 => (am_rA M v1 1 0).bind fun v2 => (am_ln M v2 3).bind fun _ => am_cV (cal 29 [.ref v2, .int 59] M) (fun M3 => am_X cal k_Stepper_findClause 30 [(0, .ref x0), (1, .long x1), (3, .ref x3), (4, .int (x4 + 1))] [] M3) (fun v4 M3 => some (.inr v4, M3)) := (am_X_eq cal k_Stepper_findClause 90 _ _ M).trans rfl
theorem e_Stepper_findClause_108 (cal : aY)  (M : aM) : am_X cal k_Stepper_findClause 108 [] [] M = some (.inl (some (.int (-1))), M) := (am_X_eq cal k_Stepper_findClause 108 _ _ M).trans rfl
theorem y_Stepper_perform (d : Nat) (a0 : Nat) (a1 : Int32) (M : aM) : am_Y (d + 1) 37 [.ref a0, .int a1] M = am_X (am_Y d) k_Stepper_perform 0 [(0, .ref a0), (1, .int a1)] [] M := rfl
theorem e_Stepper_perform_0 (cal : aY) (x0 : Nat) (x1 : Int32) (M : aM) : am_X cal k_Stepper_perform 0 [(0, .ref x0), (1, .int x1)] [] M = (am_rA M x0 5 0).bind fun v1 => (am_rA M v1 7 2).bind fun v2 => (am_rI M x0 5 2).bind fun v3 => (am_ix v3).bind fun v4 => (am_rA M v2 15 v4).bind fun v5 => (am_rA M v5 0 1).bind fun v6 => (am_ln M v6 4).bind fun _ => am_cV (cal 33 [.ref v6, .int x1] M) (fun M7 => (am_rJ M7 v5 0 3).bind fun v9 => (am_wr M7 x0 5 3 (.long v9)).bind fun M10 => (am_wr M10 x0 5 4 (.int (-5000))).bind fun M11 => (am_rA M11 x0 5 1).bind fun v12 => (am_rA M11 v12 1 0).bind fun v13 => (am_ln M11 v13 3).bind fun _ => am_cI (cal 26 [.ref v13, .int 58] M11) (fun v16 M14 => am_X cal k_Stepper_perform 51 [(0, .ref x0), (2, .ref v5), (3, .int 0)] [] M14) (fun v15 M14 => some (.inr v15, M14))) (fun v8 M7 => some (.inr v8, M7)) := (am_X_eq cal k_Stepper_perform 0 _ _ M).trans rfl
theorem e_Stepper_perform_51 (cal : aY) (x0 : Nat) (x2 : Nat) (x3 : Int32) (M : aM) : am_X cal k_Stepper_perform 51 [(0, .ref x0), (2, .ref x2), (3, .int x3)] [] M = if 60 ≤ x3 then am_X cal k_Stepper_perform 136 [(0, .ref x0), (2, .ref x2)] [] M else (am_rI M x0 5 4).bind fun v1 => if ¬ v1 = (-5000) then am_X cal k_Stepper_perform 136 [(0, .ref x0), (2, .ref x2)] [] M else (am_rA M x0 5 1).bind fun v2 => (am_rA M v2 1 0).bind fun v3 => (am_ln M v3 3).bind fun _ => am_cI (cal 26 [.ref v3, .int 59] M) (fun v6 M4 => if ¬ v6 = 0 then am_X cal k_Stepper_perform 136 [(0, .ref x0), (2, .ref x2)] [] M4 else (am_rA M4 x0 5 1).bind fun v7 => (am_rA M4 v7 1 0).bind fun v8 => (am_ln M4 v8 3).bind fun _ => am_cI (cal 28 [.ref v8] M4) (fun v11 M9 => (am_ln M9 x0 5).bind fun _ => am_cV (cal 38 [.ref x0, .int v11] M9) (fun M12 => (am_rA M12 x0 5 1).bind fun v14 => (am_rI M12 v14 1 3).bind fun v15 => if v15 = 0 then am_X cal k_Stepper_perform 130 [(0, .ref x0), (2, .ref x2), (3, .int x3)] [] M12 else (am_rA M12 x0 5 1).bind fun v16 => (am_rI M12 v16 1 3).bind fun v17 => if ¬ v17 = 1 then am_X cal k_Stepper_perform 124 [(0, .ref x0), (2, .ref x2), (3, .int x3)] [.ref x0] M12 else am_X cal k_Stepper_perform 127 [(0, .ref x0), (2, .ref x2), (3, .int x3)] [.int 2005, .ref x0] M12) (fun v13 M12 => some (.inr v13, M12))) (fun v10 M9 => some (.inr v10, M9))) (fun v5 M4 => some (.inr v5, M4)) := (am_X_eq cal k_Stepper_perform 51 _ _ M).trans rfl
theorem e_Stepper_perform_124 (cal : aY) (x0 : Nat) (x2 : Nat) (x3 : Int32) (s0 : Nat) (M : aM) : am_X cal k_Stepper_perform 124 [(0, .ref x0), (2, .ref x2), (3, .int x3)] [.ref s0] M = am_X cal k_Stepper_perform 127 [(0, .ref x0), (2, .ref x2), (3, .int x3)] [.int 2003, .ref s0] M := (am_X_eq cal k_Stepper_perform 124 _ _ M).trans rfl
theorem e_Stepper_perform_127 (cal : aY) (x0 : Nat) (x2 : Nat) (x3 : Int32) (s0 : Int32) (s1 : Nat) (M : aM) : am_X cal k_Stepper_perform 127 [(0, .ref x0), (2, .ref x2), (3, .int x3)] [.int s0, .ref s1] M = (am_wr M s1 5 4 (.int s0)).bind fun M1 => am_X cal k_Stepper_perform 130 [(0, .ref x0), (2, .ref x2), (3, .int x3)] [] M1 := (am_X_eq cal k_Stepper_perform 127 _ _ M).trans rfl
theorem e_Stepper_perform_130 (cal : aY) (x0 : Nat) (x2 : Nat) (x3 : Int32) (M : aM) : am_X cal k_Stepper_perform 130 [(0, .ref x0), (2, .ref x2), (3, .int x3)] [] M = am_X cal k_Stepper_perform 51 [(0, .ref x0), (2, .ref x2), (3, .int (x3 + 1))] [] M := (am_X_eq cal k_Stepper_perform 130 _ _ M).trans rfl
theorem e_Stepper_perform_136 (cal : aY) (x0 : Nat) (x2 : Nat) (M : aM) : am_X cal k_Stepper_perform 136 [(0, .ref x0), (2, .ref x2)] [] M = (am_rI M x0 5 4).bind fun v1 => if ¬ v1 = (-5000) then am_X cal k_Stepper_perform 157 [(0, .ref x0)] [] M else (am_rJ M x0 5 3).bind fun v2 => (am_wr M x2 0 3 (.long v2)).bind fun M3 => am_X cal k_Stepper_perform 172 [(0, .ref x0)] [] M3 := (am_X_eq cal k_Stepper_perform 136 _ _ M).trans rfl
theorem e_Stepper_perform_157 (cal : aY) (x0 : Nat) (M : aM) : am_X cal k_Stepper_perform 157 [(0, .ref x0)] [] M = (am_rA M x0 5 0).bind fun v1 => (am_rI M x0 5 2).bind fun v2 => (am_rI M x0 5 4).bind fun v3 => (am_ln M v1 7).bind fun _ => am_cV (cal 63 [.ref v1, .int v2, .int v3] M) (fun M4 => am_X cal k_Stepper_perform 172 [(0, .ref x0)] [] M4) (fun v5 M4 => some (.inr v5, M4)) := (am_X_eq cal k_Stepper_perform 157 _ _ M).trans rfl
theorem e_Stepper_perform_172 (cal : aY) (x0 : Nat) (M : aM) : am_X cal k_Stepper_perform 172 [(0, .ref x0)] [] M = (am_rA M x0 5 1).bind fun v1 => (am_rI M v1 1 3).bind fun v2 => some (.inl (some (.int v2)), M) := (am_X_eq cal k_Stepper_perform 172 _ _ M).trans rfl
theorem y_Stepper_act (d : Nat) (a0 : Nat) (a1 : Int32) (M : aM) : am_Y (d + 1) 38 [.ref a0, .int a1] M = am_X (am_Y d) k_Stepper_act 0 [(0, .ref a0), (1, .int a1)] [] M := rfl
theorem e_Stepper_act_0 (cal : aY) (x0 : Nat) (x1 : Int32) (M : aM) : am_X cal k_Stepper_act 0 [(0, .ref x0), (1, .int x1)] [] M = if ¬ x1 = 33 then am_X cal k_Stepper_act 13 [(0, .ref x0), (1, .int x1)] [] M else (am_ln M x0 5).bind fun _ => am_cV (cal 39 [.ref x0] M) (fun M1 => am_X cal k_Stepper_act 91 [] [] M1) (fun v2 M1 => some (.inr v2, M1)) := (am_X_eq cal k_Stepper_act 0 _ _ M).trans rfl
theorem e_Stepper_act_13 (cal : aY) (x0 : Nat) (x1 : Int32) (M : aM) : am_X cal k_Stepper_act 13 [(0, .ref x0), (1, .int x1)] [] M = if ¬ x1 = 64 then am_X cal k_Stepper_act 26 [(0, .ref x0), (1, .int x1)] [] M else (am_ln M x0 5).bind fun _ => am_cV (cal 40 [.ref x0] M) (fun M1 => am_X cal k_Stepper_act 91 [] [] M1) (fun v2 M1 => some (.inr v2, M1)) := (am_X_eq cal k_Stepper_act 13 _ _ M).trans rfl
theorem e_Stepper_act_26 (cal : aY) (x0 : Nat) (x1 : Int32) (M : aM) : am_X cal k_Stepper_act 26 [(0, .ref x0), (1, .int x1)] [] M = if ¬ x1 = 42 then am_X cal k_Stepper_act 70 [(0, .ref x0), (1, .int x1)] [] M else (am_rA M x0 5 0).bind fun v1 => (am_rA M v1 7 2).bind fun v2 => (am_rI M x0 5 2).bind fun v3 => (am_ix v3).bind fun v4 => (am_rA M v2 15 v4).bind fun v5 => (am_rA M x0 5 1).bind fun v6 => (am_rA M v6 1 0).bind fun v7 => (am_ln M v7 3).bind fun _ => am_cI (cal 28 [.ref v7] M) (fun v10 M8 => if ¬ v10 = 49 then am_X cal k_Stepper_act 63 [] [.ref v5] M8 else am_X cal k_Stepper_act 64 [] [.int 1, .ref v5] M8) (fun v9 M8 => some (.inr v9, M8)) := (am_X_eq cal k_Stepper_act 26 _ _ M).trans rfl
theorem e_Stepper_act_63 (cal : aY) (s0 : Nat) (M : aM) : am_X cal k_Stepper_act 63 [] [.ref s0] M = am_X cal k_Stepper_act 64 [] [.int 0, .ref s0] M := (am_X_eq cal k_Stepper_act 63 _ _ M).trans rfl
theorem e_Stepper_act_64 (cal : aY) (s0 : Int32) (s1 : Nat) (M : aM) : am_X cal k_Stepper_act 64 [] [.int s0, .ref s1] M = bif am_ft 3 (.int s0) then (am_wr M s1 0 4 (.int s0)).bind fun M1 => am_X cal k_Stepper_act 91 [] [] M1 else none := (am_X_eq cal k_Stepper_act 64 _ _ M).trans rfl
theorem e_Stepper_act_70 (cal : aY) (x0 : Nat) (x1 : Int32) (M : aM) : am_X cal k_Stepper_act 70 [(0, .ref x0), (1, .int x1)] [] M = (am_rA M x0 5 1).bind fun v1 => (am_ln M v1 1).bind fun _ => am_cJ (cal 9 [.ref v1, .int 0] M) (fun v4 M2 => if lg_cmp v4 0 = 0 then am_X cal k_Stepper_act 91 [] [] M2 else (am_ln M2 x0 5).bind fun _ => am_cV (cal 41 [.ref x0, .int x1, .long v4] M2) (fun M5 => am_X cal k_Stepper_act 91 [] [] M5) (fun v6 M5 => some (.inr v6, M5))) (fun v3 M2 => some (.inr v3, M2)) := (am_X_eq cal k_Stepper_act 70 _ _ M).trans rfl
theorem e_Stepper_act_91 (cal : aY)  (M : aM) : am_X cal k_Stepper_act 91 [] [] M = some (.inl none, M) := (am_X_eq cal k_Stepper_act 91 _ _ M).trans rfl
theorem y_Stepper_putUnderWay (d : Nat) (a0 : Nat) (M : aM) : am_Y (d + 1) 39 [.ref a0] M = am_X (am_Y d) k_Stepper_putUnderWay 0 [(0, .ref a0)] [] M := rfl
theorem e_Stepper_putUnderWay_0 (cal : aY) (x0 : Nat) (M : aM) : am_X cal k_Stepper_putUnderWay 0 [(0, .ref x0)] [] M = (am_rA M x0 5 1).bind fun v1 => (am_ln M v1 1).bind fun _ => am_cJ (cal 9 [.ref v1, .int 0] M) (fun v4 M2 => if ¬ lg_cmp v4 0 = 0 then am_X cal k_Stepper_putUnderWay 16 [(0, .ref x0), (1, .long v4)] [] M2 else some (.inl none, M2)) (fun v3 M2 => some (.inr v3, M2)) := (am_X_eq cal k_Stepper_putUnderWay 0 _ _ M).trans rfl
theorem e_Stepper_putUnderWay_16 (cal : aY) (x0 : Nat) (x1 : Int64) (M : aM) : am_X cal k_Stepper_putUnderWay 16 [(0, .ref x0), (1, .long x1)] [] M = (am_rA M x0 5 1).bind fun v1 => (am_ln M v1 1).bind fun _ => am_cJ (cal 9 [.ref v1, .int 0] M) (fun v4 M2 => if ¬ lg_cmp v4 0 = 0 then am_X cal k_Stepper_putUnderWay 32 [(0, .ref x0), (1, .long x1), (3, .long v4)] [] M2 else some (.inl none, M2)) (fun v3 M2 => some (.inr v3, M2)) := (am_X_eq cal k_Stepper_putUnderWay 16 _ _ M).trans rfl
theorem e_Stepper_putUnderWay_32 (cal : aY) (x0 : Nat) (x1 : Int64) (x3 : Int64) (M : aM) : am_X cal k_Stepper_putUnderWay 32 [(0, .ref x0), (1, .long x1), (3, .long x3)] [] M = am_cI (cal 55 [.long x1] M) (fun v3 M1 => if ¬ v3 = 0 then am_X cal k_Stepper_putUnderWay 49 [(0, .ref x0), (1, .long x1), (3, .long x3)] [] M1 else (am_rA M1 x0 5 1).bind fun v4 => (am_ln M1 v4 1).bind fun _ => am_cJ (cal 11 [.ref v4, .int 1] M1) (fun v7 M5 => some (.inl none, M5)) (fun v6 M5 => some (.inr v6, M5))) (fun v2 M1 => some (.inr v2, M1)) := (am_X_eq cal k_Stepper_putUnderWay 32 _ _ M).trans rfl
theorem e_Stepper_putUnderWay_49 (cal : aY) (x0 : Nat) (x1 : Int64) (x3 : Int64) (M : aM) : am_X cal k_Stepper_putUnderWay 49 [(0, .ref x0), (1, .long x1), (3, .long x3)] [] M = (am_rA M x0 5 0).bind fun v1 => (am_rI M x0 5 2).bind fun v2 => am_cI (cal 48 [.long x1, .int 0] M) (fun v5 M3 => (am_ln M3 v1 7).bind fun _ => am_cA (cal 62 [.ref v1, .int v2, .int (v5 - 3000)] M3) (fun v8 M6 => (am_rI M6 v8 4 1).bind fun v9 => if v9 < 4 then am_X cal k_Stepper_putUnderWay 90 [(3, .long x3), (5, .ref v8)] [] M6 else (am_rA M6 x0 5 1).bind fun v10 => (am_ln M6 v10 1).bind fun _ => am_cJ (cal 11 [.ref v10, .int 1] M6) (fun v13 M11 => some (.inl none, M11)) (fun v12 M11 => some (.inr v12, M11))) (fun v7 M6 => some (.inr v7, M6))) (fun v4 M3 => some (.inr v4, M3)) := (am_X_eq cal k_Stepper_putUnderWay 49 _ _ M).trans rfl
theorem e_Stepper_putUnderWay_90 (cal : aY) (x3 : Int64) (x5 : Nat) (M : aM) : am_X cal k_Stepper_putUnderWay 90 [(3, .long x3), (5, .ref x5)] [] M = (am_ln M x5 4).bind fun _ => am_cV (cal 31 [.ref x5, .long x3] M) (fun M1 => some (.inl none, M1)) (fun v2 M1 => some (.inr v2, M1)) := (am_X_eq cal k_Stepper_putUnderWay 90 _ _ M).trans rfl
theorem y_Stepper_makeLinked (d : Nat) (a0 : Nat) (M : aM) : am_Y (d + 1) 40 [.ref a0] M = am_X (am_Y d) k_Stepper_makeLinked 0 [(0, .ref a0)] [] M := rfl
theorem e_Stepper_makeLinked_0 (cal : aY) (x0 : Nat) (M : aM) : am_X cal k_Stepper_makeLinked 0 [(0, .ref x0)] [] M = (am_rA M x0 5 1).bind fun v1 => (am_rA M v1 1 0).bind fun v2 => (am_ln M v2 3).bind fun _ => am_cI (cal 28 [.ref v2] M) (fun v5 M3 => (am_rA M3 x0 5 1).bind fun v6 => (am_rA M3 v6 1 0).bind fun v7 => (am_ln M3 v7 3).bind fun _ => am_cI (cal 28 [.ref v7] M3) (fun v10 M8 => am_cI (cal 6 [.int v10] M8) (fun v13 M11 => if v5 - 48 < 0 then am_X cal k_Stepper_makeLinked 41 [(0, .ref x0)] [] M11 else if 3 ≤ v5 - 48 then am_X cal k_Stepper_makeLinked 41 [(0, .ref x0)] [] M11 else if 0 ≤ v13 then am_X cal k_Stepper_makeLinked 51 [(0, .ref x0), (1, .int (v5 - 48)), (2, .int v13)] [] M11 else am_X cal k_Stepper_makeLinked 41 [(0, .ref x0)] [] M11) (fun v12 M11 => some (.inr v12, M11))) (fun v9 M8 => some (.inr v9, M8))) (fun v4 M3 => some (.inr v4, M3)) := (am_X_eq cal k_Stepper_makeLinked 0 _ _ M).trans rfl
theorem e_Stepper_makeLinked_41 (cal : aY) (x0 : Nat) (M : aM) : am_X cal k_Stepper_makeLinked 41 [(0, .ref x0)] [] M = (am_rA M x0 5 1).bind fun v1 => (am_ln M v1 1).bind fun _ => am_cJ (cal 11 [.ref v1, .int 1] M) (fun v4 M2 => some (.inl none, M2)) (fun v3 M2 => some (.inr v3, M2)) := (am_X_eq cal k_Stepper_makeLinked 41 _ _ M).trans rfl
theorem e_Stepper_makeLinked_51 (cal : aY) (x0 : Nat) (x1 : Int32) (x2 : Int32) (M : aM) : am_X cal k_Stepper_makeLinked 51 [(0, .ref x0), (1, .int x1), (2, .int x2)] [] M = (am_rA M x0 5 0).bind fun v1 => am_cJ (cal 42 [.int 0] M) (fun v4 M2 => (am_ln M2 v1 7).bind fun _ => am_cI (cal 61 [.ref v1, .int x1, .long v4] M2) (fun v7 M5 => if 0 ≤ v7 then am_X cal k_Stepper_makeLinked 78 [(0, .ref x0), (2, .int x2), (3, .int v7)] [] M5 else (am_rA M5 x0 5 1).bind fun v8 => (am_ln M5 v8 1).bind fun _ => am_cJ (cal 11 [.ref v8, .int 1] M5) (fun v11 M9 => some (.inl none, M9)) (fun v10 M9 => some (.inr v10, M9))) (fun v6 M5 => some (.inr v6, M5))) (fun v3 M2 => some (.inr v3, M2)) := (am_X_eq cal k_Stepper_makeLinked 51 _ _ M).trans rfl
theorem e_Stepper_makeLinked_78 (cal : aY) (x0 : Nat) (x2 : Int32) (x3 : Int32) (M : aM) : am_X cal k_Stepper_makeLinked 78 [(0, .ref x0), (2, .int x2), (3, .int x3)] [] M = (am_rA M x0 5 0).bind fun v1 => (am_rI M x0 5 2).bind fun v2 => (am_ln M v1 7).bind fun _ => am_cV (cal 64 [.ref v1, .int v2, .int x3] M) (fun M3 => (am_rA M3 x0 5 1).bind fun v5 => (am_rA M3 v5 1 1).bind fun v6 => am_cJ (cal 42 [.int (3000 + x3)] M3) (fun v9 M7 => (am_ix x2).bind fun v10 => (am_wr M7 v6 11 v10 (.long v9)).bind fun M11 => some (.inl none, M11)) (fun v8 M7 => some (.inr v8, M7))) (fun v4 M3 => some (.inr v4, M3)) := (am_X_eq cal k_Stepper_makeLinked 78 _ _ M).trans rfl
theorem y_Stepper_use (d : Nat) (a0 : Nat) (a1 : Int32) (a2 : Int64) (M : aM) : am_Y (d + 1) 41 [.ref a0, .int a1, .long a2] M = am_X (am_Y d) k_Stepper_use 0 [(0, .ref a0), (1, .int a1), (2, .long a2)] [] M := rfl
theorem e_Stepper_use_0 (cal : aY) (x0 : Nat) (x1 : Int32) (x2 : Int64) (M : aM) : am_X cal k_Stepper_use 0 [(0, .ref x0), (1, .int x1), (2, .long x2)] [] M = if ¬ x1 = 126 then am_X cal k_Stepper_use 14 [(0, .ref x0), (1, .int x1), (2, .long x2)] [] M else (am_wr M x0 5 3 (.long x2)).bind fun M1 => am_X cal k_Stepper_use 71 [] [] M1 := (am_X_eq cal k_Stepper_use 0 _ _ M).trans rfl
theorem e_Stepper_use_14 (cal : aY) (x0 : Nat) (x1 : Int32) (x2 : Int64) (M : aM) : am_X cal k_Stepper_use 14 [(0, .ref x0), (1, .int x1), (2, .long x2)] [] M = if ¬ x1 = 36 then am_X cal k_Stepper_use 32 [(0, .ref x0), (2, .long x2)] [] M else am_cI (cal 48 [.long x2, .int 0] M) (fun v3 M1 => (am_wr M1 x0 5 4 (.int v3)).bind fun M4 => am_X cal k_Stepper_use 71 [] [] M4) (fun v2 M1 => some (.inr v2, M1)) := (am_X_eq cal k_Stepper_use 14 _ _ M).trans rfl
theorem e_Stepper_use_32 (cal : aY) (x0 : Nat) (x2 : Int64) (M : aM) : am_X cal k_Stepper_use 32 [(0, .ref x0), (2, .long x2)] [] M = am_cI (cal 55 [.long x2] M) (fun v3 M1 => if v3 = 0 then am_X cal k_Stepper_use 62 [(0, .ref x0)] [] M1 else (am_rA M1 x0 5 0).bind fun v4 => (am_rI M1 x0 5 2).bind fun v5 => am_cI (cal 48 [.long x2, .int 0] M1) (fun v8 M6 => (am_ln M6 v4 7).bind fun _ => am_cV (cal 64 [.ref v4, .int v5, .int (v8 - 3000)] M6) (fun M9 => am_X cal k_Stepper_use 71 [] [] M9) (fun v10 M9 => some (.inr v10, M9))) (fun v7 M6 => some (.inr v7, M6))) (fun v2 M1 => some (.inr v2, M1)) := (am_X_eq cal k_Stepper_use 32 _ _ M).trans rfl
theorem e_Stepper_use_62 (cal : aY) (x0 : Nat) (M : aM) : am_X cal k_Stepper_use 62 [(0, .ref x0)] [] M = (am_rA M x0 5 1).bind fun v1 => (am_ln M v1 1).bind fun _ => am_cJ (cal 11 [.ref v1, .int 1] M) (fun v4 M2 => am_X cal k_Stepper_use 71 [] [] M2) (fun v3 M2 => some (.inr v3, M2)) := (am_X_eq cal k_Stepper_use 62 _ _ M).trans rfl
theorem e_Stepper_use_71 (cal : aY)  (M : aM) : am_X cal k_Stepper_use 71 [] [] M = some (.inl none, M) := (am_X_eq cal k_Stepper_use 71 _ _ M).trans rfl
theorem y_Term_ofLeaf (d : Nat) (a0 : Int32) (M : aM) : am_Y (d + 1) 42 [.int a0] M = am_X (am_Y d) k_Term_ofLeaf 0 [(0, .int a0)] [] M := rfl
theorem e_Term_ofLeaf_0 (cal : aY) (x0 : Int32) (M : aM) : am_X cal k_Term_ofLeaf 0 [(0, .int x0)] [] M = some (.inl (some (.long (Int32.toInt64 (x0 + 1000)))), M) := (am_X_eq cal k_Term_ofLeaf 0 _ _ M).trans rfl
theorem y_Term_pair (d : Nat) (a0 : Int64) (a1 : Int64) (M : aM) : am_Y (d + 1) 43 [.long a0, .long a1] M = am_X (am_Y d) k_Term_pair 0 [(0, .long a0), (2, .long a1)] [] M := rfl
theorem e_Term_pair_0 (cal : aY) (x0 : Int64) (x2 : Int64) (M : aM) : am_X cal k_Term_pair 0 [(0, .long x0), (2, .long x2)] [] M = am_cI (cal 44 [.long x0] M) (fun v3 M1 => am_cI (cal 44 [.long x2] M1) (fun v6 M4 => if v3 + v6 ≤ 4 then am_X cal k_Term_pair 23 [(0, .long x0), (2, .long x2), (4, .int v3), (5, .int v6)] [] M4 else some (.inl (some (.long 0)), M4)) (fun v5 M4 => some (.inr v5, M4))) (fun v2 M1 => some (.inr v2, M1)) := (am_X_eq cal k_Term_pair 0 _ _ M).trans rfl
theorem e_Term_pair_23 (cal : aY) (x0 : Int64) (x2 : Int64) (x4 : Int32) (x5 : Int32) (M : aM) : am_X cal k_Term_pair 23 [(0, .long x0), (2, .long x2), (4, .int x4), (5, .int x5)] [] M = am_cI (cal 45 [.long x0] M) (fun v3 M1 => (am_ix x4).bind fun v4 => (am_rI M1 2 10 v4).bind fun v5 => am_cI (cal 45 [.long x2] M1) (fun v8 M6 => (am_ix x5).bind fun v9 => (am_rI M6 2 10 v9).bind fun v10 => (am_ix x5).bind fun v11 => (am_rI M6 1 10 v11).bind fun v12 => am_cJ (cal 46 [.long ((x0 &&& 281474976710655) ||| ((x2 &&& 281474976710655) <<< (Int32.toInt64 (x4 * 12) &&& 63))), .int (((v3 + v5) * v12) + (v8 + v10))] M6) (fun v15 M13 => some (.inl (some (.long v15)), M13)) (fun v14 M13 => some (.inr v14, M13))) (fun v7 M6 => some (.inr v7, M6))) (fun v2 M1 => some (.inr v2, M1)) := (am_X_eq cal k_Term_pair 23 _ _ M).trans rfl
theorem y_Term_countLeaves (d : Nat) (a0 : Int64) (M : aM) : am_Y (d + 1) 44 [.long a0] M = am_X (am_Y d) k_Term_countLeaves 0 [(0, .long a0)] [] M := rfl
theorem e_Term_countLeaves_0 (cal : aY) (x0 : Int64) (M : aM) : am_X cal k_Term_countLeaves 0 [(0, .long x0)] [] M = am_X cal k_Term_countLeaves 4 [(0, .long x0), (2, .int 0), (3, .int 0)] [] M := (am_X_eq cal k_Term_countLeaves 0 _ _ M).trans rfl
theorem e_Term_countLeaves_4 (cal : aY) (x0 : Int64) (x2 : Int32) (x3 : Int32) (M : aM) : am_X cal k_Term_countLeaves 4 [(0, .long x0), (2, .int x2), (3, .int x3)] [] M = if 4 ≤ x3 then am_X cal k_Term_countLeaves 38 [(2, .int x2)] [] M else if ¬ lg_cmp (((Int64.toUInt64 x0 >>> ((Int32.toInt64 (x3 * 12)).toUInt64 &&& Int64.toUInt64 63)).toInt64) &&& 4095) 0 = 0 then am_X cal k_Term_countLeaves 29 [(0, .long x0), (3, .int x3)] [.int x2] M else am_X cal k_Term_countLeaves 30 [(0, .long x0), (3, .int x3)] [.int 0, .int x2] M := (am_X_eq cal k_Term_countLeaves 4 _ _ M).trans rfl
theorem e_Term_countLeaves_29 (cal : aY) (x0 : Int64) (x3 : Int32) (s0 : Int32) (M : aM) : am_X cal k_Term_countLeaves 29 [(0, .long x0), (3, .int x3)] [.int s0] M = am_X cal k_Term_countLeaves 30 [(0, .long x0), (3, .int x3)] [.int 1, .int s0] M := (am_X_eq cal k_Term_countLeaves 29 _ _ M).trans rfl
theorem e_Term_countLeaves_30 (cal : aY) (x0 : Int64) (x3 : Int32) (s0 : Int32) (s1 : Int32) (M : aM) : am_X cal k_Term_countLeaves 30 [(0, .long x0), (3, .int x3)] [.int s0, .int s1] M = am_X cal k_Term_countLeaves 4 [(0, .long x0), (2, .int (s1 + s0)), (3, .int (x3 + 1))] [] M := (am_X_eq cal k_Term_countLeaves 30 _ _ M).trans rfl
theorem e_Term_countLeaves_38 (cal : aY) (x2 : Int32) (M : aM) : am_X cal k_Term_countLeaves 38 [(2, .int x2)] [] M = some (.inl (some (.int x2)), M) := (am_X_eq cal k_Term_countLeaves 38 _ _ M).trans rfl
theorem y_Term_shapeOf (d : Nat) (a0 : Int64) (M : aM) : am_Y (d + 1) 45 [.long a0] M = am_X (am_Y d) k_Term_shapeOf 0 [(0, .long a0)] [] M := rfl
theorem e_Term_shapeOf_0 (cal : aY) (x0 : Int64) (M : aM) : am_X cal k_Term_shapeOf 0 [(0, .long x0)] [] M = some (.inl (some (.int ((Int64.toInt32 ((Int64.toUInt64 x0 >>> ((Int32.toInt64 48).toUInt64 &&& Int64.toUInt64 63)).toInt64)) &&& 4095))), M) := (am_X_eq cal k_Term_shapeOf 0 _ _ M).trans rfl
theorem y_Term_build (d : Nat) (a0 : Int64) (a1 : Int32) (M : aM) : am_Y (d + 1) 46 [.long a0, .int a1] M = am_X (am_Y d) k_Term_build 0 [(0, .long a0), (2, .int a1)] [] M := rfl
theorem e_Term_build_0 (cal : aY) (x0 : Int64) (x2 : Int32) (M : aM) : am_X cal k_Term_build 0 [(0, .long x0), (2, .int x2)] [] M = some (.inl (some (.long (x0 ||| ((Int32.toInt64 x2) <<< (Int32.toInt64 48 &&& 63))))), M) := (am_X_eq cal k_Term_build 0 _ _ M).trans rfl
theorem y_Term_isSignal (d : Nat) (a0 : Int64) (M : aM) : am_Y (d + 1) 47 [.long a0] M = am_X (am_Y d) k_Term_isSignal 0 [(0, .long a0)] [] M := rfl
theorem e_Term_isSignal_0 (cal : aY) (x0 : Int64) (M : aM) : am_X cal k_Term_isSignal 0 [(0, .long x0)] [] M = if lg_cmp (x0 &&& 4611686018427387904) 0 = 0 then am_X cal k_Term_isSignal 14 [] [] M else am_X cal k_Term_isSignal 15 [] [.int 1] M := (am_X_eq cal k_Term_isSignal 0 _ _ M).trans rfl
theorem e_Term_isSignal_14 (cal : aY)  (M : aM) : am_X cal k_Term_isSignal 14 [] [] M = am_X cal k_Term_isSignal 15 [] [.int 0] M := (am_X_eq cal k_Term_isSignal 14 _ _ M).trans rfl
theorem e_Term_isSignal_15 (cal : aY) (s0 : Int32) (M : aM) : am_X cal k_Term_isSignal 15 [] [.int s0] M = bif am_ft 3 (.int s0) then some (.inl (some (.int s0)), M) else none := (am_X_eq cal k_Term_isSignal 15 _ _ M).trans rfl
theorem y_Term_leafAt (d : Nat) (a0 : Int64) (a1 : Int32) (M : aM) : am_Y (d + 1) 48 [.long a0, .int a1] M = am_X (am_Y d) k_Term_leafAt 0 [(0, .long a0), (2, .int a1)] [] M := rfl
theorem e_Term_leafAt_0 (cal : aY) (x0 : Int64) (x2 : Int32) (M : aM) : am_X cal k_Term_leafAt 0 [(0, .long x0), (2, .int x2)] [] M = if ¬ (Int64.toInt32 ((Int64.toUInt64 x0 >>> ((Int32.toInt64 (x2 * 12)).toUInt64 &&& Int64.toUInt64 63)).toInt64)) &&& 4095 = 0 then am_X cal k_Term_leafAt 22 [(3, .int ((Int64.toInt32 ((Int64.toUInt64 x0 >>> ((Int32.toInt64 (x2 * 12)).toUInt64 &&& Int64.toUInt64 63)).toInt64)) &&& 4095))] [] M else am_X cal k_Term_leafAt 27 [] [.int (-5000)] M := (am_X_eq cal k_Term_leafAt 0 _ _ M).trans rfl
theorem e_Term_leafAt_22 (cal : aY) (x3 : Int32) (M : aM) : am_X cal k_Term_leafAt 22 [(3, .int x3)] [] M = am_X cal k_Term_leafAt 27 [] [.int (x3 - 1000)] M := (am_X_eq cal k_Term_leafAt 22 _ _ M).trans rfl
theorem e_Term_leafAt_27 (cal : aY) (s0 : Int32) (M : aM) : am_X cal k_Term_leafAt 27 [] [.int s0] M = some (.inl (some (.int s0)), M) := (am_X_eq cal k_Term_leafAt 27 _ _ M).trans rfl
theorem y_Term_signal (d : Nat) (a0 : Int32) (M : aM) : am_Y (d + 1) 49 [.int a0] M = am_X (am_Y d) k_Term_signal 0 [(0, .int a0)] [] M := rfl
theorem e_Term_signal_0 (cal : aY) (x0 : Int32) (M : aM) : am_X cal k_Term_signal 0 [(0, .int x0)] [] M = am_cJ (cal 42 [.int x0] M) (fun v3 M1 => some (.inl (some (.long (4611686018427387904 ||| v3))), M1)) (fun v2 M1 => some (.inr v2, M1)) := (am_X_eq cal k_Term_signal 0 _ _ M).trans rfl
theorem y_Term_isPair (d : Nat) (a0 : Int64) (M : aM) : am_Y (d + 1) 50 [.long a0] M = am_X (am_Y d) k_Term_isPair 0 [(0, .long a0)] [] M := rfl
theorem e_Term_isPair_0 (cal : aY) (x0 : Int64) (M : aM) : am_X cal k_Term_isPair 0 [(0, .long x0)] [] M = if lg_cmp x0 4095 ≤ 0 then am_X cal k_Term_isPair 12 [] [] M else am_X cal k_Term_isPair 13 [] [.int 1] M := (am_X_eq cal k_Term_isPair 0 _ _ M).trans rfl
theorem e_Term_isPair_12 (cal : aY)  (M : aM) : am_X cal k_Term_isPair 12 [] [] M = am_X cal k_Term_isPair 13 [] [.int 0] M := (am_X_eq cal k_Term_isPair 12 _ _ M).trans rfl
theorem e_Term_isPair_13 (cal : aY) (s0 : Int32) (M : aM) : am_X cal k_Term_isPair 13 [] [.int s0] M = bif am_ft 3 (.int s0) then some (.inl (some (.int s0)), M) else none := (am_X_eq cal k_Term_isPair 13 _ _ M).trans rfl
theorem y_Term_left (d : Nat) (a0 : Int64) (M : aM) : am_Y (d + 1) 51 [.long a0] M = am_X (am_Y d) k_Term_left 0 [(0, .long a0)] [] M := rfl
theorem e_Term_left_0 (cal : aY) (x0 : Int64) (M : aM) : am_X cal k_Term_left 0 [(0, .long x0)] [] M = am_cI (cal 52 [.long x0] M) (fun v3 M1 => am_cI (cal 44 [.long x0] M1) (fun v6 M4 => am_cI (cal 45 [.long x0] M4) (fun v9 M7 => (am_ix (v6 - v3)).bind fun v10 => (am_rI M7 1 10 v10).bind fun v11 => if v11 = 0 then none else (am_ix v3).bind fun v12 => (am_rI M7 2 10 v12).bind fun v13 => am_cJ (cal 46 [.long (x0 &&& ((1 <<< (Int32.toInt64 (v3 * 12) &&& 63)) - 1)), .int ((v9 / v11) - v13)] M7) (fun v16 M14 => some (.inl (some (.long v16)), M14)) (fun v15 M14 => some (.inr v15, M14))) (fun v8 M7 => some (.inr v8, M7))) (fun v5 M4 => some (.inr v5, M4))) (fun v2 M1 => some (.inr v2, M1)) := (am_X_eq cal k_Term_left 0 _ _ M).trans rfl
theorem y_Term_countLeftLeaves (d : Nat) (a0 : Int64) (M : aM) : am_Y (d + 1) 52 [.long a0] M = am_X (am_Y d) k_Term_countLeftLeaves 0 [(0, .long a0)] [] M := rfl
theorem e_Term_countLeftLeaves_0 (cal : aY) (x0 : Int64) (M : aM) : am_X cal k_Term_countLeftLeaves 0 [(0, .long x0)] [] M = am_cI (cal 44 [.long x0] M) (fun v3 M1 => am_X cal k_Term_countLeftLeaves 10 [(0, .long x0), (2, .int v3), (3, .int 0), (4, .int 1)] [] M1) (fun v2 M1 => some (.inr v2, M1)) := (am_X_eq cal k_Term_countLeftLeaves 0 _ _ M).trans rfl
theorem e_Term_countLeftLeaves_10 (cal : aY) (x0 : Int64) (x2 : Int32) (x3 : Int32) (x4 : Int32) (M : aM) : am_X cal k_Term_countLeftLeaves 10 [(0, .long x0), (2, .int x2), (3, .int x3), (4, .int x4)] [] M = if x2 ≤ x4 then am_X cal k_Term_countLeftLeaves 56 [(2, .int x2)] [] M else am_cI (cal 45 [.long x0] M) (fun v3 M1 => (am_ix (x2 - x4)).bind fun v4 => (am_rI M1 1 10 v4).bind fun v5 => if v5 = 0 then none else if 10 = 0 then none else if x3 + (8 >>> (((v3 / v5) - (v3 / v5) / 10 * 10) &&& 31)) < 4 then am_X cal k_Term_countLeftLeaves 50 [(0, .long x0), (2, .int x2), (3, .int (x3 + (8 >>> (((v3 / v5) - (v3 / v5) / 10 * 10) &&& 31)))), (4, .int x4)] [] M1 else some (.inl (some (.int x4)), M1)) (fun v2 M1 => some (.inr v2, M1)) := (am_X_eq cal k_Term_countLeftLeaves 10 _ _ M).trans rfl
theorem e_Term_countLeftLeaves_50 (cal : aY) (x0 : Int64) (x2 : Int32) (x3 : Int32) (x4 : Int32) (M : aM) : am_X cal k_Term_countLeftLeaves 50 [(0, .long x0), (2, .int x2), (3, .int x3), (4, .int x4)] [] M = am_X cal k_Term_countLeftLeaves 10 [(0, .long x0), (2, .int x2), (3, .int x3), (4, .int (x4 + 1))] [] M := (am_X_eq cal k_Term_countLeftLeaves 50 _ _ M).trans rfl
theorem e_Term_countLeftLeaves_56 (cal : aY) (x2 : Int32) (M : aM) : am_X cal k_Term_countLeftLeaves 56 [(2, .int x2)] [] M = some (.inl (some (.int x2)), M) := (am_X_eq cal k_Term_countLeftLeaves 56 _ _ M).trans rfl
theorem y_Term_right (d : Nat) (a0 : Int64) (M : aM) : am_Y (d + 1) 53 [.long a0] M = am_X (am_Y d) k_Term_right 0 [(0, .long a0)] [] M := rfl
theorem e_Term_right_0 (cal : aY) (x0 : Int64) (M : aM) : am_X cal k_Term_right 0 [(0, .long x0)] [] M = am_cI (cal 52 [.long x0] M) (fun v3 M1 => am_cI (cal 44 [.long x0] M1) (fun v6 M4 => am_cI (cal 45 [.long x0] M4) (fun v9 M7 => (am_ix (v6 - v3)).bind fun v10 => (am_rI M7 1 10 v10).bind fun v11 => if v11 = 0 then none else (am_ix (v6 - v3)).bind fun v12 => (am_rI M7 2 10 v12).bind fun v13 => am_cJ (cal 46 [.long ((Int64.toUInt64 (x0 &&& 281474976710655) >>> ((Int32.toInt64 (v3 * 12)).toUInt64 &&& Int64.toUInt64 63)).toInt64), .int ((v9 - v9 / v11 * v11) - v13)] M7) (fun v16 M14 => some (.inl (some (.long v16)), M14)) (fun v15 M14 => some (.inr v15, M14))) (fun v8 M7 => some (.inr v8, M7))) (fun v5 M4 => some (.inr v5, M4))) (fun v2 M1 => some (.inr v2, M1)) := (am_X_eq cal k_Term_right 0 _ _ M).trans rfl
theorem y_Term_isInt (d : Nat) (a0 : Int64) (M : aM) : am_Y (d + 1) 54 [.long a0] M = am_X (am_Y d) k_Term_isInt 0 [(0, .long a0)] [] M := rfl
theorem e_Term_isInt_0 (cal : aY) (x0 : Int64) (M : aM) : am_X cal k_Term_isInt 0 [(0, .long x0)] [] M = if 0 < lg_cmp x0 1999 then am_X cal k_Term_isInt 12 [] [] M else am_X cal k_Term_isInt 13 [] [.int 1] M := (am_X_eq cal k_Term_isInt 0 _ _ M).trans rfl
theorem e_Term_isInt_12 (cal : aY)  (M : aM) : am_X cal k_Term_isInt 12 [] [] M = am_X cal k_Term_isInt 13 [] [.int 0] M := (am_X_eq cal k_Term_isInt 12 _ _ M).trans rfl
theorem e_Term_isInt_13 (cal : aY) (s0 : Int32) (M : aM) : am_X cal k_Term_isInt 13 [] [.int s0] M = bif am_ft 3 (.int s0) then some (.inl (some (.int s0)), M) else none := (am_X_eq cal k_Term_isInt 13 _ _ M).trans rfl
theorem y_Term_isActor (d : Nat) (a0 : Int64) (M : aM) : am_Y (d + 1) 55 [.long a0] M = am_X (am_Y d) k_Term_isActor 0 [(0, .long a0)] [] M := rfl
theorem e_Term_isActor_0 (cal : aY) (x0 : Int64) (M : aM) : am_X cal k_Term_isActor 0 [(0, .long x0)] [] M = if lg_cmp x0 4000 < 0 then am_X cal k_Term_isActor 20 [] [] M else if 0 < lg_cmp x0 4095 then am_X cal k_Term_isActor 20 [] [] M else am_X cal k_Term_isActor 21 [] [.int 1] M := (am_X_eq cal k_Term_isActor 0 _ _ M).trans rfl
theorem e_Term_isActor_20 (cal : aY)  (M : aM) : am_X cal k_Term_isActor 20 [] [] M = am_X cal k_Term_isActor 21 [] [.int 0] M := (am_X_eq cal k_Term_isActor 20 _ _ M).trans rfl
theorem e_Term_isActor_21 (cal : aY) (s0 : Int32) (M : aM) : am_X cal k_Term_isActor 21 [] [.int s0] M = bif am_ft 3 (.int s0) then some (.inl (some (.int s0)), M) else none := (am_X_eq cal k_Term_isActor 21 _ _ M).trans rfl
theorem y_Text_init (d : Nat) (a0 : Nat) (M : aM) : am_Y (d + 1) 56 [.ref a0] M = am_X (am_Y d) k_Text_init 0 [(0, .ref a0)] [] M := rfl
theorem e_Text_init_0 (cal : aY) (x0 : Nat) (M : aM) : am_X cal k_Text_init 0 [(0, .ref x0)] [] M = (am_ix 60).bind fun v1 => bif Nat.ble v1 1000 then (am_wr (am_nw M 13 (List.replicate v1 (am_dv 13))) x0 6 0 (.ref M.1.length)).bind fun M2 => some (.inl none, M2) else none := (am_X_eq cal k_Text_init 0 _ _ M).trans rfl
theorem y_Text_append (d : Nat) (a0 : Nat) (a1 : Int32) (M : aM) : am_Y (d + 1) 57 [.ref a0, .int a1] M = am_X (am_Y d) k_Text_append 0 [(0, .ref a0), (1, .int a1)] [] M := rfl
theorem e_Text_append_0 (cal : aY) (x0 : Nat) (x1 : Int32) (M : aM) : am_X cal k_Text_append 0 [(0, .ref x0), (1, .int x1)] [] M = (am_rI M x0 6 1).bind fun v1 => if 60 ≤ v1 then am_X cal k_Text_append 29 [] [] M else (am_rA M x0 6 0).bind fun v2 => (am_rI M x0 6 1).bind fun v3 => (am_ix v3).bind fun v4 => (am_wr M v2 13 v4 (.int (vp_nar .char x1))).bind fun M5 => (am_rI M5 x0 6 1).bind fun v6 => (am_wr M5 x0 6 1 (.int (v6 + 1))).bind fun M7 => am_X cal k_Text_append 29 [] [] M7 := (am_X_eq cal k_Text_append 0 _ _ M).trans rfl
theorem e_Text_append_29 (cal : aY)  (M : aM) : am_X cal k_Text_append 29 [] [] M = some (.inl none, M) := (am_X_eq cal k_Text_append 29 _ _ M).trans rfl
theorem y_Text_countClauses (d : Nat) (a0 : Nat) (M : aM) : am_Y (d + 1) 58 [.ref a0] M = am_X (am_Y d) k_Text_countClauses 0 [(0, .ref a0)] [] M := rfl
theorem e_Text_countClauses_0 (cal : aY) (x0 : Nat) (M : aM) : am_X cal k_Text_countClauses 0 [(0, .ref x0)] [] M = am_X cal k_Text_countClauses 4 [(0, .ref x0), (1, .int 0), (2, .int 0)] [] M := (am_X_eq cal k_Text_countClauses 0 _ _ M).trans rfl
theorem e_Text_countClauses_4 (cal : aY) (x0 : Nat) (x1 : Int32) (x2 : Int32) (M : aM) : am_X cal k_Text_countClauses 4 [(0, .ref x0), (1, .int x1), (2, .int x2)] [] M = (am_rI M x0 6 1).bind fun v1 => if v1 ≤ x2 then am_X cal k_Text_countClauses 37 [(1, .int x1)] [] M else (am_rA M x0 6 0).bind fun v2 => (am_ix x2).bind fun v3 => (am_rI M v2 13 v3).bind fun v4 => if ¬ v4 = 59 then am_X cal k_Text_countClauses 28 [(0, .ref x0), (2, .int x2)] [.int x1] M else am_X cal k_Text_countClauses 29 [(0, .ref x0), (2, .int x2)] [.int 1, .int x1] M := (am_X_eq cal k_Text_countClauses 4 _ _ M).trans rfl
theorem e_Text_countClauses_28 (cal : aY) (x0 : Nat) (x2 : Int32) (s0 : Int32) (M : aM) : am_X cal k_Text_countClauses 28 [(0, .ref x0), (2, .int x2)] [.int s0] M = am_X cal k_Text_countClauses 29 [(0, .ref x0), (2, .int x2)] [.int 0, .int s0] M := (am_X_eq cal k_Text_countClauses 28 _ _ M).trans rfl
theorem e_Text_countClauses_29 (cal : aY) (x0 : Nat) (x2 : Int32) (s0 : Int32) (s1 : Int32) (M : aM) : am_X cal k_Text_countClauses 29 [(0, .ref x0), (2, .int x2)] [.int s0, .int s1] M = am_X cal k_Text_countClauses 4 [(0, .ref x0), (1, .int (s1 + s0)), (2, .int (x2 + 1))] [] M := (am_X_eq cal k_Text_countClauses 29 _ _ M).trans rfl
theorem e_Text_countClauses_37 (cal : aY) (x1 : Int32) (M : aM) : am_X cal k_Text_countClauses 37 [(1, .int x1)] [] M = some (.inl (some (.int x1)), M) := (am_X_eq cal k_Text_countClauses 37 _ _ M).trans rfl
theorem y_Text_copyFrom (d : Nat) (a0 : Nat) (a1 : Nat) (M : aM) : am_Y (d + 1) 59 [.ref a0, .ref a1] M = am_X (am_Y d) k_Text_copyFrom 0 [(0, .ref a0), (1, .ref a1)] [] M := rfl
theorem e_Text_copyFrom_0 (cal : aY) (x0 : Nat) (x1 : Nat) (M : aM) : am_X cal k_Text_copyFrom 0 [(0, .ref x0), (1, .ref x1)] [] M = (am_rA M x1 6 0).bind fun v1 => (am_rA M x0 6 0).bind fun v2 => if 0 = 0 ∧ 0 = 0 then (am_ix 60).bind fun v3 => (am_cp M 13 v1 v2 v3).bind fun M4 => (am_rI M4 x1 6 1).bind fun v5 => (am_wr M4 x0 6 1 (.int v5)).bind fun M6 => some (.inl none, M6) else none := (am_X_eq cal k_Text_copyFrom 0 _ _ M).trans rfl
theorem y_World_init (d : Nat) (a0 : Nat) (M : aM) : am_Y (d + 1) 60 [.ref a0] M = am_X (am_Y d) k_World_init 0 [(0, .ref a0)] [] M := rfl
theorem e_World_init_0 (cal : aY) (x0 : Nat) (M : aM) : am_X cal k_World_init 0 [(0, .ref x0)] [] M = (am_ix 3).bind fun v1 => bif Nat.ble v1 1000 then (am_wr (am_nw M 14 (List.replicate v1 .null)) x0 7 0 (.ref M.1.length)).bind fun M2 => (am_ix 3).bind fun v3 => bif Nat.ble v3 1000 then (am_wr (am_nw M2 12 (List.replicate v3 (am_dv 12))) x0 7 1 (.ref M2.1.length)).bind fun M4 => am_X cal k_World_init 21 [(0, .ref x0), (1, .int 0)] [] M4 else none else none := (am_X_eq cal k_World_init 0 _ _ M).trans rfl
theorem e_World_init_21 (cal : aY) (x0 : Nat) (x1 : Int32) (M : aM) : am_X cal k_World_init 21 [(0, .ref x0), (1, .int x1)] [] M = if 3 ≤ x1 then am_X cal k_World_init 52 [(0, .ref x0)] [] M else (am_rA M x0 7 0).bind fun v1 => am_cV (cal 56 [.ref M.1.length] (am_nw M 6 (am_df 6))) (fun M2 => (am_ln M2 M.1.length 6).bind fun _ => (am_ix x1).bind fun v4 => (am_wr M2 v1 14 v4 (.ref M.1.length)).bind fun M5 => (am_rA M5 x0 7 1).bind fun v6 => (am_ix x1).bind fun v7 => (am_wr M5 v6 12 v7 (.int (1 &&& 1))).bind fun M8 => am_X cal k_World_init 21 [(0, .ref x0), (1, .int (x1 + 1))] [] M8) (fun v3 M2 => none) := (am_X_eq cal k_World_init 21 _ _ M).trans rfl
theorem e_World_init_52 (cal : aY) (x0 : Nat) (M : aM) : am_X cal k_World_init 52 [(0, .ref x0)] [] M = (am_ix 6).bind fun v1 => bif Nat.ble v1 1000 then (am_wr (am_nw M 15 (List.replicate v1 .null)) x0 7 2 (.ref M.1.length)).bind fun M2 => am_X cal k_World_init 63 [(0, .ref x0), (1, .int 0)] [] M2 else none := (am_X_eq cal k_World_init 52 _ _ M).trans rfl
theorem e_World_init_63 (cal : aY) (x0 : Nat) (x1 : Int32) (M : aM) : am_X cal k_World_init 63 [(0, .ref x0), (1, .int x1)] [] M = if 6 ≤ x1 then am_X cal k_World_init 88 [(0, .ref x0)] [] M else (am_rA M x0 7 2).bind fun v1 => am_cV (cal 0 [.ref M.1.length] (am_nw M 0 (am_df 0))) (fun M2 => (am_ln M2 M.1.length 0).bind fun _ => (am_ix x1).bind fun v4 => (am_wr M2 v1 15 v4 (.ref M.1.length)).bind fun M5 => am_X cal k_World_init 63 [(0, .ref x0), (1, .int (x1 + 1))] [] M5) (fun v3 M2 => none) := (am_X_eq cal k_World_init 63 _ _ M).trans rfl
theorem e_World_init_88 (cal : aY) (x0 : Nat) (M : aM) : am_X cal k_World_init 88 [(0, .ref x0)] [] M = (am_ix 42).bind fun v1 => bif Nat.ble v1 1000 then (am_wr (am_nw M 16 (List.replicate v1 .null)) x0 7 3 (.ref M.1.length)).bind fun M2 => am_X cal k_World_init 99 [(0, .ref x0), (1, .int 0)] [] M2 else none := (am_X_eq cal k_World_init 88 _ _ M).trans rfl
theorem e_World_init_99 (cal : aY) (x0 : Nat) (x1 : Int32) (M : aM) : am_X cal k_World_init 99 [(0, .ref x0), (1, .int x1)] [] M = (am_rA M x0 7 3).bind fun v1 => (am_ln M v1 16).bind fun v2 => if nI v2 ≤ x1 then am_X cal k_World_init 129 [] [] M else (am_rA M x0 7 3).bind fun v3 => am_cV (cal 30 [.ref M.1.length, .int 8] (am_nw M 4 (am_df 4))) (fun M4 => (am_ln M4 M.1.length 4).bind fun _ => (am_ix x1).bind fun v6 => (am_wr M4 v3 16 v6 (.ref M.1.length)).bind fun M7 => am_X cal k_World_init 99 [(0, .ref x0), (1, .int (x1 + 1))] [] M7) (fun v5 M4 => none) := (am_X_eq cal k_World_init 99 _ _ M).trans rfl
theorem e_World_init_129 (cal : aY)  (M : aM) : am_X cal k_World_init 129 [] [] M = some (.inl none, M) := (am_X_eq cal k_World_init 129 _ _ M).trans rfl
theorem y_World_make (d : Nat) (a0 : Nat) (a1 : Int32) (a2 : Int64) (M : aM) : am_Y (d + 1) 61 [.ref a0, .int a1, .long a2] M = am_X (am_Y d) k_World_make 0 [(0, .ref a0), (1, .int a1), (2, .long a2)] [] M := rfl
theorem e_World_make_0 (cal : aY) (x0 : Nat) (x1 : Int32) (x2 : Int64) (M : aM) : am_X cal k_World_make 0 [(0, .ref x0), (1, .int x1), (2, .long x2)] [] M = (am_rA M x0 7 1).bind fun v1 => (am_ix x1).bind fun v2 => (am_rI M v1 12 v2).bind fun v3 => if ¬ v3 = 0 then am_X cal k_World_make 11 [(0, .ref x0), (1, .int x1), (2, .long x2)] [] M else some (.inl (some (.int (-1))), M) := (am_X_eq cal k_World_make 0 _ _ M).trans rfl
theorem e_World_make_11 (cal : aY) (x0 : Nat) (x1 : Int32) (x2 : Int64) (M : aM) : am_X cal k_World_make 11 [(0, .ref x0), (1, .int x1), (2, .long x2)] [] M = am_X cal k_World_make 14 [(0, .ref x0), (1, .int x1), (2, .long x2), (4, .int 0)] [] M := (am_X_eq cal k_World_make 11 _ _ M).trans rfl
theorem e_World_make_14 (cal : aY) (x0 : Nat) (x1 : Int32) (x2 : Int64) (x4 : Int32) (M : aM) : am_X cal k_World_make 14 [(0, .ref x0), (1, .int x1), (2, .long x2), (4, .int x4)] [] M = if 6 ≤ x4 then am_X cal k_World_make 60 [] [] M else (am_rA M x0 7 2).bind fun v1 => (am_ix x4).bind fun v2 => (am_rA M v1 15 v2).bind fun v3 => (am_rI M v3 0 2).bind fun v4 => if ¬ v4 = 0 then am_X cal k_World_make 54 [(0, .ref x0), (1, .int x1), (2, .long x2), (4, .int x4)] [] M else (am_rA M x0 7 2).bind fun v5 => (am_ix x4).bind fun v6 => (am_rA M v5 15 v6).bind fun v7 => (am_rA M x0 7 0).bind fun v8 => (am_ix x1).bind fun v9 => (am_rA M v8 14 v9).bind fun v10 => (am_ln M v7 0).bind fun _ => am_cV (cal 1 [.ref v7, .ref v10, .long x2] M) (fun M11 => some (.inl (some (.int x4)), M11)) (fun v12 M11 => some (.inr v12, M11)) := (am_X_eq cal k_World_make 14 _ _ M).trans rfl
theorem e_World_make_54 (cal : aY) (x0 : Nat) (x1 : Int32) (x2 : Int64) (x4 : Int32) (M : aM) : am_X cal k_World_make 54 [(0, .ref x0), (1, .int x1), (2, .long x2), (4, .int x4)] [] M = am_X cal k_World_make 14 [(0, .ref x0), (1, .int x1), (2, .long x2), (4, .int (x4 + 1))] [] M := (am_X_eq cal k_World_make 54 _ _ M).trans rfl
theorem e_World_make_60 (cal : aY)  (M : aM) : am_X cal k_World_make 60 [] [] M = some (.inl (some (.int (-1))), M) := (am_X_eq cal k_World_make 60 _ _ M).trans rfl
theorem y_World_way (d : Nat) (a0 : Nat) (a1 : Int32) (a2 : Int32) (M : aM) : am_Y (d + 1) 62 [.ref a0, .int a1, .int a2] M = am_X (am_Y d) k_World_way 0 [(0, .ref a0), (1, .int a1), (2, .int a2)] [] M := rfl
theorem e_World_way_0 (cal : aY) (x0 : Nat) (x1 : Int32) (x2 : Int32) (M : aM) : am_X cal k_World_way 0 [(0, .ref x0), (1, .int x1), (2, .int x2)] [] M = (am_rA M x0 7 3).bind fun v1 => (am_ix ((x1 * 6) + x2)).bind fun v2 => (am_rA M v1 16 v2).bind fun v3 => some (.inl (some (.ref v3)), M) := (am_X_eq cal k_World_way 0 _ _ M).trans rfl
theorem y_World_end (d : Nat) (a0 : Nat) (a1 : Int32) (a2 : Int32) (M : aM) : am_Y (d + 1) 63 [.ref a0, .int a1, .int a2] M = am_X (am_Y d) k_World_end 0 [(0, .ref a0), (1, .int a1), (2, .int a2)] [] M := rfl
theorem e_World_end_0 (cal : aY) (x0 : Nat) (x1 : Int32) (x2 : Int32) (M : aM) : am_X cal k_World_end 0 [(0, .ref x0), (1, .int x1), (2, .int x2)] [] M = (am_rA M x0 7 2).bind fun v1 => (am_ix x1).bind fun v2 => (am_rA M v1 15 v2).bind fun v3 => (am_rI M v3 0 5).bind fun v4 => (am_rA M x0 7 2).bind fun v5 => (am_ix x1).bind fun v6 => (am_rA M v5 15 v6).bind fun v7 => (am_ln M v7 0).bind fun _ => am_cV (cal 2 [.ref v7, .int x2] M) (fun M8 => am_X cal k_World_end 23 [(0, .ref x0), (1, .int x1), (2, .int x2), (3, .int v4), (4, .int 0)] [] M8) (fun v9 M8 => some (.inr v9, M8)) := (am_X_eq cal k_World_end 0 _ _ M).trans rfl
theorem e_World_end_23 (cal : aY) (x0 : Nat) (x1 : Int32) (x2 : Int32) (x3 : Int32) (x4 : Int32) (M : aM) : am_X cal k_World_end 23 [(0, .ref x0), (1, .int x1), (2, .int x2), (3, .int x3), (4, .int x4)] [] M = if 6 ≤ x4 then am_X cal k_World_end 79 [] [] M else if (x3 >>> (x4 &&& 31)) &&& 1 = 0 then am_X cal k_World_end 73 [(0, .ref x0), (1, .int x1), (2, .int x2), (3, .int x3), (4, .int x4)] [] M else (am_ln M x0 7).bind fun _ => am_cA (cal 62 [.ref x0, .int x1, .int x4] M) (fun v3 M1 => am_cJ (cal 49 [.int x2] M1) (fun v6 M4 => (am_ln M4 v3 4).bind fun _ => am_cV (cal 31 [.ref v3, .long v6] M4) (fun M7 => (am_rA M7 x0 7 2).bind fun v9 => (am_ix x4).bind fun v10 => (am_rA M7 v9 15 v10).bind fun v11 => (am_rI M7 v11 0 5).bind fun v12 => (am_wr M7 v11 0 5 (.int (v12 &&& ((1 <<< (x1 &&& 31)) ^^^ (-1))))).bind fun M13 => am_X cal k_World_end 73 [(0, .ref x0), (1, .int x1), (2, .int x2), (3, .int x3), (4, .int x4)] [] M13) (fun v8 M7 => some (.inr v8, M7))) (fun v5 M4 => some (.inr v5, M4))) (fun v2 M1 => some (.inr v2, M1)) := (am_X_eq cal k_World_end 23 _ _ M).trans rfl
theorem e_World_end_73 (cal : aY) (x0 : Nat) (x1 : Int32) (x2 : Int32) (x3 : Int32) (x4 : Int32) (M : aM) : am_X cal k_World_end 73 [(0, .ref x0), (1, .int x1), (2, .int x2), (3, .int x3), (4, .int x4)] [] M = am_X cal k_World_end 23 [(0, .ref x0), (1, .int x1), (2, .int x2), (3, .int x3), (4, .int (x4 + 1))] [] M := (am_X_eq cal k_World_end 73 _ _ M).trans rfl
theorem e_World_end_79 (cal : aY)  (M : aM) : am_X cal k_World_end 79 [] [] M = some (.inl none, M) := (am_X_eq cal k_World_end 79 _ _ M).trans rfl
theorem y_World_link (d : Nat) (a0 : Nat) (a1 : Int32) (a2 : Int32) (M : aM) : am_Y (d + 1) 64 [.ref a0, .int a1, .int a2] M = am_X (am_Y d) k_World_link 0 [(0, .ref a0), (1, .int a1), (2, .int a2)] [] M := rfl
theorem e_World_link_0 (cal : aY) (x0 : Nat) (x1 : Int32) (x2 : Int32) (M : aM) : am_X cal k_World_link 0 [(0, .ref x0), (1, .int x1), (2, .int x2)] [] M = if x1 = x2 then am_X cal k_World_link 52 [] [] M else (am_rA M x0 7 2).bind fun v1 => (am_ix x2).bind fun v2 => (am_rA M v1 15 v2).bind fun v3 => (am_rI M v3 0 2).bind fun v4 => if ¬ v4 = 1 then am_X cal k_World_link 52 [] [] M else (am_rA M x0 7 2).bind fun v5 => (am_ix x1).bind fun v6 => (am_rA M v5 15 v6).bind fun v7 => (am_rI M v7 0 5).bind fun v8 => (am_wr M v7 0 5 (.int (v8 ||| (1 <<< (x2 &&& 31))))).bind fun M9 => (am_rA M9 x0 7 2).bind fun v10 => (am_ix x2).bind fun v11 => (am_rA M9 v10 15 v11).bind fun v12 => (am_rI M9 v12 0 5).bind fun v13 => (am_wr M9 v12 0 5 (.int (v13 ||| (1 <<< (x1 &&& 31))))).bind fun M14 => am_X cal k_World_link 52 [] [] M14 := (am_X_eq cal k_World_link 0 _ _ M).trans rfl
theorem e_World_link_52 (cal : aY)  (M : aM) : am_X cal k_World_link 52 [] [] M = some (.inl none, M) := (am_X_eq cal k_World_link 52 _ _ M).trans rfl
theorem y_World_countFree (d : Nat) (a0 : Nat) (M : aM) : am_Y (d + 1) 65 [.ref a0] M = am_X (am_Y d) k_World_countFree 0 [(0, .ref a0)] [] M := rfl
theorem e_World_countFree_0 (cal : aY) (x0 : Nat) (M : aM) : am_X cal k_World_countFree 0 [(0, .ref x0)] [] M = am_X cal k_World_countFree 4 [(0, .ref x0), (1, .int 0), (2, .int 0)] [] M := (am_X_eq cal k_World_countFree 0 _ _ M).trans rfl
theorem e_World_countFree_4 (cal : aY) (x0 : Nat) (x1 : Int32) (x2 : Int32) (M : aM) : am_X cal k_World_countFree 4 [(0, .ref x0), (1, .int x1), (2, .int x2)] [] M = if 6 ≤ x2 then am_X cal k_World_countFree 36 [(1, .int x1)] [] M else (am_rA M x0 7 2).bind fun v1 => (am_ix x2).bind fun v2 => (am_rA M v1 15 v2).bind fun v3 => (am_rI M v3 0 2).bind fun v4 => if ¬ v4 = 0 then am_X cal k_World_countFree 27 [(0, .ref x0), (2, .int x2)] [.int x1] M else am_X cal k_World_countFree 28 [(0, .ref x0), (2, .int x2)] [.int 1, .int x1] M := (am_X_eq cal k_World_countFree 4 _ _ M).trans rfl
theorem e_World_countFree_27 (cal : aY) (x0 : Nat) (x2 : Int32) (s0 : Int32) (M : aM) : am_X cal k_World_countFree 27 [(0, .ref x0), (2, .int x2)] [.int s0] M = am_X cal k_World_countFree 28 [(0, .ref x0), (2, .int x2)] [.int 0, .int s0] M := (am_X_eq cal k_World_countFree 27 _ _ M).trans rfl
theorem e_World_countFree_28 (cal : aY) (x0 : Nat) (x2 : Int32) (s0 : Int32) (s1 : Int32) (M : aM) : am_X cal k_World_countFree 28 [(0, .ref x0), (2, .int x2)] [.int s0, .int s1] M = am_X cal k_World_countFree 4 [(0, .ref x0), (1, .int (s1 + s0)), (2, .int (x2 + 1))] [] M := (am_X_eq cal k_World_countFree 28 _ _ M).trans rfl
theorem e_World_countFree_36 (cal : aY) (x1 : Int32) (M : aM) : am_X cal k_World_countFree 36 [(1, .int x1)] [] M = some (.inl (some (.int x1)), M) := (am_X_eq cal k_World_countFree 36 _ _ M).trans rfl
theorem y_AM_init (d : Nat) (a0 : Nat) (M : aM) : am_Y (d + 1) 66 [.ref a0] M = am_X (am_Y d) k_AM_init 0 [(0, .ref a0)] [] M := rfl
theorem e_AM_init_0 (cal : aY) (x0 : Nat) (M : aM) : am_X cal k_AM_init 0 [(0, .ref x0)] [] M = am_cV (cal 60 [.ref M.1.length] (am_nw M 7 (am_df 7))) (fun M1 => (am_wr M1 x0 8 0 (.ref M.1.length)).bind fun M3 => am_cV (cal 13 [.ref M3.1.length] (am_nw M3 2 (am_df 2))) (fun M4 => (am_wr M4 x0 8 1 (.ref M3.1.length)).bind fun M6 => (am_rA (am_nw M6 5 (am_df 5)) x0 8 0).bind fun v7 => am_cV (cal 34 [.ref M6.1.length, .ref v7] (am_nw M6 5 (am_df 5))) (fun M8 => (am_wr M8 x0 8 2 (.ref M6.1.length)).bind fun M10 => some (.inl none, M10)) (fun v9 M8 => none)) (fun v5 M4 => none)) (fun v2 M1 => none) := (am_X_eq cal k_AM_init 0 _ _ M).trans rfl
theorem y_AM_type (d : Nat) (a0 : Nat) (a1 : Int32) (a2 : Int64) (M : aM) : am_Y (d + 1) 67 [.ref a0, .int a1, .long a2] M = am_X (am_Y d) k_AM_type 0 [(0, .ref a0), (1, .int a1), (2, .long a2)] [] M := rfl
theorem e_AM_type_0 (cal : aY) (x0 : Nat) (x1 : Int32) (x2 : Int64) (M : aM) : am_X cal k_AM_type 0 [(0, .ref x0), (1, .int x1), (2, .long x2)] [] M = am_cV (cal 68 [.int x1, .int 0, .int 2] M) (fun M1 => am_cI (cal 69 [.long x2] M1) (fun v5 M3 => am_cV (cal 68 [.int v5, .int 0, .int 8] M3) (fun M6 => (am_rA M6 x0 8 0).bind fun v8 => (am_rA M6 v8 7 0).bind fun v9 => (am_ix x1).bind fun v10 => (am_rA M6 v9 14 v10).bind fun v11 => (am_rI M6 v11 6 1).bind fun v12 => if v12 + v5 ≤ 60 then am_X cal k_AM_type 54 [(0, .ref x0), (1, .int x1), (2, .long x2), (5, .ref v11)] [] M6 else some (.inr 0, am_tk M6 1 6)) (fun v7 M6 => some (.inr v7, M6))) (fun v4 M3 => some (.inr v4, M3))) (fun v2 M1 => some (.inr v2, M1)) := (am_X_eq cal k_AM_type 0 _ _ M).trans rfl
theorem e_AM_type_54 (cal : aY) (x0 : Nat) (x1 : Int32) (x2 : Int64) (x5 : Nat) (M : aM) : am_X cal k_AM_type 54 [(0, .ref x0), (1, .int x1), (2, .long x2), (5, .ref x5)] [] M = am_X cal k_AM_type 57 [(0, .ref x0), (1, .int x1), (2, .long x2), (5, .ref x5), (6, .int 0)] [] M := (am_X_eq cal k_AM_type 54 _ _ M).trans rfl
theorem e_AM_type_57 (cal : aY) (x0 : Nat) (x1 : Int32) (x2 : Int64) (x5 : Nat) (x6 : Int32) (M : aM) : am_X cal k_AM_type 57 [(0, .ref x0), (1, .int x1), (2, .long x2), (5, .ref x5), (6, .int x6)] [] M = if 8 ≤ x6 then am_X cal k_AM_type 91 [(0, .ref x0), (1, .int x1), (5, .ref x5)] [] M else am_cI (cal 70 [.long x2, .int x6] M) (fun v3 M1 => if v3 = 0 then am_X cal k_AM_type 85 [(0, .ref x0), (1, .int x1), (2, .long x2), (5, .ref x5), (6, .int x6)] [] M1 else (am_ln M1 x5 6).bind fun _ => am_cV (cal 57 [.ref x5, .int ((Int32.toUInt32 v3 % 65536).toInt32)] M1) (fun M4 => am_X cal k_AM_type 85 [(0, .ref x0), (1, .int x1), (2, .long x2), (5, .ref x5), (6, .int x6)] [] M4) (fun v5 M4 => some (.inr v5, M4))) (fun v2 M1 => some (.inr v2, M1)) := (am_X_eq cal k_AM_type 57 _ _ M).trans rfl
theorem e_AM_type_85 (cal : aY) (x0 : Nat) (x1 : Int32) (x2 : Int64) (x5 : Nat) (x6 : Int32) (M : aM) : am_X cal k_AM_type 85 [(0, .ref x0), (1, .int x1), (2, .long x2), (5, .ref x5), (6, .int x6)] [] M = am_X cal k_AM_type 57 [(0, .ref x0), (1, .int x1), (2, .long x2), (5, .ref x5), (6, .int (x6 + 1))] [] M := (am_X_eq cal k_AM_type 85 _ _ M).trans rfl
theorem e_AM_type_91 (cal : aY) (x0 : Nat) (x1 : Int32) (x5 : Nat) (M : aM) : am_X cal k_AM_type 91 [(0, .ref x0), (1, .int x1), (5, .ref x5)] [] M = (am_rA M x0 8 0).bind fun v1 => (am_rA M v1 7 1).bind fun v2 => (am_ix x1).bind fun v3 => (am_wr M v2 12 v3 (.int (0 &&& 1))).bind fun M4 => (am_rI M4 x5 6 1).bind fun v5 => some (.inl (some (.int v5)), M4) := (am_X_eq cal k_AM_type 91 _ _ M).trans rfl
theorem y_AM_needRange (d : Nat) (a0 : Int32) (a1 : Int32) (a2 : Int32) (M : aM) : am_Y (d + 1) 68 [.int a0, .int a1, .int a2] M = am_X (am_Y d) k_AM_needRange 0 [(0, .int a0), (1, .int a1), (2, .int a2)] [] M := rfl
theorem e_AM_needRange_0 (cal : aY) (x0 : Int32) (x1 : Int32) (x2 : Int32) (M : aM) : am_X cal k_AM_needRange 0 [(0, .int x0), (1, .int x1), (2, .int x2)] [] M = if x0 < x1 then am_X cal k_AM_needRange 10 [] [] M else if x0 ≤ x2 then am_X cal k_AM_needRange 20 [] [] M else am_X cal k_AM_needRange 10 [] [] M := (am_X_eq cal k_AM_needRange 0 _ _ M).trans rfl
theorem e_AM_needRange_10 (cal : aY)  (M : aM) : am_X cal k_AM_needRange 10 [] [] M = some (.inr 1, am_tk M 1 6) := (am_X_eq cal k_AM_needRange 10 _ _ M).trans rfl
theorem e_AM_needRange_20 (cal : aY)  (M : aM) : am_X cal k_AM_needRange 20 [] [] M = some (.inl none, M) := (am_X_eq cal k_AM_needRange 20 _ _ M).trans rfl
theorem y_AM_countSigns (d : Nat) (a0 : Int64) (M : aM) : am_Y (d + 1) 69 [.long a0] M = am_X (am_Y d) k_AM_countSigns 0 [(0, .long a0)] [] M := rfl
theorem e_AM_countSigns_0 (cal : aY) (x0 : Int64) (M : aM) : am_X cal k_AM_countSigns 0 [(0, .long x0)] [] M = am_X cal k_AM_countSigns 4 [(0, .long x0), (2, .int 0), (3, .int 0)] [] M := (am_X_eq cal k_AM_countSigns 0 _ _ M).trans rfl
theorem e_AM_countSigns_4 (cal : aY) (x0 : Int64) (x2 : Int32) (x3 : Int32) (M : aM) : am_X cal k_AM_countSigns 4 [(0, .long x0), (2, .int x2), (3, .int x3)] [] M = if 8 ≤ x3 then am_X cal k_AM_countSigns 57 [(2, .int x2)] [] M else am_cI (cal 70 [.long x0, .int x3] M) (fun v3 M1 => if v3 = 0 then am_X cal k_AM_countSigns 38 [(0, .long x0), (2, .int x2), (3, .int x3), (4, .int v3)] [] M1 else if v3 < 33 then am_X cal k_AM_countSigns 36 [] [] M1 else if v3 ≤ 126 then am_X cal k_AM_countSigns 38 [(0, .long x0), (2, .int x2), (3, .int x3), (4, .int v3)] [] M1 else am_X cal k_AM_countSigns 36 [] [] M1) (fun v2 M1 => some (.inr v2, M1)) := (am_X_eq cal k_AM_countSigns 4 _ _ M).trans rfl
theorem e_AM_countSigns_36 (cal : aY)  (M : aM) : am_X cal k_AM_countSigns 36 [] [] M = some (.inl (some (.int (-1))), M) := (am_X_eq cal k_AM_countSigns 36 _ _ M).trans rfl
theorem e_AM_countSigns_38 (cal : aY) (x0 : Int64) (x2 : Int32) (x3 : Int32) (x4 : Int32) (M : aM) : am_X cal k_AM_countSigns 38 [(0, .long x0), (2, .int x2), (3, .int x3), (4, .int x4)] [] M = if ¬ x4 = 0 then am_X cal k_AM_countSigns 48 [(0, .long x0), (3, .int x3)] [.int x2] M else am_X cal k_AM_countSigns 49 [(0, .long x0), (3, .int x3)] [.int 0, .int x2] M := (am_X_eq cal k_AM_countSigns 38 _ _ M).trans rfl
theorem e_AM_countSigns_48 (cal : aY) (x0 : Int64) (x3 : Int32) (s0 : Int32) (M : aM) : am_X cal k_AM_countSigns 48 [(0, .long x0), (3, .int x3)] [.int s0] M = am_X cal k_AM_countSigns 49 [(0, .long x0), (3, .int x3)] [.int 1, .int s0] M := (am_X_eq cal k_AM_countSigns 48 _ _ M).trans rfl
theorem e_AM_countSigns_49 (cal : aY) (x0 : Int64) (x3 : Int32) (s0 : Int32) (s1 : Int32) (M : aM) : am_X cal k_AM_countSigns 49 [(0, .long x0), (3, .int x3)] [.int s0, .int s1] M = am_X cal k_AM_countSigns 4 [(0, .long x0), (2, .int (s1 + s0)), (3, .int (x3 + 1))] [] M := (am_X_eq cal k_AM_countSigns 49 _ _ M).trans rfl
theorem e_AM_countSigns_57 (cal : aY) (x2 : Int32) (M : aM) : am_X cal k_AM_countSigns 57 [(2, .int x2)] [] M = some (.inl (some (.int x2)), M) := (am_X_eq cal k_AM_countSigns 57 _ _ M).trans rfl
theorem y_AM_byteAt (d : Nat) (a0 : Int64) (a1 : Int32) (M : aM) : am_Y (d + 1) 70 [.long a0, .int a1] M = am_X (am_Y d) k_AM_byteAt 0 [(0, .long a0), (2, .int a1)] [] M := rfl
theorem e_AM_byteAt_0 (cal : aY) (x0 : Int64) (x2 : Int32) (M : aM) : am_X cal k_AM_byteAt 0 [(0, .long x0), (2, .int x2)] [] M = some (.inl (some (.int ((Int64.toInt32 ((Int64.toUInt64 x0 >>> ((Int32.toInt64 (8 * (7 - x2))).toUInt64 &&& Int64.toUInt64 63)).toInt64)) &&& 255))), M) := (am_X_eq cal k_AM_byteAt 0 _ _ M).trans rfl
theorem y_AM_clear (d : Nat) (a0 : Nat) (a1 : Int32) (M : aM) : am_Y (d + 1) 71 [.ref a0, .int a1] M = am_X (am_Y d) k_AM_clear 0 [(0, .ref a0), (1, .int a1)] [] M := rfl
theorem e_AM_clear_0 (cal : aY) (x0 : Nat) (x1 : Int32) (M : aM) : am_X cal k_AM_clear 0 [(0, .ref x0), (1, .int x1)] [] M = am_cV (cal 68 [.int x1, .int 0, .int 2] M) (fun M1 => (am_rA M1 x0 8 0).bind fun v3 => (am_rA M1 v3 7 0).bind fun v4 => (am_ix x1).bind fun v5 => (am_rA M1 v4 14 v5).bind fun v6 => (am_rI M1 v6 6 1).bind fun v7 => (am_wr M1 v6 6 1 (.int 0)).bind fun M8 => (am_rA M8 x0 8 0).bind fun v9 => (am_rA M8 v9 7 1).bind fun v10 => (am_ix x1).bind fun v11 => (am_wr M8 v10 12 v11 (.int (1 &&& 1))).bind fun M12 => some (.inl (some (.int v7)), M12)) (fun v2 M1 => some (.inr v2, M1)) := (am_X_eq cal k_AM_clear 0 _ _ M).trans rfl
theorem y_AM_check (d : Nat) (a0 : Nat) (a1 : Int32) (M : aM) : am_Y (d + 1) 72 [.ref a0, .int a1] M = am_X (am_Y d) k_AM_check 0 [(0, .ref a0), (1, .int a1)] [] M := rfl
theorem e_AM_check_0 (cal : aY) (x0 : Nat) (x1 : Int32) (M : aM) : am_X cal k_AM_check 0 [(0, .ref x0), (1, .int x1)] [] M = am_cV (cal 68 [.int x1, .int 0, .int 2] M) (fun M1 => (am_rA M1 x0 8 0).bind fun v3 => (am_rA M1 v3 7 0).bind fun v4 => (am_ix x1).bind fun v5 => (am_rA M1 v4 14 v5).bind fun v6 => (am_rA M1 x0 8 1).bind fun v7 => (am_ln M1 v7 2).bind fun _ => am_cI (cal 14 [.ref v7, .ref v6] M1) (fun v10 M8 => if v10 = (-2) then am_X cal k_AM_check 39 [(0, .ref x0), (1, .int x1), (2, .ref v6)] [] M8 else some (.inr 4, am_tk M8 1 6)) (fun v9 M8 => some (.inr v9, M8))) (fun v2 M1 => some (.inr v2, M1)) := (am_X_eq cal k_AM_check 0 _ _ M).trans rfl
theorem e_AM_check_39 (cal : aY) (x0 : Nat) (x1 : Int32) (x2 : Nat) (M : aM) : am_X cal k_AM_check 39 [(0, .ref x0), (1, .int x1), (2, .ref x2)] [] M = (am_rA M x0 8 0).bind fun v1 => (am_rA M v1 7 1).bind fun v2 => (am_ix x1).bind fun v3 => (am_wr M v2 12 v3 (.int (1 &&& 1))).bind fun M4 => (am_ln M4 x2 6).bind fun _ => am_cI (cal 58 [.ref x2] M4) (fun v7 M5 => some (.inl (some (.int v7)), M5)) (fun v6 M5 => some (.inr v6, M5)) := (am_X_eq cal k_AM_check 39 _ _ M).trans rfl
theorem y_AM_fault (d : Nat) (a0 : Nat) (a1 : Int32) (M : aM) : am_Y (d + 1) 73 [.ref a0, .int a1] M = am_X (am_Y d) k_AM_fault 0 [(0, .ref a0), (1, .int a1)] [] M := rfl
theorem e_AM_fault_0 (cal : aY) (x0 : Nat) (x1 : Int32) (M : aM) : am_X cal k_AM_fault 0 [(0, .ref x0), (1, .int x1)] [] M = am_cV (cal 68 [.int x1, .int 0, .int 2] M) (fun M1 => (am_rA M1 x0 8 1).bind fun v3 => (am_rA M1 x0 8 0).bind fun v4 => (am_rA M1 v4 7 0).bind fun v5 => (am_ix x1).bind fun v6 => (am_rA M1 v5 14 v6).bind fun v7 => (am_ln M1 v3 2).bind fun _ => am_cI (cal 14 [.ref v3, .ref v7] M1) (fun v10 M8 => some (.inl (some (.int v10)), M8)) (fun v9 M8 => some (.inr v9, M8))) (fun v2 M1 => some (.inr v2, M1)) := (am_X_eq cal k_AM_fault 0 _ _ M).trans rfl
theorem y_AM_spawn (d : Nat) (a0 : Nat) (a1 : Int32) (a2 : Int32) (M : aM) : am_Y (d + 1) 74 [.ref a0, .int a1, .int a2] M = am_X (am_Y d) k_AM_spawn 0 [(0, .ref a0), (1, .int a1), (2, .int a2)] [] M := rfl
theorem e_AM_spawn_0 (cal : aY) (x0 : Nat) (x1 : Int32) (x2 : Int32) (M : aM) : am_X cal k_AM_spawn 0 [(0, .ref x0), (1, .int x1), (2, .int x2)] [] M = am_cV (cal 68 [.int x1, .int 0, .int 2] M) (fun M1 => am_cV (cal 68 [.int x2, .int (-999), .int 999] M1) (fun M3 => (am_rA M3 x0 8 0).bind fun v5 => am_cJ (cal 42 [.int x2] M3) (fun v8 M6 => (am_ln M6 v5 7).bind fun _ => am_cI (cal 61 [.ref v5, .int x1, .long v8] M6) (fun v11 M9 => if 0 ≤ v11 then am_X cal k_AM_spawn 43 [(3, .int v11)] [] M9 else some (.inr 0, am_tk M9 1 6)) (fun v10 M9 => some (.inr v10, M9))) (fun v7 M6 => some (.inr v7, M6))) (fun v4 M3 => some (.inr v4, M3))) (fun v2 M1 => some (.inr v2, M1)) := (am_X_eq cal k_AM_spawn 0 _ _ M).trans rfl
theorem e_AM_spawn_43 (cal : aY) (x3 : Int32) (M : aM) : am_X cal k_AM_spawn 43 [(3, .int x3)] [] M = some (.inl (some (.int x3)), M) := (am_X_eq cal k_AM_spawn 43 _ _ M).trans rfl
theorem y_AM_send (d : Nat) (a0 : Nat) (a1 : Int32) (a2 : Int32) (a3 : Int32) (a4 : Int32) (M : aM) : am_Y (d + 1) 75 [.ref a0, .int a1, .int a2, .int a3, .int a4] M = am_X (am_Y d) k_AM_send 0 [(0, .ref a0), (1, .int a1), (2, .int a2), (3, .int a3), (4, .int a4)] [] M := rfl
theorem e_AM_send_0 (cal : aY) (x0 : Nat) (x1 : Int32) (x2 : Int32) (x3 : Int32) (x4 : Int32) (M : aM) : am_X cal k_AM_send 0 [(0, .ref x0), (1, .int x1), (2, .int x2), (3, .int x3), (4, .int x4)] [] M = am_cV (cal 68 [.int x1, .int 0, .int 5] M) (fun M1 => am_cV (cal 68 [.int x2, .int 0, .int 3] M1) (fun M3 => if ¬ x2 = 1 then am_X cal k_AM_send 22 [(0, .ref x0), (1, .int x1), (2, .int x2), (3, .int x3), (4, .int x4)] [.int x3] M3 else am_X cal k_AM_send 25 [(0, .ref x0), (1, .int x1), (2, .int x2), (3, .int x3), (4, .int x4)] [.int 0, .int x3] M3) (fun v4 M3 => some (.inr v4, M3))) (fun v2 M1 => some (.inr v2, M1)) := (am_X_eq cal k_AM_send 0 _ _ M).trans rfl
theorem e_AM_send_22 (cal : aY) (x0 : Nat) (x1 : Int32) (x2 : Int32) (x3 : Int32) (x4 : Int32) (s0 : Int32) (M : aM) : am_X cal k_AM_send 22 [(0, .ref x0), (1, .int x1), (2, .int x2), (3, .int x3), (4, .int x4)] [.int s0] M = am_X cal k_AM_send 25 [(0, .ref x0), (1, .int x1), (2, .int x2), (3, .int x3), (4, .int x4)] [.int (-999), .int s0] M := (am_X_eq cal k_AM_send 22 _ _ M).trans rfl
theorem e_AM_send_25 (cal : aY) (x0 : Nat) (x1 : Int32) (x2 : Int32) (x3 : Int32) (x4 : Int32) (s0 : Int32) (s1 : Int32) (M : aM) : am_X cal k_AM_send 25 [(0, .ref x0), (1, .int x1), (2, .int x2), (3, .int x3), (4, .int x4)] [.int s0, .int s1] M = if ¬ x2 = 1 then am_X cal k_AM_send 35 [(0, .ref x0), (1, .int x1), (2, .int x2), (3, .int x3), (4, .int x4)] [.int s0, .int s1] M else am_X cal k_AM_send 38 [(0, .ref x0), (1, .int x1), (2, .int x2), (3, .int x3), (4, .int x4)] [.int 7, .int s0, .int s1] M := (am_X_eq cal k_AM_send 25 _ _ M).trans rfl
theorem e_AM_send_35 (cal : aY) (x0 : Nat) (x1 : Int32) (x2 : Int32) (x3 : Int32) (x4 : Int32) (s0 : Int32) (s1 : Int32) (M : aM) : am_X cal k_AM_send 35 [(0, .ref x0), (1, .int x1), (2, .int x2), (3, .int x3), (4, .int x4)] [.int s0, .int s1] M = am_X cal k_AM_send 38 [(0, .ref x0), (1, .int x1), (2, .int x2), (3, .int x3), (4, .int x4)] [.int 999, .int s0, .int s1] M := (am_X_eq cal k_AM_send 35 _ _ M).trans rfl
theorem e_AM_send_38 (cal : aY) (x0 : Nat) (x1 : Int32) (x2 : Int32) (x3 : Int32) (x4 : Int32) (s0 : Int32) (s1 : Int32) (s2 : Int32) (M : aM) : am_X cal k_AM_send 38 [(0, .ref x0), (1, .int x1), (2, .int x2), (3, .int x3), (4, .int x4)] [.int s0, .int s1, .int s2] M = am_cV (cal 68 [.int s2, .int s1, .int s0] M) (fun M1 => if x2 < 2 then am_X cal k_AM_send 63 [(0, .ref x0), (1, .int x1), (2, .int x2), (3, .int x3), (4, .int x4)] [] M1 else if ¬ x2 = 2 then am_X cal k_AM_send 59 [(0, .ref x0), (1, .int x1), (2, .int x2), (3, .int x3), (4, .int x4)] [.int 0, .int x4] M1 else am_X cal k_AM_send 60 [(0, .ref x0), (1, .int x1), (2, .int x2), (3, .int x3), (4, .int x4)] [.int 7, .int 0, .int x4] M1) (fun v2 M1 => some (.inr v2, M1)) := (am_X_eq cal k_AM_send 38 _ _ M).trans rfl
theorem e_AM_send_59 (cal : aY) (x0 : Nat) (x1 : Int32) (x2 : Int32) (x3 : Int32) (x4 : Int32) (s0 : Int32) (s1 : Int32) (M : aM) : am_X cal k_AM_send 59 [(0, .ref x0), (1, .int x1), (2, .int x2), (3, .int x3), (4, .int x4)] [.int s0, .int s1] M = am_X cal k_AM_send 60 [(0, .ref x0), (1, .int x1), (2, .int x2), (3, .int x3), (4, .int x4)] [.int 5, .int s0, .int s1] M := (am_X_eq cal k_AM_send 59 _ _ M).trans rfl
theorem e_AM_send_60 (cal : aY) (x0 : Nat) (x1 : Int32) (x2 : Int32) (x3 : Int32) (x4 : Int32) (s0 : Int32) (s1 : Int32) (s2 : Int32) (M : aM) : am_X cal k_AM_send 60 [(0, .ref x0), (1, .int x1), (2, .int x2), (3, .int x3), (4, .int x4)] [.int s0, .int s1, .int s2] M = am_cV (cal 68 [.int s2, .int s1, .int s0] M) (fun M1 => am_X cal k_AM_send 63 [(0, .ref x0), (1, .int x1), (2, .int x2), (3, .int x3), (4, .int x4)] [] M1) (fun v2 M1 => some (.inr v2, M1)) := (am_X_eq cal k_AM_send 60 _ _ M).trans rfl
theorem e_AM_send_63 (cal : aY) (x0 : Nat) (x1 : Int32) (x2 : Int32) (x3 : Int32) (x4 : Int32) (M : aM) : am_X cal k_AM_send 63 [(0, .ref x0), (1, .int x1), (2, .int x2), (3, .int x3), (4, .int x4)] [] M = (am_rA M x0 8 0).bind fun v1 => (am_ln M v1 7).bind fun _ => am_cA (cal 62 [.ref v1, .int 6, .int x1] M) (fun v4 M2 => (am_rI M2 v4 4 1).bind fun v5 => if v5 < 4 then am_X cal k_AM_send 94 [(2, .int x2), (3, .int x3), (4, .int x4), (5, .ref v4)] [] M2 else some (.inr 0, am_tk M2 1 6)) (fun v3 M2 => some (.inr v3, M2)) := (am_X_eq cal k_AM_send 63 _ _ M).trans rfl
theorem e_AM_send_94 (cal : aY) (x2 : Int32) (x3 : Int32) (x4 : Int32) (x5 : Nat) (M : aM) : am_X cal k_AM_send 94 [(2, .int x2), (3, .int x3), (4, .int x4), (5, .ref x5)] [] M = am_cJ (cal 76 [.int x2, .int x3, .int x4] M) (fun v3 M1 => (am_ln M1 x5 4).bind fun _ => am_cV (cal 31 [.ref x5, .long v3] M1) (fun M4 => (am_rI M4 x5 4 1).bind fun v6 => some (.inl (some (.int v6)), M4)) (fun v5 M4 => some (.inr v5, M4))) (fun v2 M1 => some (.inr v2, M1)) := (am_X_eq cal k_AM_send 94 _ _ M).trans rfl
theorem y_AM_outsideMessage (d : Nat) (a0 : Int32) (a1 : Int32) (a2 : Int32) (M : aM) : am_Y (d + 1) 76 [.int a0, .int a1, .int a2] M = am_X (am_Y d) k_AM_outsideMessage 0 [(0, .int a0), (1, .int a1), (2, .int a2)] [] M := rfl
theorem e_AM_outsideMessage_0 (cal : aY) (x0 : Int32) (x1 : Int32) (x2 : Int32) (M : aM) : am_X cal k_AM_outsideMessage 0 [(0, .int x0), (1, .int x1), (2, .int x2)] [] M = if x0 = nI 0 then am_X cal k_AM_outsideMessage 28 [(1, .int x1), (2, .int x2)] [] M else if x0 = nI 1 then am_X cal k_AM_outsideMessage 33 [(1, .int x1), (2, .int x2)] [] M else if x0 = nI 2 then am_X cal k_AM_outsideMessage 42 [(1, .int x1), (2, .int x2)] [] M else am_X cal k_AM_outsideMessage 58 [(1, .int x1), (2, .int x2)] [] M := (am_X_eq cal k_AM_outsideMessage 0 _ _ M).trans rfl
theorem e_AM_outsideMessage_28 (cal : aY) (x1 : Int32) (x2 : Int32) (M : aM) : am_X cal k_AM_outsideMessage 28 [(1, .int x1), (2, .int x2)] [] M = am_cJ (cal 42 [.int x1] M) (fun v3 M1 => some (.inl (some (.long v3)), M1)) (fun v2 M1 => some (.inr v2, M1)) := (am_X_eq cal k_AM_outsideMessage 28 _ _ M).trans rfl
theorem e_AM_outsideMessage_33 (cal : aY) (x1 : Int32) (x2 : Int32) (M : aM) : am_X cal k_AM_outsideMessage 33 [(1, .int x1), (2, .int x2)] [] M = am_cJ (cal 42 [.int (2000 + x1)] M) (fun v3 M1 => some (.inl (some (.long v3)), M1)) (fun v2 M1 => some (.inr v2, M1)) := (am_X_eq cal k_AM_outsideMessage 33 _ _ M).trans rfl
theorem e_AM_outsideMessage_42 (cal : aY) (x1 : Int32) (x2 : Int32) (M : aM) : am_X cal k_AM_outsideMessage 42 [(1, .int x1), (2, .int x2)] [] M = am_cJ (cal 42 [.int (2000 + x2)] M) (fun v3 M1 => am_cJ (cal 42 [.int x1] M1) (fun v6 M4 => am_cJ (cal 43 [.long v3, .long v6] M4) (fun v9 M7 => some (.inl (some (.long v9)), M7)) (fun v8 M7 => some (.inr v8, M7))) (fun v5 M4 => some (.inr v5, M4))) (fun v2 M1 => some (.inr v2, M1)) := (am_X_eq cal k_AM_outsideMessage 42 _ _ M).trans rfl
theorem e_AM_outsideMessage_58 (cal : aY) (x1 : Int32) (x2 : Int32) (M : aM) : am_X cal k_AM_outsideMessage 58 [(1, .int x1), (2, .int x2)] [] M = am_cJ (cal 42 [.int (3000 + x2)] M) (fun v3 M1 => am_cJ (cal 42 [.int x1] M1) (fun v6 M4 => am_cJ (cal 43 [.long v3, .long v6] M4) (fun v9 M7 => some (.inl (some (.long v9)), M7)) (fun v8 M7 => some (.inr v8, M7))) (fun v5 M4 => some (.inr v5, M4))) (fun v2 M1 => some (.inr v2, M1)) := (am_X_eq cal k_AM_outsideMessage 58 _ _ M).trans rfl
theorem y_AM_deliver (d : Nat) (a0 : Nat) (a1 : Int32) (a2 : Int32) (M : aM) : am_Y (d + 1) 77 [.ref a0, .int a1, .int a2] M = am_X (am_Y d) k_AM_deliver 0 [(0, .ref a0), (1, .int a1), (2, .int a2)] [] M := rfl
theorem e_AM_deliver_0 (cal : aY) (x0 : Nat) (x1 : Int32) (x2 : Int32) (M : aM) : am_X cal k_AM_deliver 0 [(0, .ref x0), (1, .int x1), (2, .int x2)] [] M = am_cV (cal 68 [.int x1, .int 0, .int 6] M) (fun M1 => am_cV (cal 68 [.int x2, .int 0, .int 5] M1) (fun M3 => (am_rA M3 x0 8 0).bind fun v5 => (am_ln M3 v5 7).bind fun _ => am_cA (cal 62 [.ref v5, .int x1, .int x2] M3) (fun v8 M6 => (am_rI M6 v8 4 1).bind fun v9 => if ¬ v9 = 0 then am_X cal k_AM_deliver 40 [(0, .ref x0), (1, .int x1), (2, .int x2), (3, .ref v8)] [] M6 else some (.inr 2, am_tk M6 1 6)) (fun v7 M6 => some (.inr v7, M6))) (fun v4 M3 => some (.inr v4, M3))) (fun v2 M1 => some (.inr v2, M1)) := (am_X_eq cal k_AM_deliver 0 _ _ M).trans rfl
theorem e_AM_deliver_40 (cal : aY) (x0 : Nat) (x1 : Int32) (x2 : Int32) (x3 : Nat) (M : aM) : am_X cal k_AM_deliver 40 [(0, .ref x0), (1, .int x1), (2, .int x2), (3, .ref x3)] [] M = (am_ln M x3 4).bind fun _ => am_cJ (cal 32 [.ref x3, .int 0] M) (fun v3 M1 => (am_rA M1 x0 8 0).bind fun v4 => (am_rA M1 v4 7 2).bind fun v5 => (am_ix x2).bind fun v6 => (am_rA M1 v5 15 v6).bind fun v7 => (am_rI M1 v7 0 2).bind fun v8 => if ¬ v8 = 1 then am_X cal k_AM_deliver 87 [(0, .ref x0), (1, .int x1), (2, .int x2), (3, .ref x3), (4, .long v3), (6, .ref v7)] [] M1 else (am_rI M1 v7 0 4).bind fun v9 => if ¬ v9 = 0 then am_X cal k_AM_deliver 83 [(0, .ref x0), (1, .int x1), (2, .int x2), (3, .ref x3), (4, .long v3), (6, .ref v7)] [] M1 else am_cI (cal 47 [.long v3] M1) (fun v12 M10 => if ¬ v12 = 0 then am_X cal k_AM_deliver 87 [(0, .ref x0), (1, .int x1), (2, .int x2), (3, .ref x3), (4, .long v3), (6, .ref v7)] [] M10 else am_X cal k_AM_deliver 83 [(0, .ref x0), (1, .int x1), (2, .int x2), (3, .ref x3), (4, .long v3), (6, .ref v7)] [] M10) (fun v11 M10 => some (.inr v11, M10))) (fun v2 M1 => some (.inr v2, M1)) := (am_X_eq cal k_AM_deliver 40 _ _ M).trans rfl
theorem e_AM_deliver_83 (cal : aY) (x0 : Nat) (x1 : Int32) (x2 : Int32) (x3 : Nat) (x4 : Int64) (x6 : Nat) (M : aM) : am_X cal k_AM_deliver 83 [(0, .ref x0), (1, .int x1), (2, .int x2), (3, .ref x3), (4, .long x4), (6, .ref x6)] [] M = am_X cal k_AM_deliver 88 [(0, .ref x0), (1, .int x1), (2, .int x2), (3, .ref x3), (4, .long x4), (6, .ref x6)] [.int 1] M := (am_X_eq cal k_AM_deliver 83 _ _ M).trans rfl
theorem e_AM_deliver_87 (cal : aY) (x0 : Nat) (x1 : Int32) (x2 : Int32) (x3 : Nat) (x4 : Int64) (x6 : Nat) (M : aM) : am_X cal k_AM_deliver 87 [(0, .ref x0), (1, .int x1), (2, .int x2), (3, .ref x3), (4, .long x4), (6, .ref x6)] [] M = am_X cal k_AM_deliver 88 [(0, .ref x0), (1, .int x1), (2, .int x2), (3, .ref x3), (4, .long x4), (6, .ref x6)] [.int 0] M := (am_X_eq cal k_AM_deliver 87 _ _ M).trans rfl
theorem e_AM_deliver_88 (cal : aY) (x0 : Nat) (x1 : Int32) (x2 : Int32) (x3 : Nat) (x4 : Int64) (x6 : Nat) (s0 : Int32) (M : aM) : am_X cal k_AM_deliver 88 [(0, .ref x0), (1, .int x1), (2, .int x2), (3, .ref x3), (4, .long x4), (6, .ref x6)] [.int s0] M = if s0 = 0 then am_X cal k_AM_deliver 118 [(0, .ref x0), (1, .int x1), (2, .int x2), (3, .ref x3), (4, .long x4), (6, .ref x6)] [] M else (am_rA M x6 0 1).bind fun v1 => (am_rI M v1 4 1).bind fun v2 => if v2 < 6 then am_X cal k_AM_deliver 118 [(0, .ref x0), (1, .int x1), (2, .int x2), (3, .ref x3), (4, .long x4), (6, .ref x6)] [] M else some (.inr 0, am_tk M 1 6) := (am_X_eq cal k_AM_deliver 88 _ _ M).trans rfl
theorem e_AM_deliver_118 (cal : aY) (x0 : Nat) (x1 : Int32) (x2 : Int32) (x3 : Nat) (x4 : Int64) (x6 : Nat) (M : aM) : am_X cal k_AM_deliver 118 [(0, .ref x0), (1, .int x1), (2, .int x2), (3, .ref x3), (4, .long x4), (6, .ref x6)] [] M = (am_ln M x3 4).bind fun _ => am_cV (cal 33 [.ref x3, .int 0] M) (fun M1 => (am_rI M1 x6 0 2).bind fun v3 => if v3 = 1 then am_X cal k_AM_deliver 134 [(0, .ref x0), (1, .int x1), (2, .int x2), (4, .long x4), (6, .ref x6)] [] M1 else some (.inl (some (.int 0)), M1)) (fun v2 M1 => some (.inr v2, M1)) := (am_X_eq cal k_AM_deliver 118 _ _ M).trans rfl
theorem e_AM_deliver_134 (cal : aY) (x0 : Nat) (x1 : Int32) (x2 : Int32) (x4 : Int64) (x6 : Nat) (M : aM) : am_X cal k_AM_deliver 134 [(0, .ref x0), (1, .int x1), (2, .int x2), (4, .long x4), (6, .ref x6)] [] M = am_cI (cal 47 [.long x4] M) (fun v3 M1 => if v3 = 0 then am_X cal k_AM_deliver 155 [(4, .long x4), (6, .ref x6)] [] M1 else am_cI (cal 48 [.long x4, .int 0] M1) (fun v6 M4 => (am_ln M4 x0 8).bind fun _ => am_cI (cal 78 [.ref x0, .int x1, .int x2, .int v6] M4) (fun v9 M7 => some (.inl (some (.int v9)), M7)) (fun v8 M7 => some (.inr v8, M7))) (fun v5 M4 => some (.inr v5, M4))) (fun v2 M1 => some (.inr v2, M1)) := (am_X_eq cal k_AM_deliver 134 _ _ M).trans rfl
theorem e_AM_deliver_155 (cal : aY) (x4 : Int64) (x6 : Nat) (M : aM) : am_X cal k_AM_deliver 155 [(4, .long x4), (6, .ref x6)] [] M = (am_rA M x6 0 1).bind fun v1 => (am_ln M v1 4).bind fun _ => am_cV (cal 31 [.ref v1, .long x4] M) (fun M2 => some (.inl (some (.int 1)), M2)) (fun v3 M2 => some (.inr v3, M2)) := (am_X_eq cal k_AM_deliver 155 _ _ M).trans rfl
theorem y_AM_receiveSignal (d : Nat) (a0 : Nat) (a1 : Int32) (a2 : Int32) (a3 : Int32) (M : aM) : am_Y (d + 1) 78 [.ref a0, .int a1, .int a2, .int a3] M = am_X (am_Y d) k_AM_receiveSignal 0 [(0, .ref a0), (1, .int a1), (2, .int a2), (3, .int a3)] [] M := rfl
theorem e_AM_receiveSignal_0 (cal : aY) (x0 : Nat) (x1 : Int32) (x2 : Int32) (x3 : Int32) (M : aM) : am_X cal k_AM_receiveSignal 0 [(0, .ref x0), (1, .int x1), (2, .int x2), (3, .int x3)] [] M = (am_rA M x0 8 0).bind fun v1 => (am_rA M v1 7 2).bind fun v2 => (am_ix x2).bind fun v3 => (am_rA M v2 15 v3).bind fun v4 => (am_rI M v4 0 4).bind fun v5 => if v5 = 0 then am_X cal k_AM_receiveSignal 57 [(0, .ref x0), (2, .int x2), (3, .int x3)] [] M else am_cJ (cal 42 [.int (3000 + x1)] M) (fun v8 M6 => am_cJ (cal 42 [.int x3] M6) (fun v11 M9 => am_cJ (cal 43 [.long v8, .long v11] M9) (fun v14 M12 => (am_rA M12 v4 0 1).bind fun v15 => am_cJ (cal 42 [.int 2006] M12) (fun v18 M16 => am_cJ (cal 43 [.long v18, .long v14] M16) (fun v21 M19 => (am_ln M19 v15 4).bind fun _ => am_cV (cal 31 [.ref v15, .long v21] M19) (fun M22 => some (.inl (some (.int 2)), M22)) (fun v23 M22 => some (.inr v23, M22))) (fun v20 M19 => some (.inr v20, M19))) (fun v17 M16 => some (.inr v17, M16))) (fun v13 M12 => some (.inr v13, M12))) (fun v10 M9 => some (.inr v10, M9))) (fun v7 M6 => some (.inr v7, M6)) := (am_X_eq cal k_AM_receiveSignal 0 _ _ M).trans rfl
theorem e_AM_receiveSignal_57 (cal : aY) (x0 : Nat) (x2 : Int32) (x3 : Int32) (M : aM) : am_X cal k_AM_receiveSignal 57 [(0, .ref x0), (2, .int x2), (3, .int x3)] [] M = if ¬ x3 = 2000 then am_X cal k_AM_receiveSignal 66 [(0, .ref x0), (2, .int x2), (3, .int x3)] [] M else some (.inl (some (.int 3)), M) := (am_X_eq cal k_AM_receiveSignal 57 _ _ M).trans rfl
theorem e_AM_receiveSignal_66 (cal : aY) (x0 : Nat) (x2 : Int32) (x3 : Int32) (M : aM) : am_X cal k_AM_receiveSignal 66 [(0, .ref x0), (2, .int x2), (3, .int x3)] [] M = (am_rA M x0 8 0).bind fun v1 => (am_ln M v1 7).bind fun _ => am_cV (cal 63 [.ref v1, .int x2, .int x3] M) (fun M2 => some (.inl (some (.int 4)), M2)) (fun v3 M2 => some (.inr v3, M2)) := (am_X_eq cal k_AM_receiveSignal 66 _ _ M).trans rfl
theorem y_AM_step (d : Nat) (a0 : Nat) (a1 : Int32) (M : aM) : am_Y (d + 1) 79 [.ref a0, .int a1] M = am_X (am_Y d) k_AM_step 0 [(0, .ref a0), (1, .int a1)] [] M := rfl
theorem e_AM_step_0 (cal : aY) (x0 : Nat) (x1 : Int32) (M : aM) : am_X cal k_AM_step 0 [(0, .ref x0), (1, .int x1)] [] M = (am_ln M x0 8).bind fun _ => am_cV (cal 80 [.ref x0, .int x1] M) (fun M1 => (am_rA M1 x0 8 2).bind fun v3 => (am_ln M1 v3 5).bind fun _ => am_cI (cal 35 [.ref v3, .int x1] M1) (fun v6 M4 => if 0 ≤ v6 then am_X cal k_AM_step 28 [(0, .ref x0), (2, .int v6)] [] M4 else some (.inr 2, am_tk M4 1 6)) (fun v5 M4 => some (.inr v5, M4))) (fun v2 M1 => some (.inr v2, M1)) := (am_X_eq cal k_AM_step 0 _ _ M).trans rfl
theorem e_AM_step_28 (cal : aY) (x0 : Nat) (x2 : Int32) (M : aM) : am_X cal k_AM_step 28 [(0, .ref x0), (2, .int x2)] [] M = (am_rA M x0 8 2).bind fun v1 => if 100 = 0 then none else (am_ln M v1 5).bind fun _ => am_cI (cal 37 [.ref v1, .int (x2 / 100)] M) (fun v4 M2 => if ¬ v4 = 1 then am_X cal k_AM_step 55 [(2, .int x2), (3, .int v4)] [] M2 else some (.inr 4, am_tk M2 1 6)) (fun v3 M2 => some (.inr v3, M2)) := (am_X_eq cal k_AM_step 28 _ _ M).trans rfl
theorem e_AM_step_55 (cal : aY) (x2 : Int32) (x3 : Int32) (M : aM) : am_X cal k_AM_step 55 [(2, .int x2), (3, .int x3)] [] M = if ¬ x3 = 2 then am_X cal k_AM_step 70 [(2, .int x2)] [] M else some (.inr 3, am_tk M 1 6) := (am_X_eq cal k_AM_step 55 _ _ M).trans rfl
theorem e_AM_step_70 (cal : aY) (x2 : Int32) (M : aM) : am_X cal k_AM_step 70 [(2, .int x2)] [] M = some (.inl (some (.int x2)), M) := (am_X_eq cal k_AM_step 70 _ _ M).trans rfl
theorem y_AM_needAlive (d : Nat) (a0 : Nat) (a1 : Int32) (M : aM) : am_Y (d + 1) 80 [.ref a0, .int a1] M = am_X (am_Y d) k_AM_needAlive 0 [(0, .ref a0), (1, .int a1)] [] M := rfl
theorem e_AM_needAlive_0 (cal : aY) (x0 : Nat) (x1 : Int32) (M : aM) : am_X cal k_AM_needAlive 0 [(0, .ref x0), (1, .int x1)] [] M = am_cV (cal 68 [.int x1, .int 0, .int 5] M) (fun M1 => (am_rA M1 x0 8 0).bind fun v3 => (am_rA M1 v3 7 2).bind fun v4 => (am_ix x1).bind fun v5 => (am_rA M1 v4 15 v5).bind fun v6 => (am_rI M1 v6 0 2).bind fun v7 => if v7 = 1 then am_X cal k_AM_needAlive 32 [] [] M1 else some (.inr 0, am_tk M1 1 6)) (fun v2 M1 => some (.inr v2, M1)) := (am_X_eq cal k_AM_needAlive 0 _ _ M).trans rfl
theorem e_AM_needAlive_32 (cal : aY)  (M : aM) : am_X cal k_AM_needAlive 32 [] [] M = some (.inl none, M) := (am_X_eq cal k_AM_needAlive 32 _ _ M).trans rfl
theorem y_AM_kill (d : Nat) (a0 : Nat) (a1 : Int32) (M : aM) : am_Y (d + 1) 81 [.ref a0, .int a1] M = am_X (am_Y d) k_AM_kill 0 [(0, .ref a0), (1, .int a1)] [] M := rfl
theorem e_AM_kill_0 (cal : aY) (x0 : Nat) (x1 : Int32) (M : aM) : am_X cal k_AM_kill 0 [(0, .ref x0), (1, .int x1)] [] M = (am_ln M x0 8).bind fun _ => am_cV (cal 80 [.ref x0, .int x1] M) (fun M1 => (am_rA M1 x0 8 0).bind fun v3 => (am_rA M1 v3 7 2).bind fun v4 => (am_ix x1).bind fun v5 => (am_rA M1 v4 15 v5).bind fun v6 => (am_rI M1 v6 0 5).bind fun v7 => am_cI (cal 156 [.int v7] M1) (fun v10 M8 => (am_rA M8 x0 8 0).bind fun v11 => (am_ln M8 v11 7).bind fun _ => am_cV (cal 63 [.ref v11, .int x1, .int 2007] M8) (fun M12 => some (.inl (some (.int v10)), M12)) (fun v13 M12 => some (.inr v13, M12))) (fun v9 M8 => some (.inr v9, M8))) (fun v2 M1 => some (.inr v2, M1)) := (am_X_eq cal k_AM_kill 0 _ _ M).trans rfl
theorem y_AM_reap (d : Nat) (a0 : Nat) (a1 : Int32) (M : aM) : am_Y (d + 1) 82 [.ref a0, .int a1] M = am_X (am_Y d) k_AM_reap 0 [(0, .ref a0), (1, .int a1)] [] M := rfl
theorem e_AM_reap_0 (cal : aY) (x0 : Nat) (x1 : Int32) (M : aM) : am_X cal k_AM_reap 0 [(0, .ref x0), (1, .int x1)] [] M = am_cV (cal 68 [.int x1, .int 0, .int 5] M) (fun M1 => (am_rA M1 x0 8 0).bind fun v3 => (am_rA M1 v3 7 2).bind fun v4 => (am_ix x1).bind fun v5 => (am_rA M1 v4 15 v5).bind fun v6 => (am_rI M1 v6 0 2).bind fun v7 => if v7 = 2 then am_X cal k_AM_reap 32 [(0, .ref x0), (1, .int x1)] [] M1 else some (.inr 0, am_tk M1 1 6)) (fun v2 M1 => some (.inr v2, M1)) := (am_X_eq cal k_AM_reap 0 _ _ M).trans rfl
theorem e_AM_reap_32 (cal : aY) (x0 : Nat) (x1 : Int32) (M : aM) : am_X cal k_AM_reap 32 [(0, .ref x0), (1, .int x1)] [] M = (am_rA M x0 8 0).bind fun v1 => (am_rA M v1 7 2).bind fun v2 => (am_ix x1).bind fun v3 => (am_rA M v2 15 v3).bind fun v4 => (am_wr M v4 0 2 (.int 0)).bind fun M5 => (am_rA M5 x0 8 0).bind fun v6 => (am_ln M5 v6 7).bind fun _ => am_cI (cal 65 [.ref v6] M5) (fun v9 M7 => some (.inl (some (.int v9)), M7)) (fun v8 M7 => some (.inr v8, M7)) := (am_X_eq cal k_AM_reap 32 _ _ M).trans rfl
theorem y_AM_leaf (d : Nat) (a0 : Nat) (a1 : Int32) (a2 : Int32) (a3 : Int32) (M : aM) : am_Y (d + 1) 83 [.ref a0, .int a1, .int a2, .int a3] M = am_X (am_Y d) k_AM_leaf 0 [(0, .ref a0), (1, .int a1), (2, .int a2), (3, .int a3)] [] M := rfl
theorem e_AM_leaf_0 (cal : aY) (x0 : Nat) (x1 : Int32) (x2 : Int32) (x3 : Int32) (M : aM) : am_X cal k_AM_leaf 0 [(0, .ref x0), (1, .int x1), (2, .int x2), (3, .int x3)] [] M = am_cV (cal 68 [.int x3, .int 0, .int 3] M) (fun M1 => (am_ln M1 x0 8).bind fun _ => am_cJ (cal 84 [.ref x0, .int x1, .int x2] M1) (fun v5 M3 => am_cI (cal 48 [.long v5, .int x3] M3) (fun v8 M6 => some (.inl (some (.int v8)), M6)) (fun v7 M6 => some (.inr v7, M6))) (fun v4 M3 => some (.inr v4, M3))) (fun v2 M1 => some (.inr v2, M1)) := (am_X_eq cal k_AM_leaf 0 _ _ M).trans rfl
theorem y_AM_termOf (d : Nat) (a0 : Nat) (a1 : Int32) (a2 : Int32) (M : aM) : am_Y (d + 1) 84 [.ref a0, .int a1, .int a2] M = am_X (am_Y d) k_AM_termOf 0 [(0, .ref a0), (1, .int a1), (2, .int a2)] [] M := rfl
theorem e_AM_termOf_0 (cal : aY) (x0 : Nat) (x1 : Int32) (x2 : Int32) (M : aM) : am_X cal k_AM_termOf 0 [(0, .ref x0), (1, .int x1), (2, .int x2)] [] M = am_cV (cal 68 [.int x1, .int 0, .int 5] M) (fun M1 => am_cV (cal 68 [.int x2, .int 0, .int 6] M1) (fun M3 => (am_rA M3 x0 8 0).bind fun v5 => (am_rA M3 v5 7 2).bind fun v6 => (am_ix x1).bind fun v7 => (am_rA M3 v6 15 v7).bind fun v8 => if ¬ x2 = 6 then am_X cal k_AM_termOf 36 [(2, .int x2), (3, .ref v8)] [] M3 else (am_rJ M3 v8 0 3).bind fun v9 => am_X cal k_AM_termOf 44 [] [.long v9] M3) (fun v4 M3 => some (.inr v4, M3))) (fun v2 M1 => some (.inr v2, M1)) := (am_X_eq cal k_AM_termOf 0 _ _ M).trans rfl
theorem e_AM_termOf_36 (cal : aY) (x2 : Int32) (x3 : Nat) (M : aM) : am_X cal k_AM_termOf 36 [(2, .int x2), (3, .ref x3)] [] M = (am_rA M x3 0 1).bind fun v1 => (am_ln M v1 4).bind fun _ => am_cJ (cal 32 [.ref v1, .int x2] M) (fun v4 M2 => am_X cal k_AM_termOf 44 [] [.long v4] M2) (fun v3 M2 => some (.inr v3, M2)) := (am_X_eq cal k_AM_termOf 36 _ _ M).trans rfl
theorem e_AM_termOf_44 (cal : aY) (s0 : Int64) (M : aM) : am_X cal k_AM_termOf 44 [] [.long s0] M = some (.inl (some (.long s0)), M) := (am_X_eq cal k_AM_termOf 44 _ _ M).trans rfl
theorem y_AM_shape (d : Nat) (a0 : Nat) (a1 : Int32) (a2 : Int32) (M : aM) : am_Y (d + 1) 85 [.ref a0, .int a1, .int a2] M = am_X (am_Y d) k_AM_shape 0 [(0, .ref a0), (1, .int a1), (2, .int a2)] [] M := rfl
theorem e_AM_shape_0 (cal : aY) (x0 : Nat) (x1 : Int32) (x2 : Int32) (M : aM) : am_X cal k_AM_shape 0 [(0, .ref x0), (1, .int x1), (2, .int x2)] [] M = (am_ln M x0 8).bind fun _ => am_cJ (cal 84 [.ref x0, .int x1, .int x2] M) (fun v3 M1 => if ¬ lg_cmp v3 0 = 0 then am_X cal k_AM_shape 19 [(3, .long v3)] [] M1 else am_X cal k_AM_shape 23 [] [.int (-5000)] M1) (fun v2 M1 => some (.inr v2, M1)) := (am_X_eq cal k_AM_shape 0 _ _ M).trans rfl
theorem e_AM_shape_19 (cal : aY) (x3 : Int64) (M : aM) : am_X cal k_AM_shape 19 [(3, .long x3)] [] M = am_cI (cal 45 [.long x3] M) (fun v3 M1 => am_X cal k_AM_shape 23 [] [.int v3] M1) (fun v2 M1 => some (.inr v2, M1)) := (am_X_eq cal k_AM_shape 19 _ _ M).trans rfl
theorem e_AM_shape_23 (cal : aY) (s0 : Int32) (M : aM) : am_X cal k_AM_shape 23 [] [.int s0] M = some (.inl (some (.int s0)), M) := (am_X_eq cal k_AM_shape 23 _ _ M).trans rfl
theorem y_AM_about (d : Nat) (a0 : Nat) (a1 : Int32) (a2 : Int32) (M : aM) : am_Y (d + 1) 86 [.ref a0, .int a1, .int a2] M = am_X (am_Y d) k_AM_about 0 [(0, .ref a0), (1, .int a1), (2, .int a2)] [] M := rfl
theorem e_AM_about_0 (cal : aY) (x0 : Nat) (x1 : Int32) (x2 : Int32) (M : aM) : am_X cal k_AM_about 0 [(0, .ref x0), (1, .int x1), (2, .int x2)] [] M = am_cV (cal 68 [.int x1, .int 0, .int 5] M) (fun M1 => am_cV (cal 68 [.int x2, .int 0, .int 12] M1) (fun M3 => (am_rA M3 x0 8 0).bind fun v5 => (am_rA M3 v5 7 2).bind fun v6 => (am_ix x1).bind fun v7 => (am_rA M3 v6 15 v7).bind fun v8 => if x2 = nI 0 then am_X cal k_AM_about 64 [(0, .ref x0), (1, .int x1), (2, .int x2), (3, .ref v8)] [] M3 else if x2 = nI 1 then am_X cal k_AM_about 69 [(0, .ref x0), (1, .int x1), (2, .int x2), (3, .ref v8)] [] M3 else if x2 = nI 2 then am_X cal k_AM_about 77 [(0, .ref x0), (1, .int x1), (2, .int x2), (3, .ref v8)] [] M3 else if x2 = nI 3 then am_X cal k_AM_about 90 [(0, .ref x0), (1, .int x1), (2, .int x2), (3, .ref v8)] [] M3 else if x2 = nI 4 then am_X cal k_AM_about 109 [(0, .ref x0), (1, .int x1), (2, .int x2), (3, .ref v8)] [] M3 else if x2 = nI 5 then am_X cal k_AM_about 114 [(0, .ref x0), (1, .int x1), (2, .int x2), (3, .ref v8)] [] M3 else am_X cal k_AM_about 136 [(0, .ref x0), (1, .int x1), (2, .int x2), (3, .ref v8)] [] M3) (fun v4 M3 => some (.inr v4, M3))) (fun v2 M1 => some (.inr v2, M1)) := (am_X_eq cal k_AM_about 0 _ _ M).trans rfl
theorem e_AM_about_64 (cal : aY) (x0 : Nat) (x1 : Int32) (x2 : Int32) (x3 : Nat) (M : aM) : am_X cal k_AM_about 64 [(0, .ref x0), (1, .int x1), (2, .int x2), (3, .ref x3)] [] M = (am_rI M x3 0 2).bind fun v1 => some (.inl (some (.int v1)), M) := (am_X_eq cal k_AM_about 64 _ _ M).trans rfl
theorem e_AM_about_69 (cal : aY) (x0 : Nat) (x1 : Int32) (x2 : Int32) (x3 : Nat) (M : aM) : am_X cal k_AM_about 69 [(0, .ref x0), (1, .int x1), (2, .int x2), (3, .ref x3)] [] M = (am_rA M x3 0 1).bind fun v1 => (am_rI M v1 4 1).bind fun v2 => some (.inl (some (.int v2)), M) := (am_X_eq cal k_AM_about 69 _ _ M).trans rfl
theorem e_AM_about_77 (cal : aY) (x0 : Nat) (x1 : Int32) (x2 : Int32) (x3 : Nat) (M : aM) : am_X cal k_AM_about 77 [(0, .ref x0), (1, .int x1), (2, .int x2), (3, .ref x3)] [] M = (am_rI M x3 0 4).bind fun v1 => if v1 = 0 then am_X cal k_AM_about 88 [] [] M else am_X cal k_AM_about 89 [] [.int 1] M := (am_X_eq cal k_AM_about 77 _ _ M).trans rfl
theorem e_AM_about_88 (cal : aY)  (M : aM) : am_X cal k_AM_about 88 [] [] M = am_X cal k_AM_about 89 [] [.int 0] M := (am_X_eq cal k_AM_about 88 _ _ M).trans rfl
theorem e_AM_about_89 (cal : aY) (s0 : Int32) (M : aM) : am_X cal k_AM_about 89 [] [.int s0] M = some (.inl (some (.int s0)), M) := (am_X_eq cal k_AM_about 89 _ _ M).trans rfl
theorem e_AM_about_90 (cal : aY) (x0 : Nat) (x1 : Int32) (x2 : Int32) (x3 : Nat) (M : aM) : am_X cal k_AM_about 90 [(0, .ref x0), (1, .int x1), (2, .int x2), (3, .ref x3)] [] M = (am_rI M x3 0 2).bind fun v1 => if ¬ v1 = 2 then am_X cal k_AM_about 105 [] [] M else (am_rI M x3 0 6).bind fun v2 => am_X cal k_AM_about 108 [] [.int v2] M := (am_X_eq cal k_AM_about 90 _ _ M).trans rfl
theorem e_AM_about_105 (cal : aY)  (M : aM) : am_X cal k_AM_about 105 [] [] M = am_X cal k_AM_about 108 [] [.int (-5000)] M := (am_X_eq cal k_AM_about 105 _ _ M).trans rfl
theorem e_AM_about_108 (cal : aY) (s0 : Int32) (M : aM) : am_X cal k_AM_about 108 [] [.int s0] M = some (.inl (some (.int s0)), M) := (am_X_eq cal k_AM_about 108 _ _ M).trans rfl
theorem e_AM_about_109 (cal : aY) (x0 : Nat) (x1 : Int32) (x2 : Int32) (x3 : Nat) (M : aM) : am_X cal k_AM_about 109 [(0, .ref x0), (1, .int x1), (2, .int x2), (3, .ref x3)] [] M = (am_rI M x3 0 5).bind fun v1 => some (.inl (some (.int v1)), M) := (am_X_eq cal k_AM_about 109 _ _ M).trans rfl
theorem e_AM_about_114 (cal : aY) (x0 : Nat) (x1 : Int32) (x2 : Int32) (x3 : Nat) (M : aM) : am_X cal k_AM_about 114 [(0, .ref x0), (1, .int x1), (2, .int x2), (3, .ref x3)] [] M = (am_rI M x3 0 2).bind fun v1 => if ¬ v1 = 1 then am_X cal k_AM_about 132 [] [] M else (am_rA M x3 0 0).bind fun v2 => (am_ln M v2 6).bind fun _ => am_cI (cal 58 [.ref v2] M) (fun v5 M3 => am_X cal k_AM_about 135 [] [.int v5] M3) (fun v4 M3 => some (.inr v4, M3)) := (am_X_eq cal k_AM_about 114 _ _ M).trans rfl
theorem e_AM_about_132 (cal : aY)  (M : aM) : am_X cal k_AM_about 132 [] [] M = am_X cal k_AM_about 135 [] [.int (-5000)] M := (am_X_eq cal k_AM_about 132 _ _ M).trans rfl
theorem e_AM_about_135 (cal : aY) (s0 : Int32) (M : aM) : am_X cal k_AM_about 135 [] [.int s0] M = some (.inl (some (.int s0)), M) := (am_X_eq cal k_AM_about 135 _ _ M).trans rfl
theorem e_AM_about_136 (cal : aY) (x0 : Nat) (x1 : Int32) (x2 : Int32) (x3 : Nat) (M : aM) : am_X cal k_AM_about 136 [(0, .ref x0), (1, .int x1), (2, .int x2), (3, .ref x3)] [] M = (am_rA M x0 8 0).bind fun v1 => (am_ln M v1 7).bind fun _ => am_cA (cal 62 [.ref v1, .int (x2 - 6), .int x1] M) (fun v4 M2 => (am_rI M2 v4 4 1).bind fun v5 => some (.inl (some (.int v5)), M2)) (fun v3 M2 => some (.inr v3, M2)) := (am_X_eq cal k_AM_about 136 _ _ M).trans rfl
theorem y_Integer_bitCount (d : Nat) (a0 : Int32) (M : aM) : am_Y (d + 1) 156 [.int a0] M = am_X (am_Y d) k_Integer_bitCount 0 [(0, .int a0)] [] M := rfl
theorem e_Integer_bitCount_0 (cal : aY) (x0 : Int32) (M : aM) : am_X cal k_Integer_bitCount 0 [(0, .int x0)] [] M = some (.inl (some (.int ((((((((x0 - (((Int32.toUInt32 x0 >>> (Int32.toUInt32 1 &&& Int32.toUInt32 31)).toInt32) &&& 1431655765)) &&& 858993459) + (((Int32.toUInt32 (x0 - (((Int32.toUInt32 x0 >>> (Int32.toUInt32 1 &&& Int32.toUInt32 31)).toInt32) &&& 1431655765)) >>> (Int32.toUInt32 2 &&& Int32.toUInt32 31)).toInt32) &&& 858993459)) + ((Int32.toUInt32 (((x0 - (((Int32.toUInt32 x0 >>> (Int32.toUInt32 1 &&& Int32.toUInt32 31)).toInt32) &&& 1431655765)) &&& 858993459) + (((Int32.toUInt32 (x0 - (((Int32.toUInt32 x0 >>> (Int32.toUInt32 1 &&& Int32.toUInt32 31)).toInt32) &&& 1431655765)) >>> (Int32.toUInt32 2 &&& Int32.toUInt32 31)).toInt32) &&& 858993459)) >>> (Int32.toUInt32 4 &&& Int32.toUInt32 31)).toInt32)) &&& 252645135) + ((Int32.toUInt32 (((((x0 - (((Int32.toUInt32 x0 >>> (Int32.toUInt32 1 &&& Int32.toUInt32 31)).toInt32) &&& 1431655765)) &&& 858993459) + (((Int32.toUInt32 (x0 - (((Int32.toUInt32 x0 >>> (Int32.toUInt32 1 &&& Int32.toUInt32 31)).toInt32) &&& 1431655765)) >>> (Int32.toUInt32 2 &&& Int32.toUInt32 31)).toInt32) &&& 858993459)) + ((Int32.toUInt32 (((x0 - (((Int32.toUInt32 x0 >>> (Int32.toUInt32 1 &&& Int32.toUInt32 31)).toInt32) &&& 1431655765)) &&& 858993459) + (((Int32.toUInt32 (x0 - (((Int32.toUInt32 x0 >>> (Int32.toUInt32 1 &&& Int32.toUInt32 31)).toInt32) &&& 1431655765)) >>> (Int32.toUInt32 2 &&& Int32.toUInt32 31)).toInt32) &&& 858993459)) >>> (Int32.toUInt32 4 &&& Int32.toUInt32 31)).toInt32)) &&& 252645135) >>> (Int32.toUInt32 8 &&& Int32.toUInt32 31)).toInt32)) + ((Int32.toUInt32 ((((((x0 - (((Int32.toUInt32 x0 >>> (Int32.toUInt32 1 &&& Int32.toUInt32 31)).toInt32) &&& 1431655765)) &&& 858993459) + (((Int32.toUInt32 (x0 - (((Int32.toUInt32 x0 >>> (Int32.toUInt32 1 &&& Int32.toUInt32 31)).toInt32) &&& 1431655765)) >>> (Int32.toUInt32 2 &&& Int32.toUInt32 31)).toInt32) &&& 858993459)) + ((Int32.toUInt32 (((x0 - (((Int32.toUInt32 x0 >>> (Int32.toUInt32 1 &&& Int32.toUInt32 31)).toInt32) &&& 1431655765)) &&& 858993459) + (((Int32.toUInt32 (x0 - (((Int32.toUInt32 x0 >>> (Int32.toUInt32 1 &&& Int32.toUInt32 31)).toInt32) &&& 1431655765)) >>> (Int32.toUInt32 2 &&& Int32.toUInt32 31)).toInt32) &&& 858993459)) >>> (Int32.toUInt32 4 &&& Int32.toUInt32 31)).toInt32)) &&& 252645135) + ((Int32.toUInt32 (((((x0 - (((Int32.toUInt32 x0 >>> (Int32.toUInt32 1 &&& Int32.toUInt32 31)).toInt32) &&& 1431655765)) &&& 858993459) + (((Int32.toUInt32 (x0 - (((Int32.toUInt32 x0 >>> (Int32.toUInt32 1 &&& Int32.toUInt32 31)).toInt32) &&& 1431655765)) >>> (Int32.toUInt32 2 &&& Int32.toUInt32 31)).toInt32) &&& 858993459)) + ((Int32.toUInt32 (((x0 - (((Int32.toUInt32 x0 >>> (Int32.toUInt32 1 &&& Int32.toUInt32 31)).toInt32) &&& 1431655765)) &&& 858993459) + (((Int32.toUInt32 (x0 - (((Int32.toUInt32 x0 >>> (Int32.toUInt32 1 &&& Int32.toUInt32 31)).toInt32) &&& 1431655765)) >>> (Int32.toUInt32 2 &&& Int32.toUInt32 31)).toInt32) &&& 858993459)) >>> (Int32.toUInt32 4 &&& Int32.toUInt32 31)).toInt32)) &&& 252645135) >>> (Int32.toUInt32 8 &&& Int32.toUInt32 31)).toInt32)) >>> (Int32.toUInt32 16 &&& Int32.toUInt32 31)).toInt32)) &&& 63))), M) := (am_X_eq cal k_Integer_bitCount 0 _ _ M).trans rfl
end
section
theorem y_Md_init (d : Nat) (a0 : Nat) (M : aM) : am_Y (d + 1) 87 [.ref a0] M = am_X (am_Y d) k_Md_init 0 [(0, .ref a0)] [] M := rfl
theorem e_Md_init_0 (cal : aY) (x0 : Nat) (M : aM) : am_X cal k_Md_init 0 [(0, .ref x0)] [] M = (am_ix 540).bind fun v1 => bif Nat.ble v1 1000 then (am_wr (am_nw M 10 (List.replicate v1 (am_dv 10))) x0 9 0 (.ref M.1.length)).bind fun M2 => (am_ix 9).bind fun v3 => bif Nat.ble v3 1000 then (am_wr (am_nw M2 10 (List.replicate v3 (am_dv 10))) x0 9 1 (.ref M2.1.length)).bind fun M4 => (am_ix 3).bind fun v5 => bif Nat.ble v5 1000 then (am_wr (am_nw M4 12 (List.replicate v5 (am_dv 12))) x0 9 2 (.ref M4.1.length)).bind fun M6 => (am_ix 6).bind fun v7 => bif Nat.ble v7 1000 then (am_wr (am_nw M6 10 (List.replicate v7 (am_dv 10))) x0 9 3 (.ref M6.1.length)).bind fun M8 => (am_ix 6).bind fun v9 => bif Nat.ble v9 1000 then (am_wr (am_nw M8 11 (List.replicate v9 (am_dv 11))) x0 9 4 (.ref M8.1.length)).bind fun M10 => (am_ix 36).bind fun v11 => bif Nat.ble v11 1000 then (am_wr (am_nw M10 11 (List.replicate v11 (am_dv 11))) x0 9 5 (.ref M10.1.length)).bind fun M12 => (am_ix 6).bind fun v13 => bif Nat.ble v13 1000 then (am_wr (am_nw M12 10 (List.replicate v13 (am_dv 10))) x0 9 6 (.ref M12.1.length)).bind fun M14 => (am_ix 6).bind fun v15 => bif Nat.ble v15 1000 then (am_wr (am_nw M14 12 (List.replicate v15 (am_dv 12))) x0 9 7 (.ref M14.1.length)).bind fun M16 => (am_ix 6).bind fun v17 => bif Nat.ble v17 1000 then (am_wr (am_nw M16 10 (List.replicate v17 (am_dv 10))) x0 9 8 (.ref M16.1.length)).bind fun M18 => (am_ix 36).bind fun v19 => bif Nat.ble v19 1000 then (am_wr (am_nw M18 12 (List.replicate v19 (am_dv 12))) x0 9 9 (.ref M18.1.length)).bind fun M20 => (am_ix 336).bind fun v21 => bif Nat.ble v21 1000 then (am_wr (am_nw M20 11 (List.replicate v21 (am_dv 11))) x0 9 10 (.ref M20.1.length)).bind fun M22 => (am_ix 42).bind fun v23 => bif Nat.ble v23 1000 then (am_wr (am_nw M22 10 (List.replicate v23 (am_dv 10))) x0 9 11 (.ref M22.1.length)).bind fun M24 => (am_ix 6).bind fun v25 => bif Nat.ble v25 1000 then (am_wr (am_nw M24 11 (List.replicate v25 (am_dv 11))) x0 9 12 (.ref M24.1.length)).bind fun M26 => (am_ix 5).bind fun v27 => bif Nat.ble v27 1000 then (am_wr (am_nw M26 10 (List.replicate v27 (am_dv 10))) x0 9 13 (.ref M26.1.length)).bind fun M28 => (am_ix 5).bind fun v29 => bif Nat.ble v29 1000 then (am_wr (am_nw M28 12 (List.replicate v29 (am_dv 12))) x0 9 14 (.ref M28.1.length)).bind fun M30 => (am_ix 5).bind fun v31 => bif Nat.ble v31 1000 then (am_wr (am_nw M30 11 (List.replicate v31 (am_dv 11))) x0 9 18 (.ref M30.1.length)).bind fun M32 => am_X cal k_Md_init 132 [(0, .ref x0), (1, .int 0)] [] M32 else none else none else none else none else none else none else none else none else none else none else none else none else none else none else none else none := (am_X_eq cal k_Md_init 0 _ _ M).trans rfl
theorem e_Md_init_132 (cal : aY) (x0 : Nat) (x1 : Int32) (M : aM) : am_X cal k_Md_init 132 [(0, .ref x0), (1, .int x1)] [] M = if 3 ≤ x1 then am_X cal k_Md_init 150 [] [] M else (am_rA M x0 9 2).bind fun v1 => (am_ix x1).bind fun v2 => (am_wr M v1 12 v2 (.int (1 &&& 1))).bind fun M3 => am_X cal k_Md_init 132 [(0, .ref x0), (1, .int (x1 + 1))] [] M3 := (am_X_eq cal k_Md_init 132 _ _ M).trans rfl
theorem e_Md_init_150 (cal : aY)  (M : aM) : am_X cal k_Md_init 150 [] [] M = some (.inl none, M) := (am_X_eq cal k_Md_init 150 _ _ M).trans rfl
theorem y_Md_thrown (d : Nat) (a0 : Nat) (M : aM) : am_Y (d + 1) 88 [.ref a0] M = am_X (am_Y d) k_Md_thrown 0 [(0, .ref a0)] [] M := rfl
theorem e_Md_thrown_0 (cal : aY) (x0 : Nat) (M : aM) : am_X cal k_Md_thrown 0 [(0, .ref x0)] [] M = (am_rI M x0 9 21).bind fun v1 => some (.inl (some (.int v1)), M) := (am_X_eq cal k_Md_thrown 0 _ _ M).trans rfl
theorem y_Md_type (d : Nat) (a0 : Nat) (a1 : Int32) (a2 : Int64) (M : aM) : am_Y (d + 1) 89 [.ref a0, .int a1, .long a2] M = am_X (am_Y d) k_Md_type 0 [(0, .ref a0), (1, .int a1), (2, .long a2)] [] M := rfl
theorem e_Md_type_0 (cal : aY) (x0 : Nat) (x1 : Int32) (x2 : Int64) (M : aM) : am_X cal k_Md_type 0 [(0, .ref x0), (1, .int x1), (2, .long x2)] [] M = am_cI (cal 90 [.int x1, .int 0, .int 2] M) (fun v3 M1 => am_X cal k_Md_type 15 [(0, .ref x0), (1, .int x1), (2, .long x2), (4, .int v3), (5, .int 0), (6, .int 56)] [] M1) (fun v2 M1 => some (.inr v2, M1)) := (am_X_eq cal k_Md_type 0 _ _ M).trans rfl
theorem e_Md_type_15 (cal : aY) (x0 : Nat) (x1 : Int32) (x2 : Int64) (x4 : Int32) (x5 : Int32) (x6 : Int32) (M : aM) : am_X cal k_Md_type 15 [(0, .ref x0), (1, .int x1), (2, .long x2), (4, .int x4), (5, .int x5), (6, .int x6)] [] M = if x6 < 0 then am_X cal k_Md_type 65 [(0, .ref x0), (1, .int x1), (2, .long x2), (4, .int x4), (5, .int x5)] [] M else if (Int64.toInt32 (x2 >>> (Int32.toInt64 x6 &&& 63))) &&& 255 = 0 then am_X cal k_Md_type 39 [(0, .ref x0), (1, .int x1), (2, .long x2), (4, .int x4), (5, .int x5), (6, .int x6), (7, .int ((Int64.toInt32 (x2 >>> (Int32.toInt64 x6 &&& 63))) &&& 255))] [] M else am_X cal k_Md_type 39 [(0, .ref x0), (1, .int x1), (2, .long x2), (4, .int x4), (5, .int (x5 + 1)), (6, .int x6), (7, .int ((Int64.toInt32 (x2 >>> (Int32.toInt64 x6 &&& 63))) &&& 255))] [] M := (am_X_eq cal k_Md_type 15 _ _ M).trans rfl
theorem e_Md_type_39 (cal : aY) (x0 : Nat) (x1 : Int32) (x2 : Int64) (x4 : Int32) (x5 : Int32) (x6 : Int32) (x7 : Int32) (M : aM) : am_X cal k_Md_type 39 [(0, .ref x0), (1, .int x1), (2, .long x2), (4, .int x4), (5, .int x5), (6, .int x6), (7, .int x7)] [] M = if x7 = 0 then am_X cal k_Md_type 59 [(0, .ref x0), (1, .int x1), (2, .long x2), (4, .int x4), (5, .int x5), (6, .int x6)] [] M else am_cI (cal 90 [.int x7, .int 33, .int 126] M) (fun v3 M1 => if ¬ v3 = 0 then am_X cal k_Md_type 59 [(0, .ref x0), (1, .int x1), (2, .long x2), (4, .int x4), (5, .int x5), (6, .int x6)] [] M1 else am_X cal k_Md_type 59 [(0, .ref x0), (1, .int x1), (2, .long x2), (4, .int 0), (5, .int x5), (6, .int x6)] [] M1) (fun v2 M1 => some (.inr v2, M1)) := (am_X_eq cal k_Md_type 39 _ _ M).trans rfl
theorem e_Md_type_59 (cal : aY) (x0 : Nat) (x1 : Int32) (x2 : Int64) (x4 : Int32) (x5 : Int32) (x6 : Int32) (M : aM) : am_X cal k_Md_type 59 [(0, .ref x0), (1, .int x1), (2, .long x2), (4, .int x4), (5, .int x5), (6, .int x6)] [] M = am_X cal k_Md_type 15 [(0, .ref x0), (1, .int x1), (2, .long x2), (4, .int x4), (5, .int x5), (6, .int (x6 + (-8)))] [] M := (am_X_eq cal k_Md_type 59 _ _ M).trans rfl
theorem e_Md_type_65 (cal : aY) (x0 : Nat) (x1 : Int32) (x2 : Int64) (x4 : Int32) (x5 : Int32) (M : aM) : am_X cal k_Md_type 65 [(0, .ref x0), (1, .int x1), (2, .long x2), (4, .int x4), (5, .int x5)] [] M = if ¬ x4 = 0 then am_X cal k_Md_type 76 [(0, .ref x0), (1, .int x1), (2, .long x2), (5, .int x5)] [] M else (am_ln M x0 9).bind fun _ => am_cI (cal 91 [.ref x0, .int 2] M) (fun v3 M1 => some (.inl (some (.int v3)), M1)) (fun v2 M1 => some (.inr v2, M1)) := (am_X_eq cal k_Md_type 65 _ _ M).trans rfl
theorem e_Md_type_76 (cal : aY) (x0 : Nat) (x1 : Int32) (x2 : Int64) (x5 : Int32) (M : aM) : am_X cal k_Md_type 76 [(0, .ref x0), (1, .int x1), (2, .long x2), (5, .int x5)] [] M = (am_rA M x0 9 1).bind fun v1 => (am_ix x1).bind fun v2 => (am_rI M v1 10 v2).bind fun v3 => if 60 < v3 + x5 then am_X cal k_Md_type 95 [(0, .ref x0), (1, .int x1), (2, .long x2)] [.ref x0] M else am_X cal k_Md_type 96 [(0, .ref x0), (1, .int x1), (2, .long x2)] [.int 1, .ref x0] M := (am_X_eq cal k_Md_type 76 _ _ M).trans rfl
theorem e_Md_type_95 (cal : aY) (x0 : Nat) (x1 : Int32) (x2 : Int64) (s0 : Nat) (M : aM) : am_X cal k_Md_type 95 [(0, .ref x0), (1, .int x1), (2, .long x2)] [.ref s0] M = am_X cal k_Md_type 96 [(0, .ref x0), (1, .int x1), (2, .long x2)] [.int 0, .ref s0] M := (am_X_eq cal k_Md_type 95 _ _ M).trans rfl
theorem e_Md_type_96 (cal : aY) (x0 : Nat) (x1 : Int32) (x2 : Int64) (s0 : Int32) (s1 : Nat) (M : aM) : am_X cal k_Md_type 96 [(0, .ref x0), (1, .int x1), (2, .long x2)] [.int s0, .ref s1] M = (am_ln M s1 9).bind fun _ => am_cI (cal 92 [.ref s1, .int s0, .int 1] M) (fun v3 M1 => if ¬ v3 = 0 then am_X cal k_Md_type 105 [(0, .ref x0), (1, .int x1), (2, .long x2)] [] M1 else some (.inl (some (.int 0)), M1)) (fun v2 M1 => some (.inr v2, M1)) := (am_X_eq cal k_Md_type 96 _ _ M).trans rfl
theorem e_Md_type_105 (cal : aY) (x0 : Nat) (x1 : Int32) (x2 : Int64) (M : aM) : am_X cal k_Md_type 105 [(0, .ref x0), (1, .int x1), (2, .long x2)] [] M = am_X cal k_Md_type 109 [(0, .ref x0), (1, .int x1), (2, .long x2), (6, .int 56)] [] M := (am_X_eq cal k_Md_type 105 _ _ M).trans rfl
theorem e_Md_type_109 (cal : aY) (x0 : Nat) (x1 : Int32) (x2 : Int64) (x6 : Int32) (M : aM) : am_X cal k_Md_type 109 [(0, .ref x0), (1, .int x1), (2, .long x2), (6, .int x6)] [] M = if x6 < 0 then am_X cal k_Md_type 164 [(0, .ref x0), (1, .int x1)] [] M else if (Int64.toInt32 (x2 >>> (Int32.toInt64 x6 &&& 63))) &&& 255 = 0 then am_X cal k_Md_type 158 [(0, .ref x0), (1, .int x1), (2, .long x2), (6, .int x6)] [] M else (am_rA M x0 9 0).bind fun v1 => (am_rA M x0 9 1).bind fun v2 => (am_ix x1).bind fun v3 => (am_rI M v2 10 v3).bind fun v4 => (am_ix ((60 * x1) + v4)).bind fun v5 => (am_wr M v1 10 v5 (.int ((Int64.toInt32 (x2 >>> (Int32.toInt64 x6 &&& 63))) &&& 255))).bind fun M6 => (am_rA M6 x0 9 1).bind fun v7 => (am_ix x1).bind fun v8 => (am_rI M6 v7 10 v8).bind fun v9 => (am_ix x1).bind fun v10 => (am_wr M6 v7 10 v10 (.int (v9 + 1))).bind fun M11 => am_X cal k_Md_type 158 [(0, .ref x0), (1, .int x1), (2, .long x2), (6, .int x6)] [] M11 := (am_X_eq cal k_Md_type 109 _ _ M).trans rfl
theorem e_Md_type_158 (cal : aY) (x0 : Nat) (x1 : Int32) (x2 : Int64) (x6 : Int32) (M : aM) : am_X cal k_Md_type 158 [(0, .ref x0), (1, .int x1), (2, .long x2), (6, .int x6)] [] M = am_X cal k_Md_type 109 [(0, .ref x0), (1, .int x1), (2, .long x2), (6, .int (x6 + (-8)))] [] M := (am_X_eq cal k_Md_type 158 _ _ M).trans rfl
theorem e_Md_type_164 (cal : aY) (x0 : Nat) (x1 : Int32) (M : aM) : am_X cal k_Md_type 164 [(0, .ref x0), (1, .int x1)] [] M = (am_rA M x0 9 2).bind fun v1 => (am_ix x1).bind fun v2 => (am_wr M v1 12 v2 (.int (0 &&& 1))).bind fun M3 => (am_rA M3 x0 9 1).bind fun v4 => (am_ix x1).bind fun v5 => (am_rI M3 v4 10 v5).bind fun v6 => some (.inl (some (.int v6)), M3) := (am_X_eq cal k_Md_type 164 _ _ M).trans rfl
theorem y_Md_in (d : Nat) (a0 : Int32) (a1 : Int32) (a2 : Int32) (M : aM) : am_Y (d + 1) 90 [.int a0, .int a1, .int a2] M = am_X (am_Y d) k_Md_in 0 [(0, .int a0), (1, .int a1), (2, .int a2)] [] M := rfl
theorem e_Md_in_0 (cal : aY) (x0 : Int32) (x1 : Int32) (x2 : Int32) (M : aM) : am_X cal k_Md_in 0 [(0, .int x0), (1, .int x1), (2, .int x2)] [] M = if x0 < x1 then am_X cal k_Md_in 14 [] [] M else if x2 < x0 then am_X cal k_Md_in 14 [] [] M else am_X cal k_Md_in 15 [] [.int 1] M := (am_X_eq cal k_Md_in 0 _ _ M).trans rfl
theorem e_Md_in_14 (cal : aY)  (M : aM) : am_X cal k_Md_in 14 [] [] M = am_X cal k_Md_in 15 [] [.int 0] M := (am_X_eq cal k_Md_in 14 _ _ M).trans rfl
theorem e_Md_in_15 (cal : aY) (s0 : Int32) (M : aM) : am_X cal k_Md_in 15 [] [.int s0] M = bif am_ft 3 (.int s0) then some (.inl (some (.int s0)), M) else none := (am_X_eq cal k_Md_in 15 _ _ M).trans rfl
theorem y_Md_fail (d : Nat) (a0 : Nat) (a1 : Int32) (M : aM) : am_Y (d + 1) 91 [.ref a0, .int a1] M = am_X (am_Y d) k_Md_fail 0 [(0, .ref a0), (1, .int a1)] [] M := rfl
theorem e_Md_fail_0 (cal : aY) (x0 : Nat) (x1 : Int32) (M : aM) : am_X cal k_Md_fail 0 [(0, .ref x0), (1, .int x1)] [] M = (am_wr M x0 9 21 (.int x1)).bind fun M1 => some (.inl (some (.int 0)), M1) := (am_X_eq cal k_Md_fail 0 _ _ M).trans rfl
theorem y_Md_good (d : Nat) (a0 : Nat) (a1 : Int32) (a2 : Int32) (M : aM) : am_Y (d + 1) 92 [.ref a0, .int a1, .int a2] M = am_X (am_Y d) k_Md_good 0 [(0, .ref a0), (1, .int a1), (2, .int a2)] [] M := rfl
theorem e_Md_good_0 (cal : aY) (x0 : Nat) (x1 : Int32) (x2 : Int32) (M : aM) : am_X cal k_Md_good 0 [(0, .ref x0), (1, .int x1), (2, .int x2)] [] M = if x1 = 0 then am_X cal k_Md_good 9 [(1, .int x1), (2, .int x2)] [.ref x0] M else am_X cal k_Md_good 10 [(1, .int x1)] [.int 0, .ref x0] M := (am_X_eq cal k_Md_good 0 _ _ M).trans rfl
theorem e_Md_good_9 (cal : aY) (x1 : Int32) (x2 : Int32) (s0 : Nat) (M : aM) : am_X cal k_Md_good 9 [(1, .int x1), (2, .int x2)] [.ref s0] M = am_X cal k_Md_good 10 [(1, .int x1)] [.int x2, .ref s0] M := (am_X_eq cal k_Md_good 9 _ _ M).trans rfl
theorem e_Md_good_10 (cal : aY) (x1 : Int32) (s0 : Int32) (s1 : Nat) (M : aM) : am_X cal k_Md_good 10 [(1, .int x1)] [.int s0, .ref s1] M = (am_wr M s1 9 21 (.int s0)).bind fun M1 => bif am_ft 3 (.int x1) then some (.inl (some (.int x1)), M1) else none := (am_X_eq cal k_Md_good 10 _ _ M).trans rfl
theorem y_Md_clear (d : Nat) (a0 : Nat) (a1 : Int32) (M : aM) : am_Y (d + 1) 93 [.ref a0, .int a1] M = am_X (am_Y d) k_Md_clear 0 [(0, .ref a0), (1, .int a1)] [] M := rfl
theorem e_Md_clear_0 (cal : aY) (x0 : Nat) (x1 : Int32) (M : aM) : am_X cal k_Md_clear 0 [(0, .ref x0), (1, .int x1)] [] M = am_cI (cal 90 [.int x1, .int 0, .int 2] M) (fun v3 M1 => (am_ln M1 x0 9).bind fun _ => am_cI (cal 92 [.ref x0, .int v3, .int 1] M1) (fun v6 M4 => if ¬ v6 = 0 then am_X cal k_Md_clear 16 [(0, .ref x0), (1, .int x1)] [] M4 else some (.inl (some (.int 0)), M4)) (fun v5 M4 => some (.inr v5, M4))) (fun v2 M1 => some (.inr v2, M1)) := (am_X_eq cal k_Md_clear 0 _ _ M).trans rfl
theorem e_Md_clear_16 (cal : aY) (x0 : Nat) (x1 : Int32) (M : aM) : am_X cal k_Md_clear 16 [(0, .ref x0), (1, .int x1)] [] M = (am_rA M x0 9 1).bind fun v1 => (am_ix x1).bind fun v2 => (am_rI M v1 10 v2).bind fun v3 => (am_rA M x0 9 1).bind fun v4 => (am_ix x1).bind fun v5 => (am_wr M v4 10 v5 (.int 0)).bind fun M6 => (am_rA M6 x0 9 2).bind fun v7 => (am_ix x1).bind fun v8 => (am_wr M6 v7 12 v8 (.int (1 &&& 1))).bind fun M9 => some (.inl (some (.int v3)), M9) := (am_X_eq cal k_Md_clear 16 _ _ M).trans rfl
theorem y_Md_check (d : Nat) (a0 : Nat) (a1 : Int32) (M : aM) : am_Y (d + 1) 94 [.ref a0, .int a1] M = am_X (am_Y d) k_Md_check 0 [(0, .ref a0), (1, .int a1)] [] M := rfl
theorem e_Md_check_0 (cal : aY) (x0 : Nat) (x1 : Int32) (M : aM) : am_X cal k_Md_check 0 [(0, .ref x0), (1, .int x1)] [] M = am_cI (cal 90 [.int x1, .int 0, .int 2] M) (fun v3 M1 => (am_ln M1 x0 9).bind fun _ => am_cI (cal 92 [.ref x0, .int v3, .int 1] M1) (fun v6 M4 => if ¬ v6 = 0 then am_X cal k_Md_check 16 [(0, .ref x0), (1, .int x1)] [] M4 else some (.inl (some (.int 0)), M4)) (fun v5 M4 => some (.inr v5, M4))) (fun v2 M1 => some (.inr v2, M1)) := (am_X_eq cal k_Md_check 0 _ _ M).trans rfl
theorem e_Md_check_16 (cal : aY) (x0 : Nat) (x1 : Int32) (M : aM) : am_X cal k_Md_check 16 [(0, .ref x0), (1, .int x1)] [] M = (am_ln M x0 9).bind fun _ => am_cI (cal 95 [.ref x0, .int x1] M) (fun v3 M1 => if ¬ v3 = (-2) then am_X cal k_Md_check 31 [(0, .ref x0), (1, .int x1)] [.ref x0] M1 else am_X cal k_Md_check 32 [(0, .ref x0), (1, .int x1)] [.int 1, .ref x0] M1) (fun v2 M1 => some (.inr v2, M1)) := (am_X_eq cal k_Md_check 16 _ _ M).trans rfl
theorem e_Md_check_31 (cal : aY) (x0 : Nat) (x1 : Int32) (s0 : Nat) (M : aM) : am_X cal k_Md_check 31 [(0, .ref x0), (1, .int x1)] [.ref s0] M = am_X cal k_Md_check 32 [(0, .ref x0), (1, .int x1)] [.int 0, .ref s0] M := (am_X_eq cal k_Md_check 31 _ _ M).trans rfl
theorem e_Md_check_32 (cal : aY) (x0 : Nat) (x1 : Int32) (s0 : Int32) (s1 : Nat) (M : aM) : am_X cal k_Md_check 32 [(0, .ref x0), (1, .int x1)] [.int s0, .ref s1] M = (am_ln M s1 9).bind fun _ => am_cI (cal 92 [.ref s1, .int s0, .int 2] M) (fun v3 M1 => if ¬ v3 = 0 then am_X cal k_Md_check 41 [(0, .ref x0), (1, .int x1)] [] M1 else some (.inl (some (.int 0)), M1)) (fun v2 M1 => some (.inr v2, M1)) := (am_X_eq cal k_Md_check 32 _ _ M).trans rfl
theorem e_Md_check_41 (cal : aY) (x0 : Nat) (x1 : Int32) (M : aM) : am_X cal k_Md_check 41 [(0, .ref x0), (1, .int x1)] [] M = (am_rA M x0 9 2).bind fun v1 => (am_ix x1).bind fun v2 => (am_wr M v1 12 v2 (.int (1 &&& 1))).bind fun M3 => (am_ln M3 x0 9).bind fun _ => am_cI (cal 103 [.ref x0, .int x1] M3) (fun v6 M4 => some (.inl (some (.int v6)), M4)) (fun v5 M4 => some (.inr v5, M4)) := (am_X_eq cal k_Md_check 41 _ _ M).trans rfl
theorem y_Md_read (d : Nat) (a0 : Nat) (a1 : Int32) (M : aM) : am_Y (d + 1) 95 [.ref a0, .int a1] M = am_X (am_Y d) k_Md_read 0 [(0, .ref a0), (1, .int a1)] [] M := rfl
theorem e_Md_read_0 (cal : aY) (x0 : Nat) (x1 : Int32) (M : aM) : am_X cal k_Md_read 0 [(0, .ref x0), (1, .int x1)] [] M = (am_wr M x0 9 16 (.int 0)).bind fun M1 => (am_wr M1 x0 9 15 (.int 0)).bind fun M2 => am_X cal k_Md_read 12 [(0, .ref x0), (1, .int x1), (2, .int 0)] [] M2 := (am_X_eq cal k_Md_read 0 _ _ M).trans rfl
theorem e_Md_read_12 (cal : aY) (x0 : Nat) (x1 : Int32) (x2 : Int32) (M : aM) : am_X cal k_Md_read 12 [(0, .ref x0), (1, .int x1), (2, .int x2)] [] M = (am_rA M x0 9 1).bind fun v1 => (am_ix x1).bind fun v2 => (am_rI M v1 10 v2).bind fun v3 => if v3 ≤ x2 then am_X cal k_Md_read 48 [(0, .ref x0), (1, .int x1)] [] M else (am_rA M x0 9 0).bind fun v4 => (am_ix ((60 * x1) + x2)).bind fun v5 => (am_rI M v4 10 v5).bind fun v6 => (am_ln M x0 9).bind fun _ => am_cI (cal 96 [.ref x0, .int v6] M) (fun v9 M7 => if ¬ v9 = 0 then am_X cal k_Md_read 42 [(0, .ref x0), (1, .int x1), (2, .int x2)] [] M7 else some (.inl (some (.int x2)), M7)) (fun v8 M7 => some (.inr v8, M7)) := (am_X_eq cal k_Md_read 12 _ _ M).trans rfl
theorem e_Md_read_42 (cal : aY) (x0 : Nat) (x1 : Int32) (x2 : Int32) (M : aM) : am_X cal k_Md_read 42 [(0, .ref x0), (1, .int x1), (2, .int x2)] [] M = am_X cal k_Md_read 12 [(0, .ref x0), (1, .int x1), (2, .int (x2 + 1))] [] M := (am_X_eq cal k_Md_read 42 _ _ M).trans rfl
theorem e_Md_read_48 (cal : aY) (x0 : Nat) (x1 : Int32) (M : aM) : am_X cal k_Md_read 48 [(0, .ref x0), (1, .int x1)] [] M = (am_rI M x0 9 16).bind fun v1 => if ¬ v1 = 0 then am_X cal k_Md_read 60 [(0, .ref x0), (1, .int x1)] [] M else am_X cal k_Md_read 66 [] [.int (-2)] M := (am_X_eq cal k_Md_read 48 _ _ M).trans rfl
theorem e_Md_read_60 (cal : aY) (x0 : Nat) (x1 : Int32) (M : aM) : am_X cal k_Md_read 60 [(0, .ref x0), (1, .int x1)] [] M = (am_rA M x0 9 1).bind fun v1 => (am_ix x1).bind fun v2 => (am_rI M v1 10 v2).bind fun v3 => am_X cal k_Md_read 66 [] [.int v3] M := (am_X_eq cal k_Md_read 60 _ _ M).trans rfl
theorem e_Md_read_66 (cal : aY) (s0 : Int32) (M : aM) : am_X cal k_Md_read 66 [] [.int s0] M = some (.inl (some (.int s0)), M) := (am_X_eq cal k_Md_read 66 _ _ M).trans rfl
theorem y_Md_stands (d : Nat) (a0 : Nat) (a1 : Int32) (M : aM) : am_Y (d + 1) 96 [.ref a0, .int a1] M = am_X (am_Y d) k_Md_stands 0 [(0, .ref a0), (1, .int a1)] [] M := rfl
theorem e_Md_stands_0 (cal : aY) (x0 : Nat) (x1 : Int32) (M : aM) : am_X cal k_Md_stands 0 [(0, .ref x0), (1, .int x1)] [] M = (am_rI M x0 9 16).bind fun v1 => if ¬ v1 = 0 then am_X cal k_Md_stands 14 [(0, .ref x0), (1, .int x1), (2, .int v1)] [] M else (am_wr M x0 9 17 (.int 0)).bind fun M2 => am_X cal k_Md_stands 14 [(0, .ref x0), (1, .int x1), (2, .int v1)] [] M2 := (am_X_eq cal k_Md_stands 0 _ _ M).trans rfl
theorem e_Md_stands_14 (cal : aY) (x0 : Nat) (x1 : Int32) (x2 : Int32) (M : aM) : am_X cal k_Md_stands 14 [(0, .ref x0), (1, .int x1), (2, .int x2)] [] M = if 2 ≤ x2 then am_X cal k_Md_stands 25 [(0, .ref x0), (1, .int x1), (2, .int x2)] [] M else (am_ln M x0 9).bind fun _ => am_cI (cal 97 [.ref x0, .int x1] M) (fun v3 M1 => bif am_ft 3 (.int v3) then some (.inl (some (.int v3)), M1) else none) (fun v2 M1 => some (.inr v2, M1)) := (am_X_eq cal k_Md_stands 14 _ _ M).trans rfl
theorem e_Md_stands_25 (cal : aY) (x0 : Nat) (x1 : Int32) (x2 : Int32) (M : aM) : am_X cal k_Md_stands 25 [(0, .ref x0), (1, .int x1), (2, .int x2)] [] M = if x2 = 2 then am_X cal k_Md_stands 35 [(0, .ref x0), (1, .int x1), (2, .int x2)] [] M else if ¬ x2 = 3 then am_X cal k_Md_stands 83 [(0, .ref x0), (1, .int x1), (2, .int x2)] [] M else am_X cal k_Md_stands 35 [(0, .ref x0), (1, .int x1), (2, .int x2)] [] M := (am_X_eq cal k_Md_stands 25 _ _ M).trans rfl
theorem e_Md_stands_35 (cal : aY) (x0 : Nat) (x1 : Int32) (x2 : Int32) (M : aM) : am_X cal k_Md_stands 35 [(0, .ref x0), (1, .int x1), (2, .int x2)] [] M = (am_wr M x0 9 16 (.int 1)).bind fun M1 => if ¬ x2 = 2 then am_X cal k_Md_stands 57 [(0, .ref x0), (1, .int x1)] [] M1 else if ¬ x1 = 44 then am_X cal k_Md_stands 55 [] [] M1 else am_X cal k_Md_stands 56 [] [.int 1] M1 := (am_X_eq cal k_Md_stands 35 _ _ M).trans rfl
theorem e_Md_stands_55 (cal : aY)  (M : aM) : am_X cal k_Md_stands 55 [] [] M = am_X cal k_Md_stands 56 [] [.int 0] M := (am_X_eq cal k_Md_stands 55 _ _ M).trans rfl
theorem e_Md_stands_56 (cal : aY) (s0 : Int32) (M : aM) : am_X cal k_Md_stands 56 [] [.int s0] M = bif am_ft 3 (.int s0) then some (.inl (some (.int s0)), M) else none := (am_X_eq cal k_Md_stands 56 _ _ M).trans rfl
theorem e_Md_stands_57 (cal : aY) (x0 : Nat) (x1 : Int32) (M : aM) : am_X cal k_Md_stands 57 [(0, .ref x0), (1, .int x1)] [] M = (am_rI M x0 9 15).bind fun v1 => (am_wr M x0 9 15 (.int (v1 - 1))).bind fun M2 => (am_ln M2 x0 9).bind fun _ => am_cV (cal 101 [.ref x0] M2) (fun M3 => if ¬ x1 = 41 then am_X cal k_Md_stands 81 [] [] M3 else am_X cal k_Md_stands 82 [] [.int 1] M3) (fun v4 M3 => some (.inr v4, M3)) := (am_X_eq cal k_Md_stands 57 _ _ M).trans rfl
theorem e_Md_stands_81 (cal : aY)  (M : aM) : am_X cal k_Md_stands 81 [] [] M = am_X cal k_Md_stands 82 [] [.int 0] M := (am_X_eq cal k_Md_stands 81 _ _ M).trans rfl
theorem e_Md_stands_82 (cal : aY) (s0 : Int32) (M : aM) : am_X cal k_Md_stands 82 [] [.int s0] M = bif am_ft 3 (.int s0) then some (.inl (some (.int s0)), M) else none := (am_X_eq cal k_Md_stands 82 _ _ M).trans rfl
theorem e_Md_stands_83 (cal : aY) (x0 : Nat) (x1 : Int32) (x2 : Int32) (M : aM) : am_X cal k_Md_stands 83 [(0, .ref x0), (1, .int x1), (2, .int x2)] [] M = if ¬ x2 = 4 then am_X cal k_Md_stands 127 [(0, .ref x0), (1, .int x1), (2, .int x2)] [] M else (am_wr M x0 9 17 (.int 1)).bind fun M1 => if ¬ x1 = 63 then am_X cal k_Md_stands 104 [(1, .int x1)] [.ref x0] M1 else am_X cal k_Md_stands 106 [(1, .int x1)] [.int 1, .ref x0] M1 := (am_X_eq cal k_Md_stands 83 _ _ M).trans rfl
theorem e_Md_stands_104 (cal : aY) (x1 : Int32) (s0 : Nat) (M : aM) : am_X cal k_Md_stands 104 [(1, .int x1)] [.ref s0] M = am_X cal k_Md_stands 106 [(1, .int x1)] [.int 7, .ref s0] M := (am_X_eq cal k_Md_stands 104 _ _ M).trans rfl
theorem e_Md_stands_106 (cal : aY) (x1 : Int32) (s0 : Int32) (s1 : Nat) (M : aM) : am_X cal k_Md_stands 106 [(1, .int x1)] [.int s0, .ref s1] M = (am_wr M s1 9 16 (.int s0)).bind fun M1 => if x1 = 63 then am_X cal k_Md_stands 121 [] [] M1 else if ¬ x1 = 58 then am_X cal k_Md_stands 125 [] [] M1 else am_X cal k_Md_stands 121 [] [] M1 := (am_X_eq cal k_Md_stands 106 _ _ M).trans rfl
theorem e_Md_stands_121 (cal : aY)  (M : aM) : am_X cal k_Md_stands 121 [] [] M = am_X cal k_Md_stands 126 [] [.int 1] M := (am_X_eq cal k_Md_stands 121 _ _ M).trans rfl
theorem e_Md_stands_125 (cal : aY)  (M : aM) : am_X cal k_Md_stands 125 [] [] M = am_X cal k_Md_stands 126 [] [.int 0] M := (am_X_eq cal k_Md_stands 125 _ _ M).trans rfl
theorem e_Md_stands_126 (cal : aY) (s0 : Int32) (M : aM) : am_X cal k_Md_stands 126 [] [.int s0] M = bif am_ft 3 (.int s0) then some (.inl (some (.int s0)), M) else none := (am_X_eq cal k_Md_stands 126 _ _ M).trans rfl
theorem e_Md_stands_127 (cal : aY) (x0 : Nat) (x1 : Int32) (x2 : Int32) (M : aM) : am_X cal k_Md_stands 127 [(0, .ref x0), (1, .int x1), (2, .int x2)] [] M = if ¬ x2 = 5 then am_X cal k_Md_stands 160 [(0, .ref x0), (1, .int x1), (2, .int x2)] [] M else (am_wr M x0 9 17 (.int 2)).bind fun M1 => (am_wr M1 x0 9 16 (.int 1)).bind fun M2 => if x1 = 60 then am_X cal k_Md_stands 154 [] [] M2 else if ¬ x1 = 61 then am_X cal k_Md_stands 158 [] [] M2 else am_X cal k_Md_stands 154 [] [] M2 := (am_X_eq cal k_Md_stands 127 _ _ M).trans rfl
theorem e_Md_stands_154 (cal : aY)  (M : aM) : am_X cal k_Md_stands 154 [] [] M = am_X cal k_Md_stands 159 [] [.int 1] M := (am_X_eq cal k_Md_stands 154 _ _ M).trans rfl
theorem e_Md_stands_158 (cal : aY)  (M : aM) : am_X cal k_Md_stands 158 [] [] M = am_X cal k_Md_stands 159 [] [.int 0] M := (am_X_eq cal k_Md_stands 158 _ _ M).trans rfl
theorem e_Md_stands_159 (cal : aY) (s0 : Int32) (M : aM) : am_X cal k_Md_stands 159 [] [.int s0] M = bif am_ft 3 (.int s0) then some (.inl (some (.int s0)), M) else none := (am_X_eq cal k_Md_stands 159 _ _ M).trans rfl
theorem e_Md_stands_160 (cal : aY) (x0 : Nat) (x1 : Int32) (x2 : Int32) (M : aM) : am_X cal k_Md_stands 160 [(0, .ref x0), (1, .int x1), (2, .int x2)] [] M = if ¬ x2 = 7 then am_X cal k_Md_stands 172 [(0, .ref x0), (1, .int x1), (2, .int x2)] [] M else (am_ln M x0 9).bind fun _ => am_cI (cal 102 [.ref x0, .int x1] M) (fun v3 M1 => bif am_ft 3 (.int v3) then some (.inl (some (.int v3)), M1) else none) (fun v2 M1 => some (.inr v2, M1)) := (am_X_eq cal k_Md_stands 160 _ _ M).trans rfl
theorem e_Md_stands_172 (cal : aY) (x0 : Nat) (x1 : Int32) (x2 : Int32) (M : aM) : am_X cal k_Md_stands 172 [(0, .ref x0), (1, .int x1), (2, .int x2)] [] M = if ¬ x2 = 8 then am_X cal k_Md_stands 184 [(0, .ref x0), (1, .int x1), (2, .int x2)] [.ref x0] M else am_X cal k_Md_stands 197 [(0, .ref x0), (1, .int x1), (2, .int x2)] [.int 9, .ref x0] M := (am_X_eq cal k_Md_stands 172 _ _ M).trans rfl
theorem e_Md_stands_184 (cal : aY) (x0 : Nat) (x1 : Int32) (x2 : Int32) (s0 : Nat) (M : aM) : am_X cal k_Md_stands 184 [(0, .ref x0), (1, .int x1), (2, .int x2)] [.ref s0] M = if ¬ x2 = 10 then am_X cal k_Md_stands 195 [(0, .ref x0), (1, .int x1), (2, .int x2)] [.ref s0] M else am_X cal k_Md_stands 197 [(0, .ref x0), (1, .int x1), (2, .int x2)] [.int 11, .ref s0] M := (am_X_eq cal k_Md_stands 184 _ _ M).trans rfl
theorem e_Md_stands_195 (cal : aY) (x0 : Nat) (x1 : Int32) (x2 : Int32) (s0 : Nat) (M : aM) : am_X cal k_Md_stands 195 [(0, .ref x0), (1, .int x1), (2, .int x2)] [.ref s0] M = am_X cal k_Md_stands 197 [(0, .ref x0), (1, .int x1), (2, .int x2)] [.int 7, .ref s0] M := (am_X_eq cal k_Md_stands 195 _ _ M).trans rfl
theorem e_Md_stands_197 (cal : aY) (x0 : Nat) (x1 : Int32) (x2 : Int32) (s0 : Int32) (s1 : Nat) (M : aM) : am_X cal k_Md_stands 197 [(0, .ref x0), (1, .int x1), (2, .int x2)] [.int s0, .ref s1] M = (am_wr M s1 9 16 (.int s0)).bind fun M1 => if ¬ x2 = 9 then am_X cal k_Md_stands 210 [(1, .int x1), (2, .int x2)] [] M1 else (am_ln M1 x0 9).bind fun _ => am_cV (cal 101 [.ref x0] M1) (fun M2 => am_X cal k_Md_stands 210 [(1, .int x1), (2, .int x2)] [] M2) (fun v3 M2 => some (.inr v3, M2)) := (am_X_eq cal k_Md_stands 197 _ _ M).trans rfl
theorem e_Md_stands_210 (cal : aY) (x1 : Int32) (x2 : Int32) (M : aM) : am_X cal k_Md_stands 210 [(1, .int x1), (2, .int x2)] [] M = if ¬ x2 = 6 then am_X cal k_Md_stands 228 [(1, .int x1), (2, .int x2)] [] M else if ¬ x1 = 58 then am_X cal k_Md_stands 226 [] [] M else am_X cal k_Md_stands 227 [] [.int 1] M := (am_X_eq cal k_Md_stands 210 _ _ M).trans rfl
theorem e_Md_stands_226 (cal : aY)  (M : aM) : am_X cal k_Md_stands 226 [] [] M = am_X cal k_Md_stands 227 [] [.int 0] M := (am_X_eq cal k_Md_stands 226 _ _ M).trans rfl
theorem e_Md_stands_227 (cal : aY) (s0 : Int32) (M : aM) : am_X cal k_Md_stands 227 [] [.int s0] M = bif am_ft 3 (.int s0) then some (.inl (some (.int s0)), M) else none := (am_X_eq cal k_Md_stands 227 _ _ M).trans rfl
theorem e_Md_stands_228 (cal : aY) (x1 : Int32) (x2 : Int32) (M : aM) : am_X cal k_Md_stands 228 [(1, .int x1), (2, .int x2)] [] M = if x2 = 8 then am_X cal k_Md_stands 240 [(1, .int x1)] [] M else if ¬ x2 = 9 then am_X cal k_Md_stands 245 [(1, .int x1), (2, .int x2)] [] M else am_X cal k_Md_stands 240 [(1, .int x1)] [] M := (am_X_eq cal k_Md_stands 228 _ _ M).trans rfl
theorem e_Md_stands_240 (cal : aY) (x1 : Int32) (M : aM) : am_X cal k_Md_stands 240 [(1, .int x1)] [] M = am_cI (cal 98 [.int x1] M) (fun v3 M1 => bif am_ft 3 (.int v3) then some (.inl (some (.int v3)), M1) else none) (fun v2 M1 => some (.inr v2, M1)) := (am_X_eq cal k_Md_stands 240 _ _ M).trans rfl
theorem e_Md_stands_245 (cal : aY) (x1 : Int32) (x2 : Int32) (M : aM) : am_X cal k_Md_stands 245 [(1, .int x1), (2, .int x2)] [] M = if ¬ x2 = 11 then am_X cal k_Md_stands 266 [(1, .int x1), (2, .int x2)] [] M else am_cI (cal 100 [.int x1] M) (fun v3 M1 => if v3 < 0 then am_X cal k_Md_stands 262 [] [] M1 else am_X cal k_Md_stands 285 [] [.int 1] M1) (fun v2 M1 => some (.inr v2, M1)) := (am_X_eq cal k_Md_stands 245 _ _ M).trans rfl
theorem e_Md_stands_262 (cal : aY)  (M : aM) : am_X cal k_Md_stands 262 [] [] M = am_X cal k_Md_stands 285 [] [.int 0] M := (am_X_eq cal k_Md_stands 262 _ _ M).trans rfl
theorem e_Md_stands_266 (cal : aY) (x1 : Int32) (x2 : Int32) (M : aM) : am_X cal k_Md_stands 266 [(1, .int x1), (2, .int x2)] [] M = if ¬ x2 = 10 then am_X cal k_Md_stands 280 [] [.int 48, .int x1] M else am_X cal k_Md_stands 282 [] [.int 50, .int 48, .int x1] M := (am_X_eq cal k_Md_stands 266 _ _ M).trans rfl
theorem e_Md_stands_280 (cal : aY) (s0 : Int32) (s1 : Int32) (M : aM) : am_X cal k_Md_stands 280 [] [.int s0, .int s1] M = am_X cal k_Md_stands 282 [] [.int 49, .int s0, .int s1] M := (am_X_eq cal k_Md_stands 280 _ _ M).trans rfl
theorem e_Md_stands_282 (cal : aY) (s0 : Int32) (s1 : Int32) (s2 : Int32) (M : aM) : am_X cal k_Md_stands 282 [] [.int s0, .int s1, .int s2] M = am_cI (cal 90 [.int s2, .int s1, .int s0] M) (fun v3 M1 => am_X cal k_Md_stands 285 [] [.int v3] M1) (fun v2 M1 => some (.inr v2, M1)) := (am_X_eq cal k_Md_stands 282 _ _ M).trans rfl
theorem e_Md_stands_285 (cal : aY) (s0 : Int32) (M : aM) : am_X cal k_Md_stands 285 [] [.int s0] M = bif am_ft 3 (.int s0) then some (.inl (some (.int s0)), M) else none := (am_X_eq cal k_Md_stands 285 _ _ M).trans rfl
theorem y_Md_piece (d : Nat) (a0 : Nat) (a1 : Int32) (M : aM) : am_Y (d + 1) 97 [.ref a0, .int a1] M = am_X (am_Y d) k_Md_piece 0 [(0, .ref a0), (1, .int a1)] [] M := rfl
theorem e_Md_piece_0 (cal : aY) (x0 : Nat) (x1 : Int32) (M : aM) : am_X cal k_Md_piece 0 [(0, .ref x0), (1, .int x1)] [] M = (am_rI M x0 9 17).bind fun v1 => if ¬ v1 = 0 then am_X cal k_Md_piece 11 [(0, .ref x0), (1, .int x1)] [] M else am_X cal k_Md_piece 12 [(0, .ref x0), (1, .int x1)] [.int 1] M := (am_X_eq cal k_Md_piece 0 _ _ M).trans rfl
theorem e_Md_piece_11 (cal : aY) (x0 : Nat) (x1 : Int32) (M : aM) : am_X cal k_Md_piece 11 [(0, .ref x0), (1, .int x1)] [] M = am_X cal k_Md_piece 12 [(0, .ref x0), (1, .int x1)] [.int 0] M := (am_X_eq cal k_Md_piece 11 _ _ M).trans rfl
theorem e_Md_piece_12 (cal : aY) (x0 : Nat) (x1 : Int32) (s0 : Int32) (M : aM) : am_X cal k_Md_piece 12 [(0, .ref x0), (1, .int x1)] [.int s0] M = if x1 = 40 then am_X cal k_Md_piece 41 [(0, .ref x0), (1, .int x1)] [] M else if ¬ s0 = 0 then am_X cal k_Md_piece 88 [(0, .ref x0), (1, .int x1), (2, .int s0)] [] M else if x1 = 43 then am_X cal k_Md_piece 41 [(0, .ref x0), (1, .int x1)] [] M else if x1 = 45 then am_X cal k_Md_piece 41 [(0, .ref x0), (1, .int x1)] [] M else if ¬ x1 = 47 then am_X cal k_Md_piece 88 [(0, .ref x0), (1, .int x1), (2, .int s0)] [] M else am_X cal k_Md_piece 41 [(0, .ref x0), (1, .int x1)] [] M := (am_X_eq cal k_Md_piece 12 _ _ M).trans rfl
theorem e_Md_piece_41 (cal : aY) (x0 : Nat) (x1 : Int32) (M : aM) : am_X cal k_Md_piece 41 [(0, .ref x0), (1, .int x1)] [] M = (am_rI M x0 9 15).bind fun v1 => if ¬ v1 = 4 then am_X cal k_Md_piece 51 [(0, .ref x0), (1, .int x1)] [] M else some (.inl (some (.int 0)), M) := (am_X_eq cal k_Md_piece 41 _ _ M).trans rfl
theorem e_Md_piece_51 (cal : aY) (x0 : Nat) (x1 : Int32) (M : aM) : am_X cal k_Md_piece 51 [(0, .ref x0), (1, .int x1)] [] M = (am_rA M x0 9 13).bind fun v1 => (am_rI M x0 9 15).bind fun v2 => (am_ix v2).bind fun v3 => (am_wr M v1 10 v3 (.int x1)).bind fun M4 => (am_rA M4 x0 9 14).bind fun v5 => (am_rI M4 x0 9 15).bind fun v6 => (am_ix v6).bind fun v7 => (am_wr M4 v5 12 v7 (.int (0 &&& 1))).bind fun M8 => (am_rI M8 x0 9 15).bind fun v9 => (am_wr M8 x0 9 15 (.int (v9 + 1))).bind fun M10 => (am_wr M10 x0 9 16 (.int 1)).bind fun M11 => some (.inl (some (.int 1)), M11) := (am_X_eq cal k_Md_piece 51 _ _ M).trans rfl
theorem e_Md_piece_88 (cal : aY) (x0 : Nat) (x1 : Int32) (x2 : Int32) (M : aM) : am_X cal k_Md_piece 88 [(0, .ref x0), (1, .int x1), (2, .int x2)] [] M = if ¬ x1 = 39 then am_X cal k_Md_piece 102 [(0, .ref x0), (1, .int x1), (2, .int x2)] [] M else (am_wr M x0 9 16 (.int 8)).bind fun M1 => some (.inl (some (.int 1)), M1) := (am_X_eq cal k_Md_piece 88 _ _ M).trans rfl
theorem e_Md_piece_102 (cal : aY) (x0 : Nat) (x1 : Int32) (x2 : Int32) (M : aM) : am_X cal k_Md_piece 102 [(0, .ref x0), (1, .int x1), (2, .int x2)] [] M = am_cI (cal 98 [.int x1] M) (fun v3 M1 => if ¬ v3 = 0 then am_X cal k_Md_piece 140 [(0, .ref x0)] [] M1 else am_cI (cal 99 [.int x1] M1) (fun v6 M4 => if ¬ v6 = 0 then am_X cal k_Md_piece 140 [(0, .ref x0)] [] M4 else am_cI (cal 100 [.int x1] M4) (fun v9 M7 => if 0 ≤ v9 then am_X cal k_Md_piece 140 [(0, .ref x0)] [] M7 else if x2 = 0 then am_X cal k_Md_piece 133 [(0, .ref x0)] [.int x1] M7 else am_X cal k_Md_piece 135 [(0, .ref x0)] [.int 95, .int x1] M7) (fun v8 M7 => some (.inr v8, M7))) (fun v5 M4 => some (.inr v5, M4))) (fun v2 M1 => some (.inr v2, M1)) := (am_X_eq cal k_Md_piece 102 _ _ M).trans rfl
theorem e_Md_piece_133 (cal : aY) (x0 : Nat) (s0 : Int32) (M : aM) : am_X cal k_Md_piece 133 [(0, .ref x0)] [.int s0] M = am_X cal k_Md_piece 135 [(0, .ref x0)] [.int 35, .int s0] M := (am_X_eq cal k_Md_piece 133 _ _ M).trans rfl
theorem e_Md_piece_135 (cal : aY) (x0 : Nat) (s0 : Int32) (s1 : Int32) (M : aM) : am_X cal k_Md_piece 135 [(0, .ref x0)] [.int s0, .int s1] M = if s1 = s0 then am_X cal k_Md_piece 140 [(0, .ref x0)] [] M else some (.inl (some (.int 0)), M) := (am_X_eq cal k_Md_piece 135 _ _ M).trans rfl
theorem e_Md_piece_140 (cal : aY) (x0 : Nat) (M : aM) : am_X cal k_Md_piece 140 [(0, .ref x0)] [] M = (am_ln M x0 9).bind fun _ => am_cV (cal 101 [.ref x0] M) (fun M1 => some (.inl (some (.int 1)), M1)) (fun v2 M1 => some (.inr v2, M1)) := (am_X_eq cal k_Md_piece 140 _ _ M).trans rfl
theorem y_Md_isDigit (d : Nat) (a0 : Int32) (M : aM) : am_Y (d + 1) 98 [.int a0] M = am_X (am_Y d) k_Md_isDigit 0 [(0, .int a0)] [] M := rfl
theorem e_Md_isDigit_0 (cal : aY) (x0 : Int32) (M : aM) : am_X cal k_Md_isDigit 0 [(0, .int x0)] [] M = am_cI (cal 90 [.int x0, .int 48, .int 57] M) (fun v3 M1 => bif am_ft 3 (.int v3) then some (.inl (some (.int v3)), M1) else none) (fun v2 M1 => some (.inr v2, M1)) := (am_X_eq cal k_Md_isDigit 0 _ _ M).trans rfl
theorem y_Md_isAtom (d : Nat) (a0 : Int32) (M : aM) : am_Y (d + 1) 99 [.int a0] M = am_X (am_Y d) k_Md_isAtom 0 [(0, .int a0)] [] M := rfl
theorem e_Md_isAtom_0 (cal : aY) (x0 : Int32) (M : aM) : am_X cal k_Md_isAtom 0 [(0, .int x0)] [] M = am_cI (cal 90 [.int x0, .int 97, .int 104] M) (fun v3 M1 => bif am_ft 3 (.int v3) then some (.inl (some (.int v3)), M1) else none) (fun v2 M1 => some (.inr v2, M1)) := (am_X_eq cal k_Md_isAtom 0 _ _ M).trans rfl
theorem y_Md_variableOf (d : Nat) (a0 : Int32) (M : aM) : am_Y (d + 1) 100 [.int a0] M = am_X (am_Y d) k_Md_variableOf 0 [(0, .int a0)] [] M := rfl
theorem e_Md_variableOf_0 (cal : aY) (x0 : Int32) (M : aM) : am_X cal k_Md_variableOf 0 [(0, .int x0)] [] M = am_cI (cal 90 [.int x0, .int 65, .int 69] M) (fun v3 M1 => if v3 = 0 then am_X cal k_Md_variableOf 18 [(0, .int x0)] [] M1 else am_X cal k_Md_variableOf 29 [] [.int (x0 - 65)] M1) (fun v2 M1 => some (.inr v2, M1)) := (am_X_eq cal k_Md_variableOf 0 _ _ M).trans rfl
theorem e_Md_variableOf_18 (cal : aY) (x0 : Int32) (M : aM) : am_X cal k_Md_variableOf 18 [(0, .int x0)] [] M = if ¬ x0 = 83 then am_X cal k_Md_variableOf 28 [] [] M else am_X cal k_Md_variableOf 29 [] [.int 5] M := (am_X_eq cal k_Md_variableOf 18 _ _ M).trans rfl
theorem e_Md_variableOf_28 (cal : aY)  (M : aM) : am_X cal k_Md_variableOf 28 [] [] M = am_X cal k_Md_variableOf 29 [] [.int (-1)] M := (am_X_eq cal k_Md_variableOf 28 _ _ M).trans rfl
theorem e_Md_variableOf_29 (cal : aY) (s0 : Int32) (M : aM) : am_X cal k_Md_variableOf 29 [] [.int s0] M = some (.inl (some (.int s0)), M) := (am_X_eq cal k_Md_variableOf 29 _ _ M).trans rfl
theorem y_Md_complete (d : Nat) (a0 : Nat) (M : aM) : am_Y (d + 1) 101 [.ref a0] M = am_X (am_Y d) k_Md_complete 0 [(0, .ref a0)] [] M := rfl
theorem e_Md_complete_0 (cal : aY) (x0 : Nat) (M : aM) : am_X cal k_Md_complete 0 [(0, .ref x0)] [] M = (am_rI M x0 9 15).bind fun v1 => if v1 ≤ 0 then am_X cal k_Md_complete 81 [(0, .ref x0)] [] M else (am_rI M x0 9 15).bind fun v2 => (am_rA M x0 9 14).bind fun v3 => (am_ix (v2 - 1)).bind fun v4 => (am_rI M v3 12 v4).bind fun v5 => if ¬ v5 = 0 then am_X cal k_Md_complete 51 [(0, .ref x0), (1, .int (v2 - 1))] [] M else (am_rA M x0 9 14).bind fun v6 => (am_ix (v2 - 1)).bind fun v7 => (am_wr M v6 12 v7 (.int (1 &&& 1))).bind fun M8 => (am_rA M8 x0 9 13).bind fun v9 => (am_ix (v2 - 1)).bind fun v10 => (am_rI M8 v9 10 v10).bind fun v11 => if ¬ v11 = 40 then am_X cal k_Md_complete 46 [] [.ref x0] M8 else am_X cal k_Md_complete 47 [] [.int 2, .ref x0] M8 := (am_X_eq cal k_Md_complete 0 _ _ M).trans rfl
theorem e_Md_complete_46 (cal : aY) (s0 : Nat) (M : aM) : am_X cal k_Md_complete 46 [] [.ref s0] M = am_X cal k_Md_complete 47 [] [.int 1, .ref s0] M := (am_X_eq cal k_Md_complete 46 _ _ M).trans rfl
theorem e_Md_complete_47 (cal : aY) (s0 : Int32) (s1 : Nat) (M : aM) : am_X cal k_Md_complete 47 [] [.int s0, .ref s1] M = (am_wr M s1 9 16 (.int s0)).bind fun M1 => some (.inl none, M1) := (am_X_eq cal k_Md_complete 47 _ _ M).trans rfl
theorem e_Md_complete_51 (cal : aY) (x0 : Nat) (x1 : Int32) (M : aM) : am_X cal k_Md_complete 51 [(0, .ref x0), (1, .int x1)] [] M = (am_rA M x0 9 13).bind fun v1 => (am_ix x1).bind fun v2 => (am_rI M v1 10 v2).bind fun v3 => if ¬ v3 = 40 then am_X cal k_Md_complete 68 [(0, .ref x0)] [] M else (am_wr M x0 9 16 (.int 3)).bind fun M4 => some (.inl none, M4) := (am_X_eq cal k_Md_complete 51 _ _ M).trans rfl
theorem e_Md_complete_68 (cal : aY) (x0 : Nat) (M : aM) : am_X cal k_Md_complete 68 [(0, .ref x0)] [] M = (am_rI M x0 9 15).bind fun v1 => (am_wr M x0 9 15 (.int (v1 - 1))).bind fun M2 => am_X cal k_Md_complete 0 [(0, .ref x0)] [] M2 := (am_X_eq cal k_Md_complete 68 _ _ M).trans rfl
theorem e_Md_complete_81 (cal : aY) (x0 : Nat) (M : aM) : am_X cal k_Md_complete 81 [(0, .ref x0)] [] M = (am_rI M x0 9 17).bind fun v1 => if ¬ v1 = 0 then am_X cal k_Md_complete 93 [(0, .ref x0)] [.ref x0] M else am_X cal k_Md_complete 132 [(0, .ref x0)] [.int 4, .ref x0] M := (am_X_eq cal k_Md_complete 81 _ _ M).trans rfl
theorem e_Md_complete_93 (cal : aY) (x0 : Nat) (s0 : Nat) (M : aM) : am_X cal k_Md_complete 93 [(0, .ref x0)] [.ref s0] M = (am_rI M x0 9 17).bind fun v1 => if ¬ v1 = 1 then am_X cal k_Md_complete 105 [(0, .ref x0)] [.ref s0] M else am_X cal k_Md_complete 132 [(0, .ref x0)] [.int 5, .ref s0] M := (am_X_eq cal k_Md_complete 93 _ _ M).trans rfl
theorem e_Md_complete_105 (cal : aY) (x0 : Nat) (s0 : Nat) (M : aM) : am_X cal k_Md_complete 105 [(0, .ref x0)] [.ref s0] M = (am_rI M x0 9 17).bind fun v1 => if ¬ v1 = 2 then am_X cal k_Md_complete 118 [(0, .ref x0)] [.ref s0] M else am_X cal k_Md_complete 132 [(0, .ref x0)] [.int 6, .ref s0] M := (am_X_eq cal k_Md_complete 105 _ _ M).trans rfl
theorem e_Md_complete_118 (cal : aY) (x0 : Nat) (s0 : Nat) (M : aM) : am_X cal k_Md_complete 118 [(0, .ref x0)] [.ref s0] M = (am_rI M x0 9 17).bind fun v1 => if ¬ v1 = 3 then am_X cal k_Md_complete 130 [(0, .ref x0)] [.ref s0] M else am_X cal k_Md_complete 132 [(0, .ref x0)] [.int 1, .ref s0] M := (am_X_eq cal k_Md_complete 118 _ _ M).trans rfl
theorem e_Md_complete_130 (cal : aY) (x0 : Nat) (s0 : Nat) (M : aM) : am_X cal k_Md_complete 130 [(0, .ref x0)] [.ref s0] M = am_X cal k_Md_complete 132 [(0, .ref x0)] [.int 7, .ref s0] M := (am_X_eq cal k_Md_complete 130 _ _ M).trans rfl
theorem e_Md_complete_132 (cal : aY) (x0 : Nat) (s0 : Int32) (s1 : Nat) (M : aM) : am_X cal k_Md_complete 132 [(0, .ref x0)] [.int s0, .ref s1] M = (am_wr M s1 9 16 (.int s0)).bind fun M1 => (am_rI M1 x0 9 17).bind fun v2 => if ¬ v2 = 3 then am_X cal k_Md_complete 148 [] [] M1 else (am_wr M1 x0 9 17 (.int 4)).bind fun M3 => am_X cal k_Md_complete 148 [] [] M3 := (am_X_eq cal k_Md_complete 132 _ _ M).trans rfl
theorem e_Md_complete_148 (cal : aY)  (M : aM) : am_X cal k_Md_complete 148 [] [] M = some (.inl none, M) := (am_X_eq cal k_Md_complete 148 _ _ M).trans rfl
theorem y_Md_action (d : Nat) (a0 : Nat) (a1 : Int32) (M : aM) : am_Y (d + 1) 102 [.ref a0, .int a1] M = am_X (am_Y d) k_Md_action 0 [(0, .ref a0), (1, .int a1)] [] M := rfl
theorem e_Md_action_0 (cal : aY) (x0 : Nat) (x1 : Int32) (M : aM) : am_X cal k_Md_action 0 [(0, .ref x0), (1, .int x1)] [] M = if ¬ x1 = 59 then am_X cal k_Md_action 11 [(0, .ref x0), (1, .int x1)] [.ref x0] M else am_X cal k_Md_action 34 [(0, .ref x0), (1, .int x1)] [.int 0, .ref x0] M := (am_X_eq cal k_Md_action 0 _ _ M).trans rfl
theorem e_Md_action_11 (cal : aY) (x0 : Nat) (x1 : Int32) (s0 : Nat) (M : aM) : am_X cal k_Md_action 11 [(0, .ref x0), (1, .int x1)] [.ref s0] M = if ¬ x1 = 64 then am_X cal k_Md_action 22 [(0, .ref x0), (1, .int x1)] [.ref s0] M else am_X cal k_Md_action 34 [(0, .ref x0), (1, .int x1)] [.int 10, .ref s0] M := (am_X_eq cal k_Md_action 11 _ _ M).trans rfl
theorem e_Md_action_22 (cal : aY) (x0 : Nat) (x1 : Int32) (s0 : Nat) (M : aM) : am_X cal k_Md_action 22 [(0, .ref x0), (1, .int x1)] [.ref s0] M = if ¬ x1 = 42 then am_X cal k_Md_action 33 [(0, .ref x0), (1, .int x1)] [.ref s0] M else am_X cal k_Md_action 34 [(0, .ref x0), (1, .int x1)] [.int 12, .ref s0] M := (am_X_eq cal k_Md_action 22 _ _ M).trans rfl
theorem e_Md_action_33 (cal : aY) (x0 : Nat) (x1 : Int32) (s0 : Nat) (M : aM) : am_X cal k_Md_action 33 [(0, .ref x0), (1, .int x1)] [.ref s0] M = am_X cal k_Md_action 34 [(0, .ref x0), (1, .int x1)] [.int 1, .ref s0] M := (am_X_eq cal k_Md_action 33 _ _ M).trans rfl
theorem e_Md_action_34 (cal : aY) (x0 : Nat) (x1 : Int32) (s0 : Int32) (s1 : Nat) (M : aM) : am_X cal k_Md_action 34 [(0, .ref x0), (1, .int x1)] [.int s0, .ref s1] M = (am_wr M s1 9 16 (.int s0)).bind fun M1 => if ¬ x1 = 33 then am_X cal k_Md_action 48 [(1, .int x1)] [.ref x0] M1 else am_X cal k_Md_action 49 [(1, .int x1)] [.int 3, .ref x0] M1 := (am_X_eq cal k_Md_action 34 _ _ M).trans rfl
theorem e_Md_action_48 (cal : aY) (x1 : Int32) (s0 : Nat) (M : aM) : am_X cal k_Md_action 48 [(1, .int x1)] [.ref s0] M = am_X cal k_Md_action 49 [(1, .int x1)] [.int 4, .ref s0] M := (am_X_eq cal k_Md_action 48 _ _ M).trans rfl
theorem e_Md_action_49 (cal : aY) (x1 : Int32) (s0 : Int32) (s1 : Nat) (M : aM) : am_X cal k_Md_action 49 [(1, .int x1)] [.int s0, .ref s1] M = (am_wr M s1 9 17 (.int s0)).bind fun M1 => if x1 = 59 then am_X cal k_Md_action 94 [] [] M1 else if x1 = 64 then am_X cal k_Md_action 94 [] [] M1 else if x1 = 42 then am_X cal k_Md_action 94 [] [] M1 else if x1 = 33 then am_X cal k_Md_action 94 [] [] M1 else if x1 = 126 then am_X cal k_Md_action 94 [] [] M1 else if x1 = 38 then am_X cal k_Md_action 94 [] [] M1 else if ¬ x1 = 36 then am_X cal k_Md_action 98 [] [] M1 else am_X cal k_Md_action 94 [] [] M1 := (am_X_eq cal k_Md_action 49 _ _ M).trans rfl
theorem e_Md_action_94 (cal : aY)  (M : aM) : am_X cal k_Md_action 94 [] [] M = am_X cal k_Md_action 99 [] [.int 1] M := (am_X_eq cal k_Md_action 94 _ _ M).trans rfl
theorem e_Md_action_98 (cal : aY)  (M : aM) : am_X cal k_Md_action 98 [] [] M = am_X cal k_Md_action 99 [] [.int 0] M := (am_X_eq cal k_Md_action 98 _ _ M).trans rfl
theorem e_Md_action_99 (cal : aY) (s0 : Int32) (M : aM) : am_X cal k_Md_action 99 [] [.int s0] M = bif am_ft 3 (.int s0) then some (.inl (some (.int s0)), M) else none := (am_X_eq cal k_Md_action 99 _ _ M).trans rfl
theorem y_Md_clauses (d : Nat) (a0 : Nat) (a1 : Int32) (M : aM) : am_Y (d + 1) 103 [.ref a0, .int a1] M = am_X (am_Y d) k_Md_clauses 0 [(0, .ref a0), (1, .int a1)] [] M := rfl
theorem e_Md_clauses_0 (cal : aY) (x0 : Nat) (x1 : Int32) (M : aM) : am_X cal k_Md_clauses 0 [(0, .ref x0), (1, .int x1)] [] M = am_X cal k_Md_clauses 4 [(0, .ref x0), (1, .int x1), (2, .int 0), (3, .int 0)] [] M := (am_X_eq cal k_Md_clauses 0 _ _ M).trans rfl
theorem e_Md_clauses_4 (cal : aY) (x0 : Nat) (x1 : Int32) (x2 : Int32) (x3 : Int32) (M : aM) : am_X cal k_Md_clauses 4 [(0, .ref x0), (1, .int x1), (2, .int x2), (3, .int x3)] [] M = (am_rA M x0 9 1).bind fun v1 => (am_ix x1).bind fun v2 => (am_rI M v1 10 v2).bind fun v3 => if v3 ≤ x3 then am_X cal k_Md_clauses 39 [(2, .int x2)] [] M else (am_rA M x0 9 0).bind fun v4 => (am_ix ((60 * x1) + x3)).bind fun v5 => (am_rI M v4 10 v5).bind fun v6 => if ¬ v6 = 59 then am_X cal k_Md_clauses 33 [(0, .ref x0), (1, .int x1), (2, .int x2), (3, .int x3)] [] M else am_X cal k_Md_clauses 33 [(0, .ref x0), (1, .int x1), (2, .int (x2 + 1)), (3, .int x3)] [] M := (am_X_eq cal k_Md_clauses 4 _ _ M).trans rfl
theorem e_Md_clauses_33 (cal : aY) (x0 : Nat) (x1 : Int32) (x2 : Int32) (x3 : Int32) (M : aM) : am_X cal k_Md_clauses 33 [(0, .ref x0), (1, .int x1), (2, .int x2), (3, .int x3)] [] M = am_X cal k_Md_clauses 4 [(0, .ref x0), (1, .int x1), (2, .int x2), (3, .int (x3 + 1))] [] M := (am_X_eq cal k_Md_clauses 33 _ _ M).trans rfl
theorem e_Md_clauses_39 (cal : aY) (x2 : Int32) (M : aM) : am_X cal k_Md_clauses 39 [(2, .int x2)] [] M = some (.inl (some (.int x2)), M) := (am_X_eq cal k_Md_clauses 39 _ _ M).trans rfl
theorem y_Md_fault (d : Nat) (a0 : Nat) (a1 : Int32) (M : aM) : am_Y (d + 1) 104 [.ref a0, .int a1] M = am_X (am_Y d) k_Md_fault 0 [(0, .ref a0), (1, .int a1)] [] M := rfl
theorem e_Md_fault_0 (cal : aY) (x0 : Nat) (x1 : Int32) (M : aM) : am_X cal k_Md_fault 0 [(0, .ref x0), (1, .int x1)] [] M = am_cI (cal 90 [.int x1, .int 0, .int 2] M) (fun v3 M1 => (am_ln M1 x0 9).bind fun _ => am_cI (cal 92 [.ref x0, .int v3, .int 1] M1) (fun v6 M4 => if v6 = 0 then am_X cal k_Md_fault 22 [] [] M4 else (am_ln M4 x0 9).bind fun _ => am_cI (cal 95 [.ref x0, .int x1] M4) (fun v9 M7 => am_X cal k_Md_fault 23 [] [.int v9] M7) (fun v8 M7 => some (.inr v8, M7))) (fun v5 M4 => some (.inr v5, M4))) (fun v2 M1 => some (.inr v2, M1)) := (am_X_eq cal k_Md_fault 0 _ _ M).trans rfl
theorem e_Md_fault_22 (cal : aY)  (M : aM) : am_X cal k_Md_fault 22 [] [] M = am_X cal k_Md_fault 23 [] [.int 0] M := (am_X_eq cal k_Md_fault 22 _ _ M).trans rfl
theorem e_Md_fault_23 (cal : aY) (s0 : Int32) (M : aM) : am_X cal k_Md_fault 23 [] [.int s0] M = some (.inl (some (.int s0)), M) := (am_X_eq cal k_Md_fault 23 _ _ M).trans rfl
theorem y_Md_spawn (d : Nat) (a0 : Nat) (a1 : Int32) (a2 : Int32) (M : aM) : am_Y (d + 1) 105 [.ref a0, .int a1, .int a2] M = am_X (am_Y d) k_Md_spawn 0 [(0, .ref a0), (1, .int a1), (2, .int a2)] [] M := rfl
theorem e_Md_spawn_0 (cal : aY) (x0 : Nat) (x1 : Int32) (x2 : Int32) (M : aM) : am_X cal k_Md_spawn 0 [(0, .ref x0), (1, .int x1), (2, .int x2)] [] M = am_cI (cal 90 [.int x1, .int 0, .int 2] M) (fun v3 M1 => if v3 = 0 then am_X cal k_Md_spawn 27 [(0, .ref x0), (1, .int x1), (2, .int x2)] [.ref x0] M1 else am_cI (cal 90 [.int x2, .int (-999), .int 999] M1) (fun v6 M4 => if v6 = 0 then am_X cal k_Md_spawn 27 [(0, .ref x0), (1, .int x1), (2, .int x2)] [.ref x0] M4 else am_X cal k_Md_spawn 28 [(0, .ref x0), (1, .int x1), (2, .int x2)] [.int 1, .ref x0] M4) (fun v5 M4 => some (.inr v5, M4))) (fun v2 M1 => some (.inr v2, M1)) := (am_X_eq cal k_Md_spawn 0 _ _ M).trans rfl
theorem e_Md_spawn_27 (cal : aY) (x0 : Nat) (x1 : Int32) (x2 : Int32) (s0 : Nat) (M : aM) : am_X cal k_Md_spawn 27 [(0, .ref x0), (1, .int x1), (2, .int x2)] [.ref s0] M = am_X cal k_Md_spawn 28 [(0, .ref x0), (1, .int x1), (2, .int x2)] [.int 0, .ref s0] M := (am_X_eq cal k_Md_spawn 27 _ _ M).trans rfl
theorem e_Md_spawn_28 (cal : aY) (x0 : Nat) (x1 : Int32) (x2 : Int32) (s0 : Int32) (s1 : Nat) (M : aM) : am_X cal k_Md_spawn 28 [(0, .ref x0), (1, .int x1), (2, .int x2)] [.int s0, .ref s1] M = (am_ln M s1 9).bind fun _ => am_cI (cal 92 [.ref s1, .int s0, .int 2] M) (fun v3 M1 => if ¬ v3 = 0 then am_X cal k_Md_spawn 37 [(0, .ref x0), (1, .int x1), (2, .int x2)] [] M1 else some (.inl (some (.int 0)), M1)) (fun v2 M1 => some (.inr v2, M1)) := (am_X_eq cal k_Md_spawn 28 _ _ M).trans rfl
theorem e_Md_spawn_37 (cal : aY) (x0 : Nat) (x1 : Int32) (x2 : Int32) (M : aM) : am_X cal k_Md_spawn 37 [(0, .ref x0), (1, .int x1), (2, .int x2)] [] M = (am_rA M x0 9 2).bind fun v1 => (am_ix x1).bind fun v2 => (am_rI M v1 12 v2).bind fun v3 => if v3 = 0 then am_X cal k_Md_spawn 60 [(0, .ref x0), (1, .int x1), (2, .int x2)] [.ref x0] M else (am_ln M x0 9).bind fun _ => am_cI (cal 106 [.ref x0] M) (fun v6 M4 => if 6 ≤ v6 then am_X cal k_Md_spawn 60 [(0, .ref x0), (1, .int x1), (2, .int x2)] [.ref x0] M4 else am_X cal k_Md_spawn 61 [(0, .ref x0), (1, .int x1), (2, .int x2)] [.int 1, .ref x0] M4) (fun v5 M4 => some (.inr v5, M4)) := (am_X_eq cal k_Md_spawn 37 _ _ M).trans rfl
theorem e_Md_spawn_60 (cal : aY) (x0 : Nat) (x1 : Int32) (x2 : Int32) (s0 : Nat) (M : aM) : am_X cal k_Md_spawn 60 [(0, .ref x0), (1, .int x1), (2, .int x2)] [.ref s0] M = am_X cal k_Md_spawn 61 [(0, .ref x0), (1, .int x1), (2, .int x2)] [.int 0, .ref s0] M := (am_X_eq cal k_Md_spawn 60 _ _ M).trans rfl
theorem e_Md_spawn_61 (cal : aY) (x0 : Nat) (x1 : Int32) (x2 : Int32) (s0 : Int32) (s1 : Nat) (M : aM) : am_X cal k_Md_spawn 61 [(0, .ref x0), (1, .int x1), (2, .int x2)] [.int s0, .ref s1] M = (am_ln M s1 9).bind fun _ => am_cI (cal 92 [.ref s1, .int s0, .int 1] M) (fun v3 M1 => if ¬ v3 = 0 then am_X cal k_Md_spawn 70 [(0, .ref x0), (1, .int x1), (2, .int x2)] [] M1 else some (.inl (some (.int 0)), M1)) (fun v2 M1 => some (.inr v2, M1)) := (am_X_eq cal k_Md_spawn 61 _ _ M).trans rfl
theorem e_Md_spawn_70 (cal : aY) (x0 : Nat) (x1 : Int32) (x2 : Int32) (M : aM) : am_X cal k_Md_spawn 70 [(0, .ref x0), (1, .int x1), (2, .int x2)] [] M = am_cJ (cal 107 [.int x2] M) (fun v3 M1 => (am_ln M1 x0 9).bind fun _ => am_cI (cal 109 [.ref x0, .int x1, .long v3] M1) (fun v6 M4 => some (.inl (some (.int v6)), M4)) (fun v5 M4 => some (.inr v5, M4))) (fun v2 M1 => some (.inr v2, M1)) := (am_X_eq cal k_Md_spawn 70 _ _ M).trans rfl
theorem y_Md_free (d : Nat) (a0 : Nat) (M : aM) : am_Y (d + 1) 106 [.ref a0] M = am_X (am_Y d) k_Md_free 0 [(0, .ref a0)] [] M := rfl
theorem e_Md_free_0 (cal : aY) (x0 : Nat) (M : aM) : am_X cal k_Md_free 0 [(0, .ref x0)] [] M = am_X cal k_Md_free 2 [(0, .ref x0), (1, .int 0)] [] M := (am_X_eq cal k_Md_free 0 _ _ M).trans rfl
theorem e_Md_free_2 (cal : aY) (x0 : Nat) (x1 : Int32) (M : aM) : am_X cal k_Md_free 2 [(0, .ref x0), (1, .int x1)] [] M = if 6 ≤ x1 then am_X cal k_Md_free 23 [(1, .int x1)] [] M else (am_rA M x0 9 3).bind fun v1 => (am_ix x1).bind fun v2 => (am_rI M v1 10 v2).bind fun v3 => if v3 = 0 then am_X cal k_Md_free 23 [(1, .int x1)] [] M else am_X cal k_Md_free 2 [(0, .ref x0), (1, .int (x1 + 1))] [] M := (am_X_eq cal k_Md_free 2 _ _ M).trans rfl
theorem e_Md_free_23 (cal : aY) (x1 : Int32) (M : aM) : am_X cal k_Md_free 23 [(1, .int x1)] [] M = some (.inl (some (.int x1)), M) := (am_X_eq cal k_Md_free 23 _ _ M).trans rfl
theorem y_Md_whole (d : Nat) (a0 : Int32) (M : aM) : am_Y (d + 1) 107 [.int a0] M = am_X (am_Y d) k_Md_whole 0 [(0, .int a0)] [] M := rfl
theorem e_Md_whole_0 (cal : aY) (x0 : Int32) (M : aM) : am_X cal k_Md_whole 0 [(0, .int x0)] [] M = am_cJ (cal 108 [.int (x0 + 999)] M) (fun v3 M1 => some (.inl (some (.long v3)), M1)) (fun v2 M1 => some (.inr v2, M1)) := (am_X_eq cal k_Md_whole 0 _ _ M).trans rfl
theorem y_Md_leafTerm (d : Nat) (a0 : Int32) (M : aM) : am_Y (d + 1) 108 [.int a0] M = am_X (am_Y d) k_Md_leafTerm 0 [(0, .int a0)] [] M := rfl
theorem e_Md_leafTerm_0 (cal : aY) (x0 : Int32) (M : aM) : am_X cal k_Md_leafTerm 0 [(0, .int x0)] [] M = some (.inl (some (.long (1 ||| ((Int32.toInt64 x0) <<< (Int32.toInt64 10 &&& 63))))), M) := (am_X_eq cal k_Md_leafTerm 0 _ _ M).trans rfl
theorem y_Md_make (d : Nat) (a0 : Nat) (a1 : Int32) (a2 : Int64) (M : aM) : am_Y (d + 1) 109 [.ref a0, .int a1, .long a2] M = am_X (am_Y d) k_Md_make 0 [(0, .ref a0), (1, .int a1), (2, .long a2)] [] M := rfl
theorem e_Md_make_0 (cal : aY) (x0 : Nat) (x1 : Int32) (x2 : Int64) (M : aM) : am_X cal k_Md_make 0 [(0, .ref x0), (1, .int x1), (2, .long x2)] [] M = (am_ln M x0 9).bind fun _ => am_cI (cal 106 [.ref x0] M) (fun v3 M1 => (am_rA M1 x0 9 3).bind fun v4 => (am_ix v3).bind fun v5 => (am_wr M1 v4 10 v5 (.int 1)).bind fun M6 => (am_rA M6 x0 9 4).bind fun v7 => (am_ix v3).bind fun v8 => (am_wr M6 v7 11 v8 (.long x2)).bind fun M9 => (am_rA M9 x0 9 6).bind fun v10 => (am_ix v3).bind fun v11 => (am_wr M9 v10 10 v11 (.int 0)).bind fun M12 => (am_rA M12 x0 9 7).bind fun v13 => (am_ix v3).bind fun v14 => (am_wr M12 v13 12 v14 (.int (0 &&& 1))).bind fun M15 => (am_rA M15 x0 9 1).bind fun v16 => (am_rA M15 x0 9 1).bind fun v17 => (am_ix x1).bind fun v18 => (am_rI M15 v17 10 v18).bind fun v19 => (am_ix (3 + v3)).bind fun v20 => (am_wr M15 v16 10 v20 (.int v19)).bind fun M21 => am_X cal k_Md_make 56 [(0, .ref x0), (1, .int x1), (4, .int v3), (5, .int 0)] [] M21) (fun v2 M1 => some (.inr v2, M1)) := (am_X_eq cal k_Md_make 0 _ _ M).trans rfl
theorem e_Md_make_56 (cal : aY) (x0 : Nat) (x1 : Int32) (x4 : Int32) (x5 : Int32) (M : aM) : am_X cal k_Md_make 56 [(0, .ref x0), (1, .int x1), (4, .int x4), (5, .int x5)] [] M = (am_rA M x0 9 1).bind fun v1 => (am_ix x1).bind fun v2 => (am_rI M v1 10 v2).bind fun v3 => if v3 ≤ x5 then am_X cal k_Md_make 100 [(4, .int x4)] [] M else (am_rA M x0 9 0).bind fun v4 => (am_rA M x0 9 0).bind fun v5 => (am_ix ((60 * x1) + x5)).bind fun v6 => (am_rI M v5 10 v6).bind fun v7 => (am_ix ((60 * (3 + x4)) + x5)).bind fun v8 => (am_wr M v4 10 v8 (.int v7)).bind fun M9 => am_X cal k_Md_make 56 [(0, .ref x0), (1, .int x1), (4, .int x4), (5, .int (x5 + 1))] [] M9 := (am_X_eq cal k_Md_make 56 _ _ M).trans rfl
theorem e_Md_make_100 (cal : aY) (x4 : Int32) (M : aM) : am_X cal k_Md_make 100 [(4, .int x4)] [] M = some (.inl (some (.int x4)), M) := (am_X_eq cal k_Md_make 100 _ _ M).trans rfl
theorem y_Md_send (d : Nat) (a0 : Nat) (a1 : Int32) (a2 : Int32) (a3 : Int32) (a4 : Int32) (M : aM) : am_Y (d + 1) 110 [.ref a0, .int a1, .int a2, .int a3, .int a4] M = am_X (am_Y d) k_Md_send 0 [(0, .ref a0), (1, .int a1), (2, .int a2), (3, .int a3), (4, .int a4)] [] M := rfl
theorem e_Md_send_0 (cal : aY) (x0 : Nat) (x1 : Int32) (x2 : Int32) (x3 : Int32) (x4 : Int32) (M : aM) : am_X cal k_Md_send 0 [(0, .ref x0), (1, .int x1), (2, .int x2), (3, .int x3), (4, .int x4)] [] M = am_cI (cal 90 [.int x1, .int 0, .int 5] M) (fun v3 M1 => if v3 = 0 then am_X cal k_Md_send 54 [(0, .ref x0), (1, .int x1), (2, .int x2), (3, .int x3), (4, .int x4)] [] M1 else am_cI (cal 90 [.int x2, .int 0, .int 3] M1) (fun v6 M4 => if v6 = 0 then am_X cal k_Md_send 54 [(0, .ref x0), (1, .int x1), (2, .int x2), (3, .int x3), (4, .int x4)] [] M4 else if ¬ x2 = 1 then am_X cal k_Md_send 28 [(0, .ref x0), (1, .int x1), (2, .int x2), (3, .int x3), (4, .int x4)] [.int x3] M4 else am_X cal k_Md_send 31 [(0, .ref x0), (1, .int x1), (2, .int x2), (3, .int x3), (4, .int x4)] [.int 0, .int x3] M4) (fun v5 M4 => some (.inr v5, M4))) (fun v2 M1 => some (.inr v2, M1)) := (am_X_eq cal k_Md_send 0 _ _ M).trans rfl
theorem e_Md_send_28 (cal : aY) (x0 : Nat) (x1 : Int32) (x2 : Int32) (x3 : Int32) (x4 : Int32) (s0 : Int32) (M : aM) : am_X cal k_Md_send 28 [(0, .ref x0), (1, .int x1), (2, .int x2), (3, .int x3), (4, .int x4)] [.int s0] M = am_X cal k_Md_send 31 [(0, .ref x0), (1, .int x1), (2, .int x2), (3, .int x3), (4, .int x4)] [.int (-999), .int s0] M := (am_X_eq cal k_Md_send 28 _ _ M).trans rfl
theorem e_Md_send_31 (cal : aY) (x0 : Nat) (x1 : Int32) (x2 : Int32) (x3 : Int32) (x4 : Int32) (s0 : Int32) (s1 : Int32) (M : aM) : am_X cal k_Md_send 31 [(0, .ref x0), (1, .int x1), (2, .int x2), (3, .int x3), (4, .int x4)] [.int s0, .int s1] M = if ¬ x2 = 1 then am_X cal k_Md_send 41 [(0, .ref x0), (1, .int x1), (2, .int x2), (3, .int x3), (4, .int x4)] [.int s0, .int s1] M else am_X cal k_Md_send 44 [(0, .ref x0), (1, .int x1), (2, .int x2), (3, .int x3), (4, .int x4)] [.int 7, .int s0, .int s1] M := (am_X_eq cal k_Md_send 31 _ _ M).trans rfl
theorem e_Md_send_41 (cal : aY) (x0 : Nat) (x1 : Int32) (x2 : Int32) (x3 : Int32) (x4 : Int32) (s0 : Int32) (s1 : Int32) (M : aM) : am_X cal k_Md_send 41 [(0, .ref x0), (1, .int x1), (2, .int x2), (3, .int x3), (4, .int x4)] [.int s0, .int s1] M = am_X cal k_Md_send 44 [(0, .ref x0), (1, .int x1), (2, .int x2), (3, .int x3), (4, .int x4)] [.int 999, .int s0, .int s1] M := (am_X_eq cal k_Md_send 41 _ _ M).trans rfl
theorem e_Md_send_44 (cal : aY) (x0 : Nat) (x1 : Int32) (x2 : Int32) (x3 : Int32) (x4 : Int32) (s0 : Int32) (s1 : Int32) (s2 : Int32) (M : aM) : am_X cal k_Md_send 44 [(0, .ref x0), (1, .int x1), (2, .int x2), (3, .int x3), (4, .int x4)] [.int s0, .int s1, .int s2] M = am_cI (cal 90 [.int s2, .int s1, .int s0] M) (fun v3 M1 => if v3 = 0 then am_X cal k_Md_send 54 [(0, .ref x0), (1, .int x1), (2, .int x2), (3, .int x3), (4, .int x4)] [] M1 else am_X cal k_Md_send 55 [(0, .ref x0), (1, .int x1), (2, .int x2), (3, .int x3), (4, .int x4)] [.int 1] M1) (fun v2 M1 => some (.inr v2, M1)) := (am_X_eq cal k_Md_send 44 _ _ M).trans rfl
theorem e_Md_send_54 (cal : aY) (x0 : Nat) (x1 : Int32) (x2 : Int32) (x3 : Int32) (x4 : Int32) (M : aM) : am_X cal k_Md_send 54 [(0, .ref x0), (1, .int x1), (2, .int x2), (3, .int x3), (4, .int x4)] [] M = am_X cal k_Md_send 55 [(0, .ref x0), (1, .int x1), (2, .int x2), (3, .int x3), (4, .int x4)] [.int 0] M := (am_X_eq cal k_Md_send 54 _ _ M).trans rfl
theorem e_Md_send_55 (cal : aY) (x0 : Nat) (x1 : Int32) (x2 : Int32) (x3 : Int32) (x4 : Int32) (s0 : Int32) (M : aM) : am_X cal k_Md_send 55 [(0, .ref x0), (1, .int x1), (2, .int x2), (3, .int x3), (4, .int x4)] [.int s0] M = if x2 ≤ 1 then am_X cal k_Md_send 84 [(0, .ref x0), (1, .int x1), (2, .int x2), (3, .int x3), (4, .int x4), (5, .int s0)] [] M else if ¬ x2 = 2 then am_X cal k_Md_send 77 [(0, .ref x0), (1, .int x1), (2, .int x2), (3, .int x3), (4, .int x4)] [.int 0, .int x4, .int s0] M else am_X cal k_Md_send 78 [(0, .ref x0), (1, .int x1), (2, .int x2), (3, .int x3), (4, .int x4)] [.int 7, .int 0, .int x4, .int s0] M := (am_X_eq cal k_Md_send 55 _ _ M).trans rfl
theorem e_Md_send_77 (cal : aY) (x0 : Nat) (x1 : Int32) (x2 : Int32) (x3 : Int32) (x4 : Int32) (s0 : Int32) (s1 : Int32) (s2 : Int32) (M : aM) : am_X cal k_Md_send 77 [(0, .ref x0), (1, .int x1), (2, .int x2), (3, .int x3), (4, .int x4)] [.int s0, .int s1, .int s2] M = am_X cal k_Md_send 78 [(0, .ref x0), (1, .int x1), (2, .int x2), (3, .int x3), (4, .int x4)] [.int 5, .int s0, .int s1, .int s2] M := (am_X_eq cal k_Md_send 77 _ _ M).trans rfl
theorem e_Md_send_78 (cal : aY) (x0 : Nat) (x1 : Int32) (x2 : Int32) (x3 : Int32) (x4 : Int32) (s0 : Int32) (s1 : Int32) (s2 : Int32) (s3 : Int32) (M : aM) : am_X cal k_Md_send 78 [(0, .ref x0), (1, .int x1), (2, .int x2), (3, .int x3), (4, .int x4)] [.int s0, .int s1, .int s2, .int s3] M = am_cI (cal 90 [.int s2, .int s1, .int s0] M) (fun v3 M1 => am_X cal k_Md_send 84 [(0, .ref x0), (1, .int x1), (2, .int x2), (3, .int x3), (4, .int x4), (5, .int (s3 &&& v3))] [] M1) (fun v2 M1 => some (.inr v2, M1)) := (am_X_eq cal k_Md_send 78 _ _ M).trans rfl
theorem e_Md_send_84 (cal : aY) (x0 : Nat) (x1 : Int32) (x2 : Int32) (x3 : Int32) (x4 : Int32) (x5 : Int32) (M : aM) : am_X cal k_Md_send 84 [(0, .ref x0), (1, .int x1), (2, .int x2), (3, .int x3), (4, .int x4), (5, .int x5)] [] M = (am_ln M x0 9).bind fun _ => am_cI (cal 92 [.ref x0, .int x5, .int 2] M) (fun v3 M1 => if ¬ v3 = 0 then am_X cal k_Md_send 96 [(0, .ref x0), (1, .int x1), (2, .int x2), (3, .int x3), (4, .int x4)] [] M1 else some (.inl (some (.int 0)), M1)) (fun v2 M1 => some (.inr v2, M1)) := (am_X_eq cal k_Md_send 84 _ _ M).trans rfl
theorem e_Md_send_96 (cal : aY) (x0 : Nat) (x1 : Int32) (x2 : Int32) (x3 : Int32) (x4 : Int32) (M : aM) : am_X cal k_Md_send 96 [(0, .ref x0), (1, .int x1), (2, .int x2), (3, .int x3), (4, .int x4)] [] M = (am_rA M x0 9 11).bind fun v1 => (am_ix (36 + x1)).bind fun v2 => (am_rI M v1 10 v2).bind fun v3 => if 4 ≤ v3 then am_X cal k_Md_send 114 [(0, .ref x0), (1, .int x1), (2, .int x2), (3, .int x3), (4, .int x4)] [.ref x0] M else am_X cal k_Md_send 115 [(0, .ref x0), (1, .int x1), (2, .int x2), (3, .int x3), (4, .int x4)] [.int 1, .ref x0] M := (am_X_eq cal k_Md_send 96 _ _ M).trans rfl
theorem e_Md_send_114 (cal : aY) (x0 : Nat) (x1 : Int32) (x2 : Int32) (x3 : Int32) (x4 : Int32) (s0 : Nat) (M : aM) : am_X cal k_Md_send 114 [(0, .ref x0), (1, .int x1), (2, .int x2), (3, .int x3), (4, .int x4)] [.ref s0] M = am_X cal k_Md_send 115 [(0, .ref x0), (1, .int x1), (2, .int x2), (3, .int x3), (4, .int x4)] [.int 0, .ref s0] M := (am_X_eq cal k_Md_send 114 _ _ M).trans rfl
theorem e_Md_send_115 (cal : aY) (x0 : Nat) (x1 : Int32) (x2 : Int32) (x3 : Int32) (x4 : Int32) (s0 : Int32) (s1 : Nat) (M : aM) : am_X cal k_Md_send 115 [(0, .ref x0), (1, .int x1), (2, .int x2), (3, .int x3), (4, .int x4)] [.int s0, .ref s1] M = (am_ln M s1 9).bind fun _ => am_cI (cal 92 [.ref s1, .int s0, .int 1] M) (fun v3 M1 => if ¬ v3 = 0 then am_X cal k_Md_send 124 [(0, .ref x0), (1, .int x1), (2, .int x2), (3, .int x3), (4, .int x4)] [] M1 else some (.inl (some (.int 0)), M1)) (fun v2 M1 => some (.inr v2, M1)) := (am_X_eq cal k_Md_send 115 _ _ M).trans rfl
theorem e_Md_send_124 (cal : aY) (x0 : Nat) (x1 : Int32) (x2 : Int32) (x3 : Int32) (x4 : Int32) (M : aM) : am_X cal k_Md_send 124 [(0, .ref x0), (1, .int x1), (2, .int x2), (3, .int x3), (4, .int x4)] [] M = if ¬ x2 = 0 then am_X cal k_Md_send 139 [(0, .ref x0), (1, .int x1), (2, .int x2), (3, .int x3), (4, .int x4)] [.int x1, .int 6, .ref x0] M else am_cJ (cal 107 [.int x3] M) (fun v3 M1 => am_X cal k_Md_send 176 [(0, .ref x0), (1, .int x1)] [.long v3, .int x1, .int 6, .ref x0] M1) (fun v2 M1 => some (.inr v2, M1)) := (am_X_eq cal k_Md_send 124 _ _ M).trans rfl
theorem e_Md_send_139 (cal : aY) (x0 : Nat) (x1 : Int32) (x2 : Int32) (x3 : Int32) (x4 : Int32) (s0 : Int32) (s1 : Int32) (s2 : Nat) (M : aM) : am_X cal k_Md_send 139 [(0, .ref x0), (1, .int x1), (2, .int x2), (3, .int x3), (4, .int x4)] [.int s0, .int s1, .ref s2] M = if ¬ x2 = 1 then am_X cal k_Md_send 151 [(0, .ref x0), (1, .int x1), (2, .int x2), (3, .int x3), (4, .int x4)] [.int s0, .int s1, .ref s2] M else am_cJ (cal 111 [.int x3] M) (fun v3 M1 => am_X cal k_Md_send 176 [(0, .ref x0), (1, .int x1)] [.long v3, .int s0, .int s1, .ref s2] M1) (fun v2 M1 => some (.inr v2, M1)) := (am_X_eq cal k_Md_send 139 _ _ M).trans rfl
theorem e_Md_send_151 (cal : aY) (x0 : Nat) (x1 : Int32) (x2 : Int32) (x3 : Int32) (x4 : Int32) (s0 : Int32) (s1 : Int32) (s2 : Nat) (M : aM) : am_X cal k_Md_send 151 [(0, .ref x0), (1, .int x1), (2, .int x2), (3, .int x3), (4, .int x4)] [.int s0, .int s1, .ref s2] M = if ¬ x2 = 2 then am_X cal k_Md_send 164 [(0, .ref x0), (1, .int x1), (3, .int x3), (4, .int x4)] [.int s0, .int s1, .ref s2] M else am_cJ (cal 111 [.int x4] M) (fun v3 M1 => am_X cal k_Md_send 169 [(0, .ref x0), (1, .int x1), (3, .int x3)] [.long v3, .int s0, .int s1, .ref s2] M1) (fun v2 M1 => some (.inr v2, M1)) := (am_X_eq cal k_Md_send 151 _ _ M).trans rfl
theorem e_Md_send_164 (cal : aY) (x0 : Nat) (x1 : Int32) (x3 : Int32) (x4 : Int32) (s0 : Int32) (s1 : Int32) (s2 : Nat) (M : aM) : am_X cal k_Md_send 164 [(0, .ref x0), (1, .int x1), (3, .int x3), (4, .int x4)] [.int s0, .int s1, .ref s2] M = am_cJ (cal 112 [.int x4] M) (fun v3 M1 => am_X cal k_Md_send 169 [(0, .ref x0), (1, .int x1), (3, .int x3)] [.long v3, .int s0, .int s1, .ref s2] M1) (fun v2 M1 => some (.inr v2, M1)) := (am_X_eq cal k_Md_send 164 _ _ M).trans rfl
theorem e_Md_send_169 (cal : aY) (x0 : Nat) (x1 : Int32) (x3 : Int32) (s0 : Int64) (s1 : Int32) (s2 : Int32) (s3 : Nat) (M : aM) : am_X cal k_Md_send 169 [(0, .ref x0), (1, .int x1), (3, .int x3)] [.long s0, .int s1, .int s2, .ref s3] M = am_cJ (cal 107 [.int x3] M) (fun v3 M1 => am_cJ (cal 113 [.long s0, .long v3] M1) (fun v6 M4 => am_X cal k_Md_send 176 [(0, .ref x0), (1, .int x1)] [.long v6, .int s1, .int s2, .ref s3] M4) (fun v5 M4 => some (.inr v5, M4))) (fun v2 M1 => some (.inr v2, M1)) := (am_X_eq cal k_Md_send 169 _ _ M).trans rfl
theorem e_Md_send_176 (cal : aY) (x0 : Nat) (x1 : Int32) (s0 : Int64) (s1 : Int32) (s2 : Int32) (s3 : Nat) (M : aM) : am_X cal k_Md_send 176 [(0, .ref x0), (1, .int x1)] [.long s0, .int s1, .int s2, .ref s3] M = (am_ln M s3 9).bind fun _ => am_cV (cal 115 [.ref s3, .int s2, .int s1, .long s0] M) (fun M1 => (am_rA M1 x0 9 11).bind fun v3 => (am_ix (36 + x1)).bind fun v4 => (am_rI M1 v3 10 v4).bind fun v5 => some (.inl (some (.int v5)), M1)) (fun v2 M1 => some (.inr v2, M1)) := (am_X_eq cal k_Md_send 176 _ _ M).trans rfl
theorem y_Md_atom (d : Nat) (a0 : Int32) (M : aM) : am_Y (d + 1) 111 [.int a0] M = am_X (am_Y d) k_Md_atom 0 [(0, .int a0)] [] M := rfl
theorem e_Md_atom_0 (cal : aY) (x0 : Int32) (M : aM) : am_X cal k_Md_atom 0 [(0, .int x0)] [] M = am_cJ (cal 108 [.int (1999 + x0)] M) (fun v3 M1 => some (.inl (some (.long v3)), M1)) (fun v2 M1 => some (.inr v2, M1)) := (am_X_eq cal k_Md_atom 0 _ _ M).trans rfl
theorem y_Md_actor (d : Nat) (a0 : Int32) (M : aM) : am_Y (d + 1) 112 [.int a0] M = am_X (am_Y d) k_Md_actor 0 [(0, .int a0)] [] M := rfl
theorem e_Md_actor_0 (cal : aY) (x0 : Int32) (M : aM) : am_X cal k_Md_actor 0 [(0, .int x0)] [] M = am_cJ (cal 108 [.int (2007 + x0)] M) (fun v3 M1 => some (.inl (some (.long v3)), M1)) (fun v2 M1 => some (.inr v2, M1)) := (am_X_eq cal k_Md_actor 0 _ _ M).trans rfl
theorem y_Md_pair (d : Nat) (a0 : Int64) (a1 : Int64) (M : aM) : am_Y (d + 1) 113 [.long a0, .long a1] M = am_X (am_Y d) k_Md_pair 0 [(0, .long a0), (2, .long a1)] [] M := rfl
theorem e_Md_pair_0 (cal : aY) (x0 : Int64) (x2 : Int64) (M : aM) : am_X cal k_Md_pair 0 [(0, .long x0), (2, .long x2)] [] M = am_cI (cal 114 [.long x0] M) (fun v3 M1 => am_cI (cal 114 [.long x2] M1) (fun v6 M4 => if v3 + v6 ≤ 4 then am_X cal k_Md_pair 23 [(0, .long x0), (2, .long x2), (4, .int v3), (5, .int v6)] [] M4 else some (.inl (some (.long 0)), M4)) (fun v5 M4 => some (.inr v5, M4))) (fun v2 M1 => some (.inr v2, M1)) := (am_X_eq cal k_Md_pair 0 _ _ M).trans rfl
theorem e_Md_pair_23 (cal : aY) (x0 : Int64) (x2 : Int64) (x4 : Int32) (x5 : Int32) (M : aM) : am_X cal k_Md_pair 23 [(0, .long x0), (2, .long x2), (4, .int x4), (5, .int x5)] [] M = some (.inl (some (.long ((((Int32.toInt64 (x4 + x5)) ||| (((1 ||| (((x0 >>> (Int32.toInt64 3 &&& 63)) &&& 127) <<< (Int32.toInt64 1 &&& 63))) ||| (((x2 >>> (Int32.toInt64 3 &&& 63)) &&& 127) <<< (Int32.toInt64 (2 * x4) &&& 63))) <<< (Int32.toInt64 3 &&& 63))) ||| ((x0 >>> (Int32.toInt64 10 &&& 63)) <<< (Int32.toInt64 10 &&& 63))) ||| ((x2 >>> (Int32.toInt64 10 &&& 63)) <<< (Int32.toInt64 (10 + (11 * x4)) &&& 63))))), M) := (am_X_eq cal k_Md_pair 23 _ _ M).trans rfl
theorem y_Md_leaves (d : Nat) (a0 : Int64) (M : aM) : am_Y (d + 1) 114 [.long a0] M = am_X (am_Y d) k_Md_leaves 0 [(0, .long a0)] [] M := rfl
theorem e_Md_leaves_0 (cal : aY) (x0 : Int64) (M : aM) : am_X cal k_Md_leaves 0 [(0, .long x0)] [] M = some (.inl (some (.int (Int64.toInt32 (x0 &&& 7)))), M) := (am_X_eq cal k_Md_leaves 0 _ _ M).trans rfl
theorem y_Md_put (d : Nat) (a0 : Nat) (a1 : Int32) (a2 : Int32) (a3 : Int64) (M : aM) : am_Y (d + 1) 115 [.ref a0, .int a1, .int a2, .long a3] M = am_X (am_Y d) k_Md_put 0 [(0, .ref a0), (1, .int a1), (2, .int a2), (3, .long a3)] [] M := rfl
theorem e_Md_put_0 (cal : aY) (x0 : Nat) (x1 : Int32) (x2 : Int32) (x3 : Int64) (M : aM) : am_X cal k_Md_put 0 [(0, .ref x0), (1, .int x1), (2, .int x2), (3, .long x3)] [] M = (am_rA M x0 9 11).bind fun v1 => (am_ix ((6 * x1) + x2)).bind fun v2 => (am_rI M v1 10 v2).bind fun v3 => if ¬ v3 = 8 then am_X cal k_Md_put 21 [(0, .ref x0), (3, .long x3), (5, .int ((6 * x1) + x2))] [] M else some (.inl none, M) := (am_X_eq cal k_Md_put 0 _ _ M).trans rfl
theorem e_Md_put_21 (cal : aY) (x0 : Nat) (x3 : Int64) (x5 : Int32) (M : aM) : am_X cal k_Md_put 21 [(0, .ref x0), (3, .long x3), (5, .int x5)] [] M = (am_rA M x0 9 10).bind fun v1 => (am_rA M x0 9 11).bind fun v2 => (am_ix x5).bind fun v3 => (am_rI M v2 10 v3).bind fun v4 => (am_ix ((8 * x5) + v4)).bind fun v5 => (am_wr M v1 11 v5 (.long x3)).bind fun M6 => (am_rA M6 x0 9 11).bind fun v7 => (am_ix x5).bind fun v8 => (am_rI M6 v7 10 v8).bind fun v9 => (am_ix x5).bind fun v10 => (am_wr M6 v7 10 v10 (.int (v9 + 1))).bind fun M11 => some (.inl none, M11) := (am_X_eq cal k_Md_put 21 _ _ M).trans rfl
theorem y_Md_deliver (d : Nat) (a0 : Nat) (a1 : Int32) (a2 : Int32) (M : aM) : am_Y (d + 1) 116 [.ref a0, .int a1, .int a2] M = am_X (am_Y d) k_Md_deliver 0 [(0, .ref a0), (1, .int a1), (2, .int a2)] [] M := rfl
theorem e_Md_deliver_0 (cal : aY) (x0 : Nat) (x1 : Int32) (x2 : Int32) (M : aM) : am_X cal k_Md_deliver 0 [(0, .ref x0), (1, .int x1), (2, .int x2)] [] M = am_cI (cal 90 [.int x1, .int 0, .int 6] M) (fun v3 M1 => if v3 = 0 then am_X cal k_Md_deliver 24 [(0, .ref x0), (1, .int x1), (2, .int x2)] [.ref x0] M1 else am_cI (cal 90 [.int x2, .int 0, .int 5] M1) (fun v6 M4 => if v6 = 0 then am_X cal k_Md_deliver 24 [(0, .ref x0), (1, .int x1), (2, .int x2)] [.ref x0] M4 else am_X cal k_Md_deliver 25 [(0, .ref x0), (1, .int x1), (2, .int x2)] [.int 1, .ref x0] M4) (fun v5 M4 => some (.inr v5, M4))) (fun v2 M1 => some (.inr v2, M1)) := (am_X_eq cal k_Md_deliver 0 _ _ M).trans rfl
theorem e_Md_deliver_24 (cal : aY) (x0 : Nat) (x1 : Int32) (x2 : Int32) (s0 : Nat) (M : aM) : am_X cal k_Md_deliver 24 [(0, .ref x0), (1, .int x1), (2, .int x2)] [.ref s0] M = am_X cal k_Md_deliver 25 [(0, .ref x0), (1, .int x1), (2, .int x2)] [.int 0, .ref s0] M := (am_X_eq cal k_Md_deliver 24 _ _ M).trans rfl
theorem e_Md_deliver_25 (cal : aY) (x0 : Nat) (x1 : Int32) (x2 : Int32) (s0 : Int32) (s1 : Nat) (M : aM) : am_X cal k_Md_deliver 25 [(0, .ref x0), (1, .int x1), (2, .int x2)] [.int s0, .ref s1] M = (am_ln M s1 9).bind fun _ => am_cI (cal 92 [.ref s1, .int s0, .int 2] M) (fun v3 M1 => if ¬ v3 = 0 then am_X cal k_Md_deliver 34 [(0, .ref x0), (1, .int x1), (2, .int x2)] [] M1 else some (.inl (some (.int 0)), M1)) (fun v2 M1 => some (.inr v2, M1)) := (am_X_eq cal k_Md_deliver 25 _ _ M).trans rfl
theorem e_Md_deliver_34 (cal : aY) (x0 : Nat) (x1 : Int32) (x2 : Int32) (M : aM) : am_X cal k_Md_deliver 34 [(0, .ref x0), (1, .int x1), (2, .int x2)] [] M = (am_rA M x0 9 11).bind fun v1 => (am_ix ((6 * x1) + x2)).bind fun v2 => (am_rI M v1 10 v2).bind fun v3 => if v3 ≤ 0 then am_X cal k_Md_deliver 55 [(0, .ref x0), (1, .int x1), (2, .int x2), (3, .int ((6 * x1) + x2))] [.ref x0] M else am_X cal k_Md_deliver 56 [(0, .ref x0), (1, .int x1), (2, .int x2), (3, .int ((6 * x1) + x2))] [.int 1, .ref x0] M := (am_X_eq cal k_Md_deliver 34 _ _ M).trans rfl
theorem e_Md_deliver_55 (cal : aY) (x0 : Nat) (x1 : Int32) (x2 : Int32) (x3 : Int32) (s0 : Nat) (M : aM) : am_X cal k_Md_deliver 55 [(0, .ref x0), (1, .int x1), (2, .int x2), (3, .int x3)] [.ref s0] M = am_X cal k_Md_deliver 56 [(0, .ref x0), (1, .int x1), (2, .int x2), (3, .int x3)] [.int 0, .ref s0] M := (am_X_eq cal k_Md_deliver 55 _ _ M).trans rfl
theorem e_Md_deliver_56 (cal : aY) (x0 : Nat) (x1 : Int32) (x2 : Int32) (x3 : Int32) (s0 : Int32) (s1 : Nat) (M : aM) : am_X cal k_Md_deliver 56 [(0, .ref x0), (1, .int x1), (2, .int x2), (3, .int x3)] [.int s0, .ref s1] M = (am_ln M s1 9).bind fun _ => am_cI (cal 92 [.ref s1, .int s0, .int 3] M) (fun v3 M1 => if ¬ v3 = 0 then am_X cal k_Md_deliver 65 [(0, .ref x0), (1, .int x1), (2, .int x2), (3, .int x3)] [] M1 else some (.inl (some (.int 0)), M1)) (fun v2 M1 => some (.inr v2, M1)) := (am_X_eq cal k_Md_deliver 56 _ _ M).trans rfl
theorem e_Md_deliver_65 (cal : aY) (x0 : Nat) (x1 : Int32) (x2 : Int32) (x3 : Int32) (M : aM) : am_X cal k_Md_deliver 65 [(0, .ref x0), (1, .int x1), (2, .int x2), (3, .int x3)] [] M = (am_rA M x0 9 10).bind fun v1 => (am_ix (8 * x3)).bind fun v2 => (am_rJ M v1 11 v2).bind fun v3 => if lg_cmp (v3 &&& 4611686018427387904) 0 = 0 then am_X cal k_Md_deliver 91 [(0, .ref x0), (1, .int x1), (2, .int x2), (3, .int x3), (4, .long v3)] [] M else am_X cal k_Md_deliver 92 [(0, .ref x0), (1, .int x1), (2, .int x2), (3, .int x3), (4, .long v3)] [.int 1] M := (am_X_eq cal k_Md_deliver 65 _ _ M).trans rfl
theorem e_Md_deliver_91 (cal : aY) (x0 : Nat) (x1 : Int32) (x2 : Int32) (x3 : Int32) (x4 : Int64) (M : aM) : am_X cal k_Md_deliver 91 [(0, .ref x0), (1, .int x1), (2, .int x2), (3, .int x3), (4, .long x4)] [] M = am_X cal k_Md_deliver 92 [(0, .ref x0), (1, .int x1), (2, .int x2), (3, .int x3), (4, .long x4)] [.int 0] M := (am_X_eq cal k_Md_deliver 91 _ _ M).trans rfl
theorem e_Md_deliver_92 (cal : aY) (x0 : Nat) (x1 : Int32) (x2 : Int32) (x3 : Int32) (x4 : Int64) (s0 : Int32) (M : aM) : am_X cal k_Md_deliver 92 [(0, .ref x0), (1, .int x1), (2, .int x2), (3, .int x3), (4, .long x4)] [.int s0] M = (am_rA M x0 9 3).bind fun v1 => (am_ix x2).bind fun v2 => (am_rI M v1 10 v2).bind fun v3 => if ¬ v3 = 1 then am_X cal k_Md_deliver 116 [(0, .ref x0), (1, .int x1), (2, .int x2), (3, .int x3), (6, .int s0), (7, .long (x4 &&& (-4611686018427387905)))] [] M else am_X cal k_Md_deliver 117 [(0, .ref x0), (1, .int x1), (2, .int x2), (3, .int x3), (6, .int s0), (7, .long (x4 &&& (-4611686018427387905)))] [.int 1] M := (am_X_eq cal k_Md_deliver 92 _ _ M).trans rfl
theorem e_Md_deliver_116 (cal : aY) (x0 : Nat) (x1 : Int32) (x2 : Int32) (x3 : Int32) (x6 : Int32) (x7 : Int64) (M : aM) : am_X cal k_Md_deliver 116 [(0, .ref x0), (1, .int x1), (2, .int x2), (3, .int x3), (6, .int x6), (7, .long x7)] [] M = am_X cal k_Md_deliver 117 [(0, .ref x0), (1, .int x1), (2, .int x2), (3, .int x3), (6, .int x6), (7, .long x7)] [.int 0] M := (am_X_eq cal k_Md_deliver 116 _ _ M).trans rfl
theorem e_Md_deliver_117 (cal : aY) (x0 : Nat) (x1 : Int32) (x2 : Int32) (x3 : Int32) (x6 : Int32) (x7 : Int64) (s0 : Int32) (M : aM) : am_X cal k_Md_deliver 117 [(0, .ref x0), (1, .int x1), (2, .int x2), (3, .int x3), (6, .int x6), (7, .long x7)] [.int s0] M = if s0 = 0 then am_X cal k_Md_deliver 142 [(0, .ref x0), (1, .int x1), (2, .int x2), (3, .int x3), (6, .int x6), (7, .long x7), (9, .int s0)] [] M else if x6 = 0 then am_X cal k_Md_deliver 138 [(0, .ref x0), (1, .int x1), (2, .int x2), (3, .int x3), (6, .int x6), (7, .long x7), (9, .int s0)] [] M else (am_rA M x0 9 7).bind fun v1 => (am_ix x2).bind fun v2 => (am_rI M v1 12 v2).bind fun v3 => if v3 = 0 then am_X cal k_Md_deliver 142 [(0, .ref x0), (1, .int x1), (2, .int x2), (3, .int x3), (6, .int x6), (7, .long x7), (9, .int s0)] [] M else am_X cal k_Md_deliver 138 [(0, .ref x0), (1, .int x1), (2, .int x2), (3, .int x3), (6, .int x6), (7, .long x7), (9, .int s0)] [] M := (am_X_eq cal k_Md_deliver 117 _ _ M).trans rfl
theorem e_Md_deliver_138 (cal : aY) (x0 : Nat) (x1 : Int32) (x2 : Int32) (x3 : Int32) (x6 : Int32) (x7 : Int64) (x9 : Int32) (M : aM) : am_X cal k_Md_deliver 138 [(0, .ref x0), (1, .int x1), (2, .int x2), (3, .int x3), (6, .int x6), (7, .long x7), (9, .int x9)] [] M = am_X cal k_Md_deliver 143 [(0, .ref x0), (1, .int x1), (2, .int x2), (3, .int x3), (6, .int x6), (7, .long x7), (9, .int x9)] [.int 1] M := (am_X_eq cal k_Md_deliver 138 _ _ M).trans rfl
theorem e_Md_deliver_142 (cal : aY) (x0 : Nat) (x1 : Int32) (x2 : Int32) (x3 : Int32) (x6 : Int32) (x7 : Int64) (x9 : Int32) (M : aM) : am_X cal k_Md_deliver 142 [(0, .ref x0), (1, .int x1), (2, .int x2), (3, .int x3), (6, .int x6), (7, .long x7), (9, .int x9)] [] M = am_X cal k_Md_deliver 143 [(0, .ref x0), (1, .int x1), (2, .int x2), (3, .int x3), (6, .int x6), (7, .long x7), (9, .int x9)] [.int 0] M := (am_X_eq cal k_Md_deliver 142 _ _ M).trans rfl
theorem e_Md_deliver_143 (cal : aY) (x0 : Nat) (x1 : Int32) (x2 : Int32) (x3 : Int32) (x6 : Int32) (x7 : Int64) (x9 : Int32) (s0 : Int32) (M : aM) : am_X cal k_Md_deliver 143 [(0, .ref x0), (1, .int x1), (2, .int x2), (3, .int x3), (6, .int x6), (7, .long x7), (9, .int x9)] [.int s0] M = if s0 = 0 then am_X cal k_Md_deliver 162 [(0, .ref x0), (1, .int x1), (2, .int x2), (3, .int x3), (6, .int x6), (7, .long x7), (9, .int x9), (10, .int s0)] [.ref x0] M else (am_rA M x0 9 6).bind fun v1 => (am_ix x2).bind fun v2 => (am_rI M v1 10 v2).bind fun v3 => if 6 ≤ v3 then am_X cal k_Md_deliver 166 [(0, .ref x0), (1, .int x1), (2, .int x2), (3, .int x3), (6, .int x6), (7, .long x7), (9, .int x9), (10, .int s0)] [.ref x0] M else am_X cal k_Md_deliver 162 [(0, .ref x0), (1, .int x1), (2, .int x2), (3, .int x3), (6, .int x6), (7, .long x7), (9, .int x9), (10, .int s0)] [.ref x0] M := (am_X_eq cal k_Md_deliver 143 _ _ M).trans rfl
theorem e_Md_deliver_162 (cal : aY) (x0 : Nat) (x1 : Int32) (x2 : Int32) (x3 : Int32) (x6 : Int32) (x7 : Int64) (x9 : Int32) (x10 : Int32) (s0 : Nat) (M : aM) : am_X cal k_Md_deliver 162 [(0, .ref x0), (1, .int x1), (2, .int x2), (3, .int x3), (6, .int x6), (7, .long x7), (9, .int x9), (10, .int x10)] [.ref s0] M = am_X cal k_Md_deliver 167 [(0, .ref x0), (1, .int x1), (2, .int x2), (3, .int x3), (6, .int x6), (7, .long x7), (9, .int x9), (10, .int x10)] [.int 1, .ref s0] M := (am_X_eq cal k_Md_deliver 162 _ _ M).trans rfl
theorem e_Md_deliver_166 (cal : aY) (x0 : Nat) (x1 : Int32) (x2 : Int32) (x3 : Int32) (x6 : Int32) (x7 : Int64) (x9 : Int32) (x10 : Int32) (s0 : Nat) (M : aM) : am_X cal k_Md_deliver 166 [(0, .ref x0), (1, .int x1), (2, .int x2), (3, .int x3), (6, .int x6), (7, .long x7), (9, .int x9), (10, .int x10)] [.ref s0] M = am_X cal k_Md_deliver 167 [(0, .ref x0), (1, .int x1), (2, .int x2), (3, .int x3), (6, .int x6), (7, .long x7), (9, .int x9), (10, .int x10)] [.int 0, .ref s0] M := (am_X_eq cal k_Md_deliver 166 _ _ M).trans rfl
theorem e_Md_deliver_167 (cal : aY) (x0 : Nat) (x1 : Int32) (x2 : Int32) (x3 : Int32) (x6 : Int32) (x7 : Int64) (x9 : Int32) (x10 : Int32) (s0 : Int32) (s1 : Nat) (M : aM) : am_X cal k_Md_deliver 167 [(0, .ref x0), (1, .int x1), (2, .int x2), (3, .int x3), (6, .int x6), (7, .long x7), (9, .int x9), (10, .int x10)] [.int s0, .ref s1] M = (am_ln M s1 9).bind fun _ => am_cI (cal 92 [.ref s1, .int s0, .int 1] M) (fun v3 M1 => if ¬ v3 = 0 then am_X cal k_Md_deliver 176 [(0, .ref x0), (1, .int x1), (2, .int x2), (3, .int x3), (6, .int x6), (7, .long x7), (9, .int x9), (10, .int x10)] [] M1 else some (.inl (some (.int 0)), M1)) (fun v2 M1 => some (.inr v2, M1)) := (am_X_eq cal k_Md_deliver 167 _ _ M).trans rfl
theorem e_Md_deliver_176 (cal : aY) (x0 : Nat) (x1 : Int32) (x2 : Int32) (x3 : Int32) (x6 : Int32) (x7 : Int64) (x9 : Int32) (x10 : Int32) (M : aM) : am_X cal k_Md_deliver 176 [(0, .ref x0), (1, .int x1), (2, .int x2), (3, .int x3), (6, .int x6), (7, .long x7), (9, .int x9), (10, .int x10)] [] M = (am_rA M x0 9 11).bind fun v1 => (am_ix x3).bind fun v2 => (am_rI M v1 10 v2).bind fun v3 => (am_ix x3).bind fun v4 => (am_wr M v1 10 v4 (.int (v3 - 1))).bind fun M5 => am_X cal k_Md_deliver 189 [(0, .ref x0), (1, .int x1), (2, .int x2), (3, .int x3), (6, .int x6), (7, .long x7), (9, .int x9), (10, .int x10), (11, .int 0)] [] M5 := (am_X_eq cal k_Md_deliver 176 _ _ M).trans rfl
theorem e_Md_deliver_189 (cal : aY) (x0 : Nat) (x1 : Int32) (x2 : Int32) (x3 : Int32) (x6 : Int32) (x7 : Int64) (x9 : Int32) (x10 : Int32) (x11 : Int32) (M : aM) : am_X cal k_Md_deliver 189 [(0, .ref x0), (1, .int x1), (2, .int x2), (3, .int x3), (6, .int x6), (7, .long x7), (9, .int x9), (10, .int x10), (11, .int x11)] [] M = (am_rA M x0 9 11).bind fun v1 => (am_ix x3).bind fun v2 => (am_rI M v1 10 v2).bind fun v3 => if v3 ≤ x11 then am_X cal k_Md_deliver 232 [(0, .ref x0), (1, .int x1), (2, .int x2), (6, .int x6), (7, .long x7), (9, .int x9), (10, .int x10)] [] M else (am_rA M x0 9 10).bind fun v4 => (am_rA M x0 9 10).bind fun v5 => (am_ix (((8 * x3) + x11) + 1)).bind fun v6 => (am_rJ M v5 11 v6).bind fun v7 => (am_ix ((8 * x3) + x11)).bind fun v8 => (am_wr M v4 11 v8 (.long v7)).bind fun M9 => am_X cal k_Md_deliver 189 [(0, .ref x0), (1, .int x1), (2, .int x2), (3, .int x3), (6, .int x6), (7, .long x7), (9, .int x9), (10, .int x10), (11, .int (x11 + 1))] [] M9 := (am_X_eq cal k_Md_deliver 189 _ _ M).trans rfl
theorem e_Md_deliver_232 (cal : aY) (x0 : Nat) (x1 : Int32) (x2 : Int32) (x6 : Int32) (x7 : Int64) (x9 : Int32) (x10 : Int32) (M : aM) : am_X cal k_Md_deliver 232 [(0, .ref x0), (1, .int x1), (2, .int x2), (6, .int x6), (7, .long x7), (9, .int x9), (10, .int x10)] [] M = if ¬ x9 = 0 then am_X cal k_Md_deliver 239 [(0, .ref x0), (1, .int x1), (2, .int x2), (6, .int x6), (7, .long x7), (10, .int x10)] [] M else some (.inl (some (.int 0)), M) := (am_X_eq cal k_Md_deliver 232 _ _ M).trans rfl
theorem e_Md_deliver_239 (cal : aY) (x0 : Nat) (x1 : Int32) (x2 : Int32) (x6 : Int32) (x7 : Int64) (x10 : Int32) (M : aM) : am_X cal k_Md_deliver 239 [(0, .ref x0), (1, .int x1), (2, .int x2), (6, .int x6), (7, .long x7), (10, .int x10)] [] M = if x10 = 0 then am_X cal k_Md_deliver 308 [(0, .ref x0), (2, .int x2), (7, .long x7)] [] M else (am_rA M x0 9 5).bind fun v1 => (am_rA M x0 9 6).bind fun v2 => (am_ix x2).bind fun v3 => (am_rI M v2 10 v3).bind fun v4 => if x6 = 0 then am_X cal k_Md_deliver 284 [(0, .ref x0), (2, .int x2), (6, .int x6), (7, .long x7)] [.int ((6 * x2) + v4), .ref v1] M else am_cJ (cal 111 [.int 6] M) (fun v7 M5 => am_cJ (cal 112 [.int x1] M5) (fun v10 M8 => am_cJ (cal 113 [.long v10, .long x7] M8) (fun v13 M11 => am_cJ (cal 113 [.long v7, .long v13] M11) (fun v16 M14 => am_X cal k_Md_deliver 286 [(0, .ref x0), (2, .int x2), (6, .int x6)] [.long v16, .int ((6 * x2) + v4), .ref v1] M14) (fun v15 M14 => some (.inr v15, M14))) (fun v12 M11 => some (.inr v12, M11))) (fun v9 M8 => some (.inr v9, M8))) (fun v6 M5 => some (.inr v6, M5)) := (am_X_eq cal k_Md_deliver 239 _ _ M).trans rfl
theorem e_Md_deliver_284 (cal : aY) (x0 : Nat) (x2 : Int32) (x6 : Int32) (x7 : Int64) (s0 : Int32) (s1 : Nat) (M : aM) : am_X cal k_Md_deliver 284 [(0, .ref x0), (2, .int x2), (6, .int x6), (7, .long x7)] [.int s0, .ref s1] M = am_X cal k_Md_deliver 286 [(0, .ref x0), (2, .int x2), (6, .int x6)] [.long x7, .int s0, .ref s1] M := (am_X_eq cal k_Md_deliver 284 _ _ M).trans rfl
theorem e_Md_deliver_286 (cal : aY) (x0 : Nat) (x2 : Int32) (x6 : Int32) (s0 : Int64) (s1 : Int32) (s2 : Nat) (M : aM) : am_X cal k_Md_deliver 286 [(0, .ref x0), (2, .int x2), (6, .int x6)] [.long s0, .int s1, .ref s2] M = (am_ix s1).bind fun v1 => (am_wr M s2 11 v1 (.long s0)).bind fun M2 => (am_rA M2 x0 9 6).bind fun v3 => (am_ix x2).bind fun v4 => (am_rI M2 v3 10 v4).bind fun v5 => (am_ix x2).bind fun v6 => (am_wr M2 v3 10 v6 (.int (v5 + 1))).bind fun M7 => if x6 = 0 then am_X cal k_Md_deliver 306 [] [] M7 else am_X cal k_Md_deliver 307 [] [.int 2] M7 := (am_X_eq cal k_Md_deliver 286 _ _ M).trans rfl
theorem e_Md_deliver_306 (cal : aY)  (M : aM) : am_X cal k_Md_deliver 306 [] [] M = am_X cal k_Md_deliver 307 [] [.int 1] M := (am_X_eq cal k_Md_deliver 306 _ _ M).trans rfl
theorem e_Md_deliver_307 (cal : aY) (s0 : Int32) (M : aM) : am_X cal k_Md_deliver 307 [] [.int s0] M = some (.inl (some (.int s0)), M) := (am_X_eq cal k_Md_deliver 307 _ _ M).trans rfl
theorem e_Md_deliver_308 (cal : aY) (x0 : Nat) (x2 : Int32) (x7 : Int64) (M : aM) : am_X cal k_Md_deliver 308 [(0, .ref x0), (2, .int x2), (7, .long x7)] [] M = am_cJ (cal 111 [.int 0] M) (fun v3 M1 => if ¬ lg_cmp x7 v3 = 0 then am_X cal k_Md_deliver 320 [(0, .ref x0), (2, .int x2), (7, .long x7)] [] M1 else some (.inl (some (.int 3)), M1)) (fun v2 M1 => some (.inr v2, M1)) := (am_X_eq cal k_Md_deliver 308 _ _ M).trans rfl
theorem e_Md_deliver_320 (cal : aY) (x0 : Nat) (x2 : Int32) (x7 : Int64) (M : aM) : am_X cal k_Md_deliver 320 [(0, .ref x0), (2, .int x2), (7, .long x7)] [] M = am_cI (cal 117 [.long x7, .int 0] M) (fun v3 M1 => (am_ln M1 x0 9).bind fun _ => am_cI (cal 118 [.ref x0, .int x2, .int v3] M1) (fun v6 M4 => some (.inl (some (.int 4)), M4)) (fun v5 M4 => some (.inr v5, M4))) (fun v2 M1 => some (.inr v2, M1)) := (am_X_eq cal k_Md_deliver 320 _ _ M).trans rfl
theorem y_Md_leafOf (d : Nat) (a0 : Int64) (a1 : Int32) (M : aM) : am_Y (d + 1) 117 [.long a0, .int a1] M = am_X (am_Y d) k_Md_leafOf 0 [(0, .long a0), (2, .int a1)] [] M := rfl
theorem e_Md_leafOf_0 (cal : aY) (x0 : Int64) (x2 : Int32) (M : aM) : am_X cal k_Md_leafOf 0 [(0, .long x0), (2, .int x2)] [] M = some (.inl (some (.int ((Int64.toInt32 (x0 >>> (Int32.toInt64 (10 + (11 * x2)) &&& 63))) &&& 2047))), M) := (am_X_eq cal k_Md_leafOf 0 _ _ M).trans rfl
theorem y_Md_end (d : Nat) (a0 : Nat) (a1 : Int32) (a2 : Int32) (M : aM) : am_Y (d + 1) 118 [.ref a0, .int a1, .int a2] M = am_X (am_Y d) k_Md_end 0 [(0, .ref a0), (1, .int a1), (2, .int a2)] [] M := rfl
theorem e_Md_end_0 (cal : aY) (x0 : Nat) (x1 : Int32) (x2 : Int32) (M : aM) : am_X cal k_Md_end 0 [(0, .ref x0), (1, .int x1), (2, .int x2)] [] M = (am_rA M x0 9 3).bind fun v1 => (am_ix x1).bind fun v2 => (am_wr M v1 10 v2 (.int 2)).bind fun M3 => (am_rA M3 x0 9 6).bind fun v4 => (am_ix x1).bind fun v5 => (am_wr M3 v4 10 v5 (.int 0)).bind fun M6 => (am_rA M6 x0 9 8).bind fun v7 => (am_ix x1).bind fun v8 => (am_wr M6 v7 10 v8 (.int x2)).bind fun M9 => am_X cal k_Md_end 26 [(0, .ref x0), (1, .int x1), (2, .int x2), (3, .int 0), (4, .int 0)] [] M9 := (am_X_eq cal k_Md_end 0 _ _ M).trans rfl
theorem e_Md_end_26 (cal : aY) (x0 : Nat) (x1 : Int32) (x2 : Int32) (x3 : Int32) (x4 : Int32) (M : aM) : am_X cal k_Md_end 26 [(0, .ref x0), (1, .int x1), (2, .int x2), (3, .int x3), (4, .int x4)] [] M = if 6 ≤ x4 then am_X cal k_Md_end 80 [(3, .int x3)] [] M else (am_rA M x0 9 9).bind fun v1 => (am_ix ((6 * x1) + x4)).bind fun v2 => (am_rI M v1 12 v2).bind fun v3 => if v3 = 0 then am_X cal k_Md_end 74 [(0, .ref x0), (1, .int x1), (2, .int x2), (3, .int x3), (4, .int x4)] [] M else am_cJ (cal 108 [.int x2] M) (fun v6 M4 => (am_ln M4 x0 9).bind fun _ => am_cV (cal 115 [.ref x0, .int x1, .int x4, .long (v6 ||| 4611686018427387904)] M4) (fun M7 => (am_ln M7 x0 9).bind fun _ => am_cV (cal 119 [.ref x0, .int x1, .int x4, .int 0] M7) (fun M9 => am_X cal k_Md_end 74 [(0, .ref x0), (1, .int x1), (2, .int x2), (3, .int (x3 + 1)), (4, .int x4)] [] M9) (fun v10 M9 => some (.inr v10, M9))) (fun v8 M7 => some (.inr v8, M7))) (fun v5 M4 => some (.inr v5, M4)) := (am_X_eq cal k_Md_end 26 _ _ M).trans rfl
theorem e_Md_end_74 (cal : aY) (x0 : Nat) (x1 : Int32) (x2 : Int32) (x3 : Int32) (x4 : Int32) (M : aM) : am_X cal k_Md_end 74 [(0, .ref x0), (1, .int x1), (2, .int x2), (3, .int x3), (4, .int x4)] [] M = am_X cal k_Md_end 26 [(0, .ref x0), (1, .int x1), (2, .int x2), (3, .int x3), (4, .int (x4 + 1))] [] M := (am_X_eq cal k_Md_end 74 _ _ M).trans rfl
theorem e_Md_end_80 (cal : aY) (x3 : Int32) (M : aM) : am_X cal k_Md_end 80 [(3, .int x3)] [] M = some (.inl (some (.int x3)), M) := (am_X_eq cal k_Md_end 80 _ _ M).trans rfl
theorem y_Md_link (d : Nat) (a0 : Nat) (a1 : Int32) (a2 : Int32) (a3 : Int32) (M : aM) : am_Y (d + 1) 119 [.ref a0, .int a1, .int a2, .int a3] M = am_X (am_Y d) k_Md_link 0 [(0, .ref a0), (1, .int a1), (2, .int a2), (3, .int a3)] [] M := rfl
theorem e_Md_link_0 (cal : aY) (x0 : Nat) (x1 : Int32) (x2 : Int32) (x3 : Int32) (M : aM) : am_X cal k_Md_link 0 [(0, .ref x0), (1, .int x1), (2, .int x2), (3, .int x3)] [] M = (am_rA M x0 9 9).bind fun v1 => (am_ix ((6 * x1) + x2)).bind fun v2 => (am_wr M v1 12 v2 (.int (x3 &&& 1))).bind fun M3 => (am_rA M3 x0 9 9).bind fun v4 => (am_ix ((6 * x2) + x1)).bind fun v5 => (am_wr M3 v4 12 v5 (.int (x3 &&& 1))).bind fun M6 => some (.inl none, M6) := (am_X_eq cal k_Md_link 0 _ _ M).trans rfl
theorem y_Md_step (d : Nat) (a0 : Nat) (a1 : Int32) (M : aM) : am_Y (d + 1) 120 [.ref a0, .int a1] M = am_X (am_Y d) k_Md_step 0 [(0, .ref a0), (1, .int a1)] [] M := rfl
theorem e_Md_step_0 (cal : aY) (x0 : Nat) (x1 : Int32) (M : aM) : am_X cal k_Md_step 0 [(0, .ref x0), (1, .int x1)] [] M = am_cI (cal 90 [.int x1, .int 0, .int 5] M) (fun v3 M1 => (am_ln M1 x0 9).bind fun _ => am_cI (cal 92 [.ref x0, .int v3, .int 2] M1) (fun v6 M4 => if ¬ v6 = 0 then am_X cal k_Md_step 16 [(0, .ref x0), (1, .int x1)] [] M4 else some (.inl (some (.int 0)), M4)) (fun v5 M4 => some (.inr v5, M4))) (fun v2 M1 => some (.inr v2, M1)) := (am_X_eq cal k_Md_step 0 _ _ M).trans rfl
theorem e_Md_step_16 (cal : aY) (x0 : Nat) (x1 : Int32) (M : aM) : am_X cal k_Md_step 16 [(0, .ref x0), (1, .int x1)] [] M = (am_rA M x0 9 3).bind fun v1 => (am_ix x1).bind fun v2 => (am_rI M v1 10 v2).bind fun v3 => if ¬ v3 = 1 then am_X cal k_Md_step 31 [(0, .ref x0), (1, .int x1)] [.ref x0] M else am_X cal k_Md_step 32 [(0, .ref x0), (1, .int x1)] [.int 1, .ref x0] M := (am_X_eq cal k_Md_step 16 _ _ M).trans rfl
theorem e_Md_step_31 (cal : aY) (x0 : Nat) (x1 : Int32) (s0 : Nat) (M : aM) : am_X cal k_Md_step 31 [(0, .ref x0), (1, .int x1)] [.ref s0] M = am_X cal k_Md_step 32 [(0, .ref x0), (1, .int x1)] [.int 0, .ref s0] M := (am_X_eq cal k_Md_step 31 _ _ M).trans rfl
theorem e_Md_step_32 (cal : aY) (x0 : Nat) (x1 : Int32) (s0 : Int32) (s1 : Nat) (M : aM) : am_X cal k_Md_step 32 [(0, .ref x0), (1, .int x1)] [.int s0, .ref s1] M = (am_ln M s1 9).bind fun _ => am_cI (cal 92 [.ref s1, .int s0, .int 1] M) (fun v3 M1 => if ¬ v3 = 0 then am_X cal k_Md_step 41 [(0, .ref x0), (1, .int x1)] [] M1 else some (.inl (some (.int 0)), M1)) (fun v2 M1 => some (.inr v2, M1)) := (am_X_eq cal k_Md_step 32 _ _ M).trans rfl
theorem e_Md_step_41 (cal : aY) (x0 : Nat) (x1 : Int32) (M : aM) : am_X cal k_Md_step 41 [(0, .ref x0), (1, .int x1)] [] M = am_X cal k_Md_step 50 [(0, .ref x0), (1, .int x1), (2, .int (60 * (3 + x1))), (3, .int 0)] [] M := (am_X_eq cal k_Md_step 41 _ _ M).trans rfl
theorem e_Md_step_50 (cal : aY) (x0 : Nat) (x1 : Int32) (x2 : Int32) (x3 : Int32) (M : aM) : am_X cal k_Md_step 50 [(0, .ref x0), (1, .int x1), (2, .int x2), (3, .int x3)] [] M = (am_rA M x0 9 6).bind fun v1 => (am_ix x1).bind fun v2 => (am_rI M v1 10 v2).bind fun v3 => if v3 ≤ x3 then am_X cal k_Md_step 181 [(0, .ref x0)] [] M else am_X cal k_Md_step 66 [(0, .ref x0), (1, .int x1), (2, .int x2), (3, .int x3), (4, .int 0), (5, .int x2)] [] M := (am_X_eq cal k_Md_step 50 _ _ M).trans rfl
theorem e_Md_step_66 (cal : aY) (x0 : Nat) (x1 : Int32) (x2 : Int32) (x3 : Int32) (x4 : Int32) (x5 : Int32) (M : aM) : am_X cal k_Md_step 66 [(0, .ref x0), (1, .int x1), (2, .int x2), (3, .int x3), (4, .int x4), (5, .int x5)] [] M = (am_rA M x0 9 1).bind fun v1 => (am_ix (3 + x1)).bind fun v2 => (am_rI M v1 10 v2).bind fun v3 => if x2 + v3 ≤ x5 then am_X cal k_Md_step 175 [(0, .ref x0), (1, .int x1), (2, .int x2), (3, .int x3)] [] M else (am_rA M x0 9 5).bind fun v4 => (am_ix ((6 * x1) + x3)).bind fun v5 => (am_rJ M v4 11 v5).bind fun v6 => (am_ln M x0 9).bind fun _ => am_cI (cal 121 [.ref x0, .int x1, .int x5, .long v6] M) (fun v9 M7 => if v9 = 0 then am_X cal k_Md_step 148 [(0, .ref x0), (1, .int x1), (2, .int x2), (3, .int x3), (4, .int x4), (5, .int x5)] [] M7 else (am_ln M7 x0 9).bind fun _ => am_cV (cal 131 [.ref x0, .int x1, .int x3] M7) (fun M10 => am_X cal k_Md_step 108 [(0, .ref x0), (1, .int x1), (3, .int x3), (4, .int x4)] [] M10) (fun v11 M10 => some (.inr v11, M10))) (fun v8 M7 => some (.inr v8, M7)) := (am_X_eq cal k_Md_step 66 _ _ M).trans rfl
theorem e_Md_step_108 (cal : aY) (x0 : Nat) (x1 : Int32) (x3 : Int32) (x4 : Int32) (M : aM) : am_X cal k_Md_step 108 [(0, .ref x0), (1, .int x1), (3, .int x3), (4, .int x4)] [] M = (am_rA M x0 9 0).bind fun v1 => (am_rI M x0 9 19).bind fun v2 => (am_ix v2).bind fun v3 => (am_rI M v1 10 v3).bind fun v4 => if v4 = 58 then am_X cal k_Md_step 135 [(0, .ref x0), (1, .int x1), (3, .int x3), (4, .int x4)] [] M else (am_rI M x0 9 19).bind fun v5 => (am_wr M x0 9 19 (.int (v5 + 1))).bind fun M6 => am_X cal k_Md_step 108 [(0, .ref x0), (1, .int x1), (3, .int x3), (4, .int x4)] [] M6 := (am_X_eq cal k_Md_step 108 _ _ M).trans rfl
theorem e_Md_step_135 (cal : aY) (x0 : Nat) (x1 : Int32) (x3 : Int32) (x4 : Int32) (M : aM) : am_X cal k_Md_step 135 [(0, .ref x0), (1, .int x1), (3, .int x3), (4, .int x4)] [] M = (am_ln M x0 9).bind fun _ => am_cI (cal 132 [.ref x0, .int x1, .int (x4 + (100 * x3))] M) (fun v3 M1 => some (.inl (some (.int v3)), M1)) (fun v2 M1 => some (.inr v2, M1)) := (am_X_eq cal k_Md_step 135 _ _ M).trans rfl
theorem e_Md_step_148 (cal : aY) (x0 : Nat) (x1 : Int32) (x2 : Int32) (x3 : Int32) (x4 : Int32) (x5 : Int32) (M : aM) : am_X cal k_Md_step 148 [(0, .ref x0), (1, .int x1), (2, .int x2), (3, .int x3), (4, .int x4), (5, .int x5)] [] M = (am_rA M x0 9 0).bind fun v1 => (am_ix x5).bind fun v2 => (am_rI M v1 10 v2).bind fun v3 => if v3 = 59 then am_X cal k_Md_step 166 [(0, .ref x0), (1, .int x1), (2, .int x2), (3, .int x3), (4, .int x4), (5, .int x5)] [] M else am_X cal k_Md_step 148 [(0, .ref x0), (1, .int x1), (2, .int x2), (3, .int x3), (4, .int x4), (5, .int (x5 + 1))] [] M := (am_X_eq cal k_Md_step 148 _ _ M).trans rfl
theorem e_Md_step_166 (cal : aY) (x0 : Nat) (x1 : Int32) (x2 : Int32) (x3 : Int32) (x4 : Int32) (x5 : Int32) (M : aM) : am_X cal k_Md_step 166 [(0, .ref x0), (1, .int x1), (2, .int x2), (3, .int x3), (4, .int x4), (5, .int x5)] [] M = am_X cal k_Md_step 66 [(0, .ref x0), (1, .int x1), (2, .int x2), (3, .int x3), (4, .int (x4 + 1)), (5, .int (x5 + 1))] [] M := (am_X_eq cal k_Md_step 166 _ _ M).trans rfl
theorem e_Md_step_175 (cal : aY) (x0 : Nat) (x1 : Int32) (x2 : Int32) (x3 : Int32) (M : aM) : am_X cal k_Md_step 175 [(0, .ref x0), (1, .int x1), (2, .int x2), (3, .int x3)] [] M = am_X cal k_Md_step 50 [(0, .ref x0), (1, .int x1), (2, .int x2), (3, .int (x3 + 1))] [] M := (am_X_eq cal k_Md_step 175 _ _ M).trans rfl
theorem e_Md_step_181 (cal : aY) (x0 : Nat) (M : aM) : am_X cal k_Md_step 181 [(0, .ref x0)] [] M = (am_ln M x0 9).bind fun _ => am_cI (cal 91 [.ref x0, .int 3] M) (fun v3 M1 => some (.inl (some (.int v3)), M1)) (fun v2 M1 => some (.inr v2, M1)) := (am_X_eq cal k_Md_step 181 _ _ M).trans rfl
theorem y_Md_takes (d : Nat) (a0 : Nat) (a1 : Int32) (a2 : Int32) (a3 : Int64) (M : aM) : am_Y (d + 1) 121 [.ref a0, .int a1, .int a2, .long a3] M = am_X (am_Y d) k_Md_takes 0 [(0, .ref a0), (1, .int a1), (2, .int a2), (3, .long a3)] [] M := rfl
theorem e_Md_takes_0 (cal : aY) (x0 : Nat) (x1 : Int32) (x2 : Int32) (x3 : Int64) (M : aM) : am_X cal k_Md_takes 0 [(0, .ref x0), (1, .int x1), (2, .int x2), (3, .long x3)] [] M = am_X cal k_Md_takes 3 [(0, .ref x0), (1, .int x1), (2, .int x2), (3, .long x3), (5, .int 0)] [] M := (am_X_eq cal k_Md_takes 0 _ _ M).trans rfl
theorem e_Md_takes_3 (cal : aY) (x0 : Nat) (x1 : Int32) (x2 : Int32) (x3 : Int64) (x5 : Int32) (M : aM) : am_X cal k_Md_takes 3 [(0, .ref x0), (1, .int x1), (2, .int x2), (3, .long x3), (5, .int x5)] [] M = if 5 ≤ x5 then am_X cal k_Md_takes 23 [(0, .ref x0), (1, .int x1), (2, .int x2), (3, .long x3)] [] M else (am_rA M x0 9 12).bind fun v1 => (am_ix x5).bind fun v2 => (am_wr M v1 11 v2 (.long 0)).bind fun M3 => am_X cal k_Md_takes 3 [(0, .ref x0), (1, .int x1), (2, .int x2), (3, .long x3), (5, .int (x5 + 1))] [] M3 := (am_X_eq cal k_Md_takes 3 _ _ M).trans rfl
theorem e_Md_takes_23 (cal : aY) (x0 : Nat) (x1 : Int32) (x2 : Int32) (x3 : Int64) (M : aM) : am_X cal k_Md_takes 23 [(0, .ref x0), (1, .int x1), (2, .int x2), (3, .long x3)] [] M = (am_rA M x0 9 12).bind fun v1 => (am_rA M x0 9 4).bind fun v2 => (am_ix x1).bind fun v3 => (am_rJ M v2 11 v3).bind fun v4 => (am_ix 5).bind fun v5 => (am_wr M v1 11 v5 (.long v4)).bind fun M6 => (am_ln M6 x0 9).bind fun _ => am_cI (cal 122 [.ref x0, .int x2, .long x3] M6) (fun v9 M7 => if ¬ v9 = 0 then am_X cal k_Md_takes 46 [(0, .ref x0), (1, .int x1)] [] M7 else some (.inl (some (.int 0)), M7)) (fun v8 M7 => some (.inr v8, M7)) := (am_X_eq cal k_Md_takes 23 _ _ M).trans rfl
theorem e_Md_takes_46 (cal : aY) (x0 : Nat) (x1 : Int32) (M : aM) : am_X cal k_Md_takes 46 [(0, .ref x0), (1, .int x1)] [] M = (am_rA M x0 9 0).bind fun v1 => (am_rI M x0 9 19).bind fun v2 => (am_ix v2).bind fun v3 => (am_rI M v1 10 v3).bind fun v4 => if ¬ v4 = 58 then am_X cal k_Md_takes 62 [(0, .ref x0), (1, .int x1)] [] M else some (.inl (some (.int 1)), M) := (am_X_eq cal k_Md_takes 46 _ _ M).trans rfl
theorem e_Md_takes_62 (cal : aY) (x0 : Nat) (x1 : Int32) (M : aM) : am_X cal k_Md_takes 62 [(0, .ref x0), (1, .int x1)] [] M = (am_rI M x0 9 19).bind fun v1 => (am_ln M x0 9).bind fun _ => am_cJ (cal 128 [.ref x0, .int (v1 + 1), .int x1] M) (fun v4 M2 => if ¬ lg_cmp v4 0 = 0 then am_X cal k_Md_takes 84 [(0, .ref x0), (1, .int x1), (5, .long v4)] [] M2 else some (.inl (some (.int 0)), M2)) (fun v3 M2 => some (.inr v3, M2)) := (am_X_eq cal k_Md_takes 62 _ _ M).trans rfl
theorem e_Md_takes_84 (cal : aY) (x0 : Nat) (x1 : Int32) (x5 : Int64) (M : aM) : am_X cal k_Md_takes 84 [(0, .ref x0), (1, .int x1), (5, .long x5)] [] M = (am_rA M x0 9 0).bind fun v1 => (am_rI M x0 9 19).bind fun v2 => (am_ix v2).bind fun v3 => (am_rI M v1 10 v3).bind fun v4 => if ¬ v4 = 61 then am_X cal k_Md_takes 102 [(0, .ref x0), (1, .int x1), (5, .long x5)] [] M else am_X cal k_Md_takes 103 [(0, .ref x0), (1, .int x1), (5, .long x5)] [.int 1] M := (am_X_eq cal k_Md_takes 84 _ _ M).trans rfl
theorem e_Md_takes_102 (cal : aY) (x0 : Nat) (x1 : Int32) (x5 : Int64) (M : aM) : am_X cal k_Md_takes 102 [(0, .ref x0), (1, .int x1), (5, .long x5)] [] M = am_X cal k_Md_takes 103 [(0, .ref x0), (1, .int x1), (5, .long x5)] [.int 0] M := (am_X_eq cal k_Md_takes 102 _ _ M).trans rfl
theorem e_Md_takes_103 (cal : aY) (x0 : Nat) (x1 : Int32) (x5 : Int64) (s0 : Int32) (M : aM) : am_X cal k_Md_takes 103 [(0, .ref x0), (1, .int x1), (5, .long x5)] [.int s0] M = (am_rI M x0 9 19).bind fun v1 => (am_ln M x0 9).bind fun _ => am_cJ (cal 128 [.ref x0, .int (v1 + 1), .int x1] M) (fun v4 M2 => if ¬ lg_cmp v4 0 = 0 then am_X cal k_Md_takes 127 [(5, .long x5), (7, .int s0), (8, .long v4)] [] M2 else some (.inl (some (.int 0)), M2)) (fun v3 M2 => some (.inr v3, M2)) := (am_X_eq cal k_Md_takes 103 _ _ M).trans rfl
theorem e_Md_takes_127 (cal : aY) (x5 : Int64) (x7 : Int32) (x8 : Int64) (M : aM) : am_X cal k_Md_takes 127 [(5, .long x5), (7, .int x7), (8, .long x8)] [] M = if x7 = 0 then am_X cal k_Md_takes 148 [(5, .long x5), (8, .long x8)] [] M else if ¬ lg_cmp x5 x8 = 0 then am_X cal k_Md_takes 144 [] [] M else am_X cal k_Md_takes 184 [] [.int 1] M := (am_X_eq cal k_Md_takes 127 _ _ M).trans rfl
theorem e_Md_takes_144 (cal : aY)  (M : aM) : am_X cal k_Md_takes 144 [] [] M = am_X cal k_Md_takes 184 [] [.int 0] M := (am_X_eq cal k_Md_takes 144 _ _ M).trans rfl
theorem e_Md_takes_148 (cal : aY) (x5 : Int64) (x8 : Int64) (M : aM) : am_X cal k_Md_takes 148 [(5, .long x5), (8, .long x8)] [] M = am_cI (cal 130 [.long x5] M) (fun v3 M1 => if v3 = 0 then am_X cal k_Md_takes 183 [] [] M1 else am_cI (cal 130 [.long x8] M1) (fun v6 M4 => if v6 = 0 then am_X cal k_Md_takes 183 [] [] M4 else am_cI (cal 117 [.long x5, .int 0] M4) (fun v9 M7 => am_cI (cal 117 [.long x8, .int 0] M7) (fun v12 M10 => if v12 ≤ v9 then am_X cal k_Md_takes 183 [] [] M10 else am_X cal k_Md_takes 184 [] [.int 1] M10) (fun v11 M10 => some (.inr v11, M10))) (fun v8 M7 => some (.inr v8, M7))) (fun v5 M4 => some (.inr v5, M4))) (fun v2 M1 => some (.inr v2, M1)) := (am_X_eq cal k_Md_takes 148 _ _ M).trans rfl
theorem e_Md_takes_183 (cal : aY)  (M : aM) : am_X cal k_Md_takes 183 [] [] M = am_X cal k_Md_takes 184 [] [.int 0] M := (am_X_eq cal k_Md_takes 183 _ _ M).trans rfl
theorem e_Md_takes_184 (cal : aY) (s0 : Int32) (M : aM) : am_X cal k_Md_takes 184 [] [.int s0] M = bif am_ft 3 (.int s0) then some (.inl (some (.int s0)), M) else none := (am_X_eq cal k_Md_takes 184 _ _ M).trans rfl
theorem y_Md_fits (d : Nat) (a0 : Nat) (a1 : Int32) (a2 : Int64) (M : aM) : am_Y (d + 1) 122 [.ref a0, .int a1, .long a2] M = am_X (am_Y d) k_Md_fits 0 [(0, .ref a0), (1, .int a1), (2, .long a2)] [] M := rfl
theorem e_Md_fits_0 (cal : aY) (x0 : Nat) (x1 : Int32) (x2 : Int64) (M : aM) : am_X cal k_Md_fits 0 [(0, .ref x0), (1, .int x1), (2, .long x2)] [] M = (am_wr M x0 9 19 (.int x1)).bind fun M1 => am_X cal k_Md_fits 14 [(0, .ref x0), (2, .long x2), (4, .int 1), (5, .int 0), (6, .int 0)] [] M1 := (am_X_eq cal k_Md_fits 0 _ _ M).trans rfl
theorem e_Md_fits_14 (cal : aY) (x0 : Nat) (x2 : Int64) (x4 : Int32) (x5 : Int32) (x6 : Int32) (M : aM) : am_X cal k_Md_fits 14 [(0, .ref x0), (2, .long x2), (4, .int x4), (5, .int x5), (6, .int x6)] [] M = if x4 ≤ 0 then am_X cal k_Md_fits 226 [(0, .ref x0)] [] M else (am_rA M x0 9 0).bind fun v1 => (am_rI M x0 9 19).bind fun v2 => (am_ix v2).bind fun v3 => (am_rI M v1 10 v3).bind fun v4 => if v4 = 44 then am_X cal k_Md_fits 44 [(0, .ref x0), (2, .long x2), (4, .int x4), (5, .int x5), (6, .int x6)] [] M else if ¬ v4 = 41 then am_X cal k_Md_fits 57 [(0, .ref x0), (2, .long x2), (4, .int x4), (5, .int x5), (6, .int x6), (7, .int v4)] [] M else am_X cal k_Md_fits 44 [(0, .ref x0), (2, .long x2), (4, .int x4), (5, .int x5), (6, .int x6)] [] M := (am_X_eq cal k_Md_fits 14 _ _ M).trans rfl
theorem e_Md_fits_44 (cal : aY) (x0 : Nat) (x2 : Int64) (x4 : Int32) (x5 : Int32) (x6 : Int32) (M : aM) : am_X cal k_Md_fits 44 [(0, .ref x0), (2, .long x2), (4, .int x4), (5, .int x5), (6, .int x6)] [] M = (am_rI M x0 9 19).bind fun v1 => (am_wr M x0 9 19 (.int (v1 + 1))).bind fun M2 => am_X cal k_Md_fits 223 [(0, .ref x0), (2, .long x2), (4, .int x4), (5, .int x5), (6, .int x6)] [] M2 := (am_X_eq cal k_Md_fits 44 _ _ M).trans rfl
theorem e_Md_fits_57 (cal : aY) (x0 : Nat) (x2 : Int64) (x4 : Int32) (x5 : Int32) (x6 : Int32) (x7 : Int32) (M : aM) : am_X cal k_Md_fits 57 [(0, .ref x0), (2, .long x2), (4, .int x4), (5, .int x5), (6, .int x6), (7, .int x7)] [] M = if ¬ x7 = 40 then am_X cal k_Md_fits 94 [(0, .ref x0), (2, .long x2), (4, .int x4), (5, .int x5), (6, .int x6), (7, .int x7)] [] M else am_cI (cal 123 [.long x2, .int x5] M) (fun v3 M1 => if ¬ v3 = 0 then am_X cal k_Md_fits 75 [(0, .ref x0), (2, .long x2), (4, .int x4), (5, .int x5), (6, .int x6)] [] M1 else some (.inl (some (.int 0)), M1)) (fun v2 M1 => some (.inr v2, M1)) := (am_X_eq cal k_Md_fits 57 _ _ M).trans rfl
theorem e_Md_fits_75 (cal : aY) (x0 : Nat) (x2 : Int64) (x4 : Int32) (x5 : Int32) (x6 : Int32) (M : aM) : am_X cal k_Md_fits 75 [(0, .ref x0), (2, .long x2), (4, .int x4), (5, .int x5), (6, .int x6)] [] M = (am_rI M x0 9 19).bind fun v1 => (am_wr M x0 9 19 (.int (v1 + 1))).bind fun M2 => am_X cal k_Md_fits 223 [(0, .ref x0), (2, .long x2), (4, .int (x4 + 1)), (5, .int (x5 + 1)), (6, .int x6)] [] M2 := (am_X_eq cal k_Md_fits 75 _ _ M).trans rfl
theorem e_Md_fits_94 (cal : aY) (x0 : Nat) (x2 : Int64) (x4 : Int32) (x5 : Int32) (x6 : Int32) (x7 : Int32) (M : aM) : am_X cal k_Md_fits 94 [(0, .ref x0), (2, .long x2), (4, .int x4), (5, .int x5), (6, .int x6), (7, .int x7)] [] M = am_cJ (cal 124 [.long x2, .int x5, .int x6] M) (fun v3 M1 => am_cI (cal 100 [.int x7] M1) (fun v6 M4 => if v6 < 0 then am_X cal k_Md_fits 128 [(0, .ref x0), (2, .long x2), (4, .int x4), (5, .int x5), (6, .int x6), (7, .int x7), (8, .long v3), (10, .int v6)] [] M4 else (am_rA M4 x0 9 12).bind fun v7 => (am_ix v6).bind fun v8 => (am_rJ M4 v7 11 v8).bind fun v9 => if lg_cmp v9 0 = 0 then am_X cal k_Md_fits 132 [(0, .ref x0), (2, .long x2), (4, .int x4), (5, .int x5), (6, .int x6), (7, .int x7), (8, .long v3), (10, .int v6)] [] M4 else am_X cal k_Md_fits 128 [(0, .ref x0), (2, .long x2), (4, .int x4), (5, .int x5), (6, .int x6), (7, .int x7), (8, .long v3), (10, .int v6)] [] M4) (fun v5 M4 => some (.inr v5, M4))) (fun v2 M1 => some (.inr v2, M1)) := (am_X_eq cal k_Md_fits 94 _ _ M).trans rfl
theorem e_Md_fits_128 (cal : aY) (x0 : Nat) (x2 : Int64) (x4 : Int32) (x5 : Int32) (x6 : Int32) (x7 : Int32) (x8 : Int64) (x10 : Int32) (M : aM) : am_X cal k_Md_fits 128 [(0, .ref x0), (2, .long x2), (4, .int x4), (5, .int x5), (6, .int x6), (7, .int x7), (8, .long x8), (10, .int x10)] [] M = am_X cal k_Md_fits 133 [(0, .ref x0), (2, .long x2), (4, .int x4), (5, .int x5), (6, .int x6), (7, .int x7), (8, .long x8), (10, .int x10)] [.int 1] M := (am_X_eq cal k_Md_fits 128 _ _ M).trans rfl
theorem e_Md_fits_132 (cal : aY) (x0 : Nat) (x2 : Int64) (x4 : Int32) (x5 : Int32) (x6 : Int32) (x7 : Int32) (x8 : Int64) (x10 : Int32) (M : aM) : am_X cal k_Md_fits 132 [(0, .ref x0), (2, .long x2), (4, .int x4), (5, .int x5), (6, .int x6), (7, .int x7), (8, .long x8), (10, .int x10)] [] M = am_X cal k_Md_fits 133 [(0, .ref x0), (2, .long x2), (4, .int x4), (5, .int x5), (6, .int x6), (7, .int x7), (8, .long x8), (10, .int x10)] [.int 0] M := (am_X_eq cal k_Md_fits 132 _ _ M).trans rfl
theorem e_Md_fits_133 (cal : aY) (x0 : Nat) (x2 : Int64) (x4 : Int32) (x5 : Int32) (x6 : Int32) (x7 : Int32) (x8 : Int64) (x10 : Int32) (s0 : Int32) (M : aM) : am_X cal k_Md_fits 133 [(0, .ref x0), (2, .long x2), (4, .int x4), (5, .int x5), (6, .int x6), (7, .int x7), (8, .long x8), (10, .int x10)] [.int s0] M = if ¬ x7 = 95 then am_X cal k_Md_fits 155 [(0, .ref x0), (2, .long x2), (4, .int x4), (5, .int x5), (6, .int x6), (8, .long x8), (10, .int x10), (11, .int s0)] [] M else (am_rI M x0 9 19).bind fun v1 => (am_wr M x0 9 19 (.int (v1 + 1))).bind fun M2 => am_X cal k_Md_fits 199 [(0, .ref x0), (2, .long x2), (4, .int x4), (5, .int x5), (6, .int x6), (8, .long x8)] [] M2 := (am_X_eq cal k_Md_fits 133 _ _ M).trans rfl
theorem e_Md_fits_155 (cal : aY) (x0 : Nat) (x2 : Int64) (x4 : Int32) (x5 : Int32) (x6 : Int32) (x8 : Int64) (x10 : Int32) (x11 : Int32) (M : aM) : am_X cal k_Md_fits 155 [(0, .ref x0), (2, .long x2), (4, .int x4), (5, .int x5), (6, .int x6), (8, .long x8), (10, .int x10), (11, .int x11)] [] M = if ¬ x11 = 0 then am_X cal k_Md_fits 182 [(0, .ref x0), (2, .long x2), (4, .int x4), (5, .int x5), (6, .int x6), (8, .long x8)] [] M else (am_rA M x0 9 12).bind fun v1 => (am_ix x10).bind fun v2 => (am_wr M v1 11 v2 (.long x8)).bind fun M3 => (am_rI M3 x0 9 19).bind fun v4 => (am_wr M3 x0 9 19 (.int (v4 + 1))).bind fun M5 => am_X cal k_Md_fits 199 [(0, .ref x0), (2, .long x2), (4, .int x4), (5, .int x5), (6, .int x6), (8, .long x8)] [] M5 := (am_X_eq cal k_Md_fits 155 _ _ M).trans rfl
theorem e_Md_fits_182 (cal : aY) (x0 : Nat) (x2 : Int64) (x4 : Int32) (x5 : Int32) (x6 : Int32) (x8 : Int64) (M : aM) : am_X cal k_Md_fits 182 [(0, .ref x0), (2, .long x2), (4, .int x4), (5, .int x5), (6, .int x6), (8, .long x8)] [] M = (am_rI M x0 9 19).bind fun v1 => (am_ln M x0 9).bind fun _ => am_cJ (cal 126 [.ref x0, .int v1, .int 0] M) (fun v4 M2 => if lg_cmp v4 x8 = 0 then am_X cal k_Md_fits 199 [(0, .ref x0), (2, .long x2), (4, .int x4), (5, .int x5), (6, .int x6), (8, .long x8)] [] M2 else some (.inl (some (.int 0)), M2)) (fun v3 M2 => some (.inr v3, M2)) := (am_X_eq cal k_Md_fits 182 _ _ M).trans rfl
theorem e_Md_fits_199 (cal : aY) (x0 : Nat) (x2 : Int64) (x4 : Int32) (x5 : Int32) (x6 : Int32) (x8 : Int64) (M : aM) : am_X cal k_Md_fits 199 [(0, .ref x0), (2, .long x2), (4, .int x4), (5, .int x5), (6, .int x6), (8, .long x8)] [] M = am_cI (cal 125 [.long x2, .int x5] M) (fun v3 M1 => am_cI (cal 114 [.long x8] M1) (fun v6 M4 => am_X cal k_Md_fits 223 [(0, .ref x0), (2, .long x2), (4, .int (x4 + (-1))), (5, .int (x5 + v3)), (6, .int (x6 + v6))] [] M4) (fun v5 M4 => some (.inr v5, M4))) (fun v2 M1 => some (.inr v2, M1)) := (am_X_eq cal k_Md_fits 199 _ _ M).trans rfl
theorem e_Md_fits_223 (cal : aY) (x0 : Nat) (x2 : Int64) (x4 : Int32) (x5 : Int32) (x6 : Int32) (M : aM) : am_X cal k_Md_fits 223 [(0, .ref x0), (2, .long x2), (4, .int x4), (5, .int x5), (6, .int x6)] [] M = am_X cal k_Md_fits 14 [(0, .ref x0), (2, .long x2), (4, .int x4), (5, .int x5), (6, .int x6)] [] M := (am_X_eq cal k_Md_fits 223 _ _ M).trans rfl
theorem e_Md_fits_226 (cal : aY) (x0 : Nat) (M : aM) : am_X cal k_Md_fits 226 [(0, .ref x0)] [] M = (am_rA M x0 9 0).bind fun v1 => (am_rI M x0 9 19).bind fun v2 => (am_ix v2).bind fun v3 => (am_rI M v1 10 v3).bind fun v4 => if ¬ v4 = 41 then am_X cal k_Md_fits 253 [] [] M else (am_rI M x0 9 19).bind fun v5 => (am_wr M x0 9 19 (.int (v5 + 1))).bind fun M6 => am_X cal k_Md_fits 226 [(0, .ref x0)] [] M6 := (am_X_eq cal k_Md_fits 226 _ _ M).trans rfl
theorem e_Md_fits_253 (cal : aY)  (M : aM) : am_X cal k_Md_fits 253 [] [] M = some (.inl (some (.int 1)), M) := (am_X_eq cal k_Md_fits 253 _ _ M).trans rfl
theorem y_Md_bit (d : Nat) (a0 : Int64) (a1 : Int32) (M : aM) : am_Y (d + 1) 123 [.long a0, .int a1] M = am_X (am_Y d) k_Md_bit 0 [(0, .long a0), (2, .int a1)] [] M := rfl
theorem e_Md_bit_0 (cal : aY) (x0 : Int64) (x2 : Int32) (M : aM) : am_X cal k_Md_bit 0 [(0, .long x0), (2, .int x2)] [] M = some (.inl (some (.int ((Int64.toInt32 (x0 >>> (Int32.toInt64 (3 + x2) &&& 63))) &&& 1))), M) := (am_X_eq cal k_Md_bit 0 _ _ M).trans rfl
theorem y_Md_part (d : Nat) (a0 : Int64) (a1 : Int32) (a2 : Int32) (M : aM) : am_Y (d + 1) 124 [.long a0, .int a1, .int a2] M = am_X (am_Y d) k_Md_part 0 [(0, .long a0), (2, .int a1), (3, .int a2)] [] M := rfl
theorem e_Md_part_0 (cal : aY) (x0 : Int64) (x2 : Int32) (x3 : Int32) (M : aM) : am_X cal k_Md_part 0 [(0, .long x0), (2, .int x2), (3, .int x3)] [] M = am_cI (cal 125 [.long x0, .int x2] M) (fun v3 M1 => if 2 = 0 then none else some (.inl (some (.long (((Int32.toInt64 ((v3 + 1) / 2)) ||| (((x0 >>> (Int32.toInt64 (3 + x2) &&& 63)) &&& ((1 <<< (Int32.toInt64 v3 &&& 63)) - 1)) <<< (Int32.toInt64 3 &&& 63))) ||| (((x0 >>> (Int32.toInt64 (10 + (11 * x3)) &&& 63)) &&& ((1 <<< (Int32.toInt64 (11 * ((v3 + 1) / 2)) &&& 63)) - 1)) <<< (Int32.toInt64 10 &&& 63))))), M1)) (fun v2 M1 => some (.inr v2, M1)) := (am_X_eq cal k_Md_part 0 _ _ M).trans rfl
theorem y_Md_bits (d : Nat) (a0 : Int64) (a1 : Int32) (M : aM) : am_Y (d + 1) 125 [.long a0, .int a1] M = am_X (am_Y d) k_Md_bits 0 [(0, .long a0), (2, .int a1)] [] M := rfl
theorem e_Md_bits_0 (cal : aY) (x0 : Int64) (x2 : Int32) (M : aM) : am_X cal k_Md_bits 0 [(0, .long x0), (2, .int x2)] [] M = am_X cal k_Md_bits 5 [(0, .long x0), (2, .int x2), (3, .int 1), (4, .int x2)] [] M := (am_X_eq cal k_Md_bits 0 _ _ M).trans rfl
theorem e_Md_bits_5 (cal : aY) (x0 : Int64) (x2 : Int32) (x3 : Int32) (x4 : Int32) (M : aM) : am_X cal k_Md_bits 5 [(0, .long x0), (2, .int x2), (3, .int x3), (4, .int x4)] [] M = if x3 ≤ 0 then am_X cal k_Md_bits 33 [(2, .int x2), (4, .int x4)] [] M else am_cI (cal 123 [.long x0, .int x4] M) (fun v3 M1 => if ¬ v3 = 1 then am_X cal k_Md_bits 24 [(0, .long x0), (2, .int x2), (4, .int x4)] [.int x3] M1 else am_X cal k_Md_bits 25 [(0, .long x0), (2, .int x2), (4, .int x4)] [.int 1, .int x3] M1) (fun v2 M1 => some (.inr v2, M1)) := (am_X_eq cal k_Md_bits 5 _ _ M).trans rfl
theorem e_Md_bits_24 (cal : aY) (x0 : Int64) (x2 : Int32) (x4 : Int32) (s0 : Int32) (M : aM) : am_X cal k_Md_bits 24 [(0, .long x0), (2, .int x2), (4, .int x4)] [.int s0] M = am_X cal k_Md_bits 25 [(0, .long x0), (2, .int x2), (4, .int x4)] [.int (-1), .int s0] M := (am_X_eq cal k_Md_bits 24 _ _ M).trans rfl
theorem e_Md_bits_25 (cal : aY) (x0 : Int64) (x2 : Int32) (x4 : Int32) (s0 : Int32) (s1 : Int32) (M : aM) : am_X cal k_Md_bits 25 [(0, .long x0), (2, .int x2), (4, .int x4)] [.int s0, .int s1] M = am_X cal k_Md_bits 5 [(0, .long x0), (2, .int x2), (3, .int (s1 + s0)), (4, .int (x4 + 1))] [] M := (am_X_eq cal k_Md_bits 25 _ _ M).trans rfl
theorem e_Md_bits_33 (cal : aY) (x2 : Int32) (x4 : Int32) (M : aM) : am_X cal k_Md_bits 33 [(2, .int x2), (4, .int x4)] [] M = some (.inl (some (.int (x4 - x2))), M) := (am_X_eq cal k_Md_bits 33 _ _ M).trans rfl
theorem y_Md_simple (d : Nat) (a0 : Nat) (a1 : Int32) (a2 : Int32) (M : aM) : am_Y (d + 1) 126 [.ref a0, .int a1, .int a2] M = am_X (am_Y d) k_Md_simple 0 [(0, .ref a0), (1, .int a1), (2, .int a2)] [] M := rfl
theorem e_Md_simple_0 (cal : aY) (x0 : Nat) (x1 : Int32) (x2 : Int32) (M : aM) : am_X cal k_Md_simple 0 [(0, .ref x0), (1, .int x1), (2, .int x2)] [] M = (am_rA M x0 9 0).bind fun v1 => (am_ix x1).bind fun v2 => (am_rI M v1 10 v2).bind fun v3 => am_cI (cal 98 [.int v3] M) (fun v6 M4 => if ¬ v6 = 0 then am_X cal k_Md_simple 20 [(0, .ref x0), (1, .int x1)] [] M4 else if ¬ v3 = 39 then am_X cal k_Md_simple 29 [(0, .ref x0), (1, .int x1), (2, .int x2), (3, .int v3)] [] M4 else am_X cal k_Md_simple 20 [(0, .ref x0), (1, .int x1)] [] M4) (fun v5 M4 => some (.inr v5, M4)) := (am_X_eq cal k_Md_simple 0 _ _ M).trans rfl
theorem e_Md_simple_20 (cal : aY) (x0 : Nat) (x1 : Int32) (M : aM) : am_X cal k_Md_simple 20 [(0, .ref x0), (1, .int x1)] [] M = (am_ln M x0 9).bind fun _ => am_cI (cal 127 [.ref x0, .int x1] M) (fun v3 M1 => am_cJ (cal 107 [.int v3] M1) (fun v6 M4 => some (.inl (some (.long v6)), M4)) (fun v5 M4 => some (.inr v5, M4))) (fun v2 M1 => some (.inr v2, M1)) := (am_X_eq cal k_Md_simple 20 _ _ M).trans rfl
theorem e_Md_simple_29 (cal : aY) (x0 : Nat) (x1 : Int32) (x2 : Int32) (x3 : Int32) (M : aM) : am_X cal k_Md_simple 29 [(0, .ref x0), (1, .int x1), (2, .int x2), (3, .int x3)] [] M = (am_wr M x0 9 19 (.int (x1 + 1))).bind fun M1 => if ¬ x3 = 35 then am_X cal k_Md_simple 47 [(0, .ref x0), (3, .int x3)] [] M1 else am_cJ (cal 112 [.int x2] M1) (fun v4 M2 => some (.inl (some (.long v4)), M2)) (fun v3 M2 => some (.inr v3, M2)) := (am_X_eq cal k_Md_simple 29 _ _ M).trans rfl
theorem e_Md_simple_47 (cal : aY) (x0 : Nat) (x3 : Int32) (M : aM) : am_X cal k_Md_simple 47 [(0, .ref x0), (3, .int x3)] [] M = am_cI (cal 99 [.int x3] M) (fun v3 M1 => if v3 = 0 then am_X cal k_Md_simple 64 [(0, .ref x0), (3, .int x3)] [] M1 else am_cJ (cal 111 [.int (x3 - 97)] M1) (fun v6 M4 => am_X cal k_Md_simple 73 [] [.long v6] M4) (fun v5 M4 => some (.inr v5, M4))) (fun v2 M1 => some (.inr v2, M1)) := (am_X_eq cal k_Md_simple 47 _ _ M).trans rfl
theorem e_Md_simple_64 (cal : aY) (x0 : Nat) (x3 : Int32) (M : aM) : am_X cal k_Md_simple 64 [(0, .ref x0), (3, .int x3)] [] M = (am_rA M x0 9 12).bind fun v1 => am_cI (cal 100 [.int x3] M) (fun v4 M2 => (am_ix v4).bind fun v5 => (am_rJ M2 v1 11 v5).bind fun v6 => am_X cal k_Md_simple 73 [] [.long v6] M2) (fun v3 M2 => some (.inr v3, M2)) := (am_X_eq cal k_Md_simple 64 _ _ M).trans rfl
theorem e_Md_simple_73 (cal : aY) (s0 : Int64) (M : aM) : am_X cal k_Md_simple 73 [] [.long s0] M = some (.inl (some (.long s0)), M) := (am_X_eq cal k_Md_simple 73 _ _ M).trans rfl
theorem y_Md_number (d : Nat) (a0 : Nat) (a1 : Int32) (M : aM) : am_Y (d + 1) 127 [.ref a0, .int a1] M = am_X (am_Y d) k_Md_number 0 [(0, .ref a0), (1, .int a1)] [] M := rfl
theorem e_Md_number_0 (cal : aY) (x0 : Nat) (x1 : Int32) (M : aM) : am_X cal k_Md_number 0 [(0, .ref x0), (1, .int x1)] [] M = (am_wr M x0 9 19 (.int (x1 + 1))).bind fun M1 => (am_rA M1 x0 9 0).bind fun v2 => (am_ix x1).bind fun v3 => (am_rI M1 v2 10 v3).bind fun v4 => if v4 = 39 then am_X cal k_Md_number 28 [(0, .ref x0), (1, .int x1)] [] M1 else (am_rA M1 x0 9 0).bind fun v5 => (am_ix x1).bind fun v6 => (am_rI M1 v5 10 v6).bind fun v7 => some (.inl (some (.int (v7 - 48))), M1) := (am_X_eq cal k_Md_number 0 _ _ M).trans rfl
theorem e_Md_number_28 (cal : aY) (x0 : Nat) (x1 : Int32) (M : aM) : am_X cal k_Md_number 28 [(0, .ref x0), (1, .int x1)] [] M = (am_wr M x0 9 19 (.int (x1 + 3))).bind fun M1 => (am_rA M1 x0 9 0).bind fun v2 => (am_ix (x1 + 1)).bind fun v3 => (am_rI M1 v2 10 v3).bind fun v4 => (am_rA M1 x0 9 0).bind fun v5 => (am_ix (x1 + 2)).bind fun v6 => (am_rI M1 v5 10 v6).bind fun v7 => some (.inl (some (.int (((10 * (v4 - 48)) + v7) - 48))), M1) := (am_X_eq cal k_Md_number 28 _ _ M).trans rfl
theorem y_Md_evaluate (d : Nat) (a0 : Nat) (a1 : Int32) (a2 : Int32) (M : aM) : am_Y (d + 1) 128 [.ref a0, .int a1, .int a2] M = am_X (am_Y d) k_Md_evaluate 0 [(0, .ref a0), (1, .int a1), (2, .int a2)] [] M := rfl
theorem e_Md_evaluate_0 (cal : aY) (x0 : Nat) (x1 : Int32) (x2 : Int32) (M : aM) : am_X cal k_Md_evaluate 0 [(0, .ref x0), (1, .int x1), (2, .int x2)] [] M = (am_wr M x0 9 19 (.int x1)).bind fun M1 => am_X cal k_Md_evaluate 10 [(0, .ref x0), (2, .int x2), (3, .int 0), (4, .int 0)] [] M1 := (am_X_eq cal k_Md_evaluate 0 _ _ M).trans rfl
theorem e_Md_evaluate_10 (cal : aY) (x0 : Nat) (x2 : Int32) (x3 : Int32) (x4 : Int32) (M : aM) : am_X cal k_Md_evaluate 10 [(0, .ref x0), (2, .int x2), (3, .int x3), (4, .int x4)] [] M = if 60 ≤ x4 then am_X cal k_Md_evaluate 253 [] [] M else (am_rA M x0 9 0).bind fun v1 => (am_rI M x0 9 19).bind fun v2 => (am_ix v2).bind fun v3 => (am_rI M v1 10 v3).bind fun v4 => if v4 = 40 then am_X cal k_Md_evaluate 56 [(0, .ref x0), (2, .int x2), (3, .int x3), (4, .int x4), (5, .int v4)] [] M else if v4 = 43 then am_X cal k_Md_evaluate 56 [(0, .ref x0), (2, .int x2), (3, .int x3), (4, .int x4), (5, .int v4)] [] M else if v4 = 45 then am_X cal k_Md_evaluate 56 [(0, .ref x0), (2, .int x2), (3, .int x3), (4, .int x4), (5, .int v4)] [] M else if ¬ v4 = 47 then am_X cal k_Md_evaluate 87 [(0, .ref x0), (2, .int x2), (3, .int x3), (4, .int x4)] [] M else am_X cal k_Md_evaluate 56 [(0, .ref x0), (2, .int x2), (3, .int x3), (4, .int x4), (5, .int v4)] [] M := (am_X_eq cal k_Md_evaluate 10 _ _ M).trans rfl
theorem e_Md_evaluate_56 (cal : aY) (x0 : Nat) (x2 : Int32) (x3 : Int32) (x4 : Int32) (x5 : Int32) (M : aM) : am_X cal k_Md_evaluate 56 [(0, .ref x0), (2, .int x2), (3, .int x3), (4, .int x4), (5, .int x5)] [] M = (am_rA M x0 9 13).bind fun v1 => (am_ix x3).bind fun v2 => (am_wr M v1 10 v2 (.int x5)).bind fun M3 => (am_rA M3 x0 9 18).bind fun v4 => (am_ix x3).bind fun v5 => (am_wr M3 v4 11 v5 (.long 0)).bind fun M6 => (am_rI M6 x0 9 19).bind fun v7 => (am_wr M6 x0 9 19 (.int (v7 + 1))).bind fun M8 => am_X cal k_Md_evaluate 247 [(0, .ref x0), (2, .int x2), (3, .int (x3 + 1)), (4, .int x4)] [] M8 := (am_X_eq cal k_Md_evaluate 56 _ _ M).trans rfl
theorem e_Md_evaluate_87 (cal : aY) (x0 : Nat) (x2 : Int32) (x3 : Int32) (x4 : Int32) (M : aM) : am_X cal k_Md_evaluate 87 [(0, .ref x0), (2, .int x2), (3, .int x3), (4, .int x4)] [] M = (am_wr M x0 9 20 (.int 1)).bind fun M1 => (am_rI M1 x0 9 19).bind fun v2 => (am_ln M1 x0 9).bind fun _ => am_cJ (cal 126 [.ref x0, .int v2, .int x2] M1) (fun v5 M3 => am_X cal k_Md_evaluate 106 [(0, .ref x0), (2, .int x2), (3, .int x3), (4, .int x4), (6, .long v5), (8, .int 1)] [] M3) (fun v4 M3 => some (.inr v4, M3)) := (am_X_eq cal k_Md_evaluate 87 _ _ M).trans rfl
theorem e_Md_evaluate_106 (cal : aY) (x0 : Nat) (x2 : Int32) (x3 : Int32) (x4 : Int32) (x6 : Int64) (x8 : Int32) (M : aM) : am_X cal k_Md_evaluate 106 [(0, .ref x0), (2, .int x2), (3, .int x3), (4, .int x4), (6, .long x6), (8, .int x8)] [] M = if x8 = 0 then am_X cal k_Md_evaluate 213 [(0, .ref x0), (2, .int x2), (3, .int x3), (4, .int x4), (6, .long x6), (8, .int x8)] [] M else if lg_cmp x6 0 = 0 then am_X cal k_Md_evaluate 213 [(0, .ref x0), (2, .int x2), (3, .int x3), (4, .int x4), (6, .long x6), (8, .int x8)] [] M else if x3 ≤ 0 then am_X cal k_Md_evaluate 213 [(0, .ref x0), (2, .int x2), (3, .int x3), (4, .int x4), (6, .long x6), (8, .int x8)] [] M else (am_rA M x0 9 18).bind fun v1 => (am_ix (x3 - 1)).bind fun v2 => (am_rJ M v1 11 v2).bind fun v3 => if lg_cmp v3 0 = 0 then am_X cal k_Md_evaluate 143 [(0, .ref x0), (2, .int x2), (3, .int x3), (4, .int x4), (6, .long x6), (9, .int (x3 - 1))] [] M else am_X cal k_Md_evaluate 144 [(0, .ref x0), (2, .int x2), (3, .int x3), (4, .int x4), (6, .long x6), (9, .int (x3 - 1))] [.int 1] M := (am_X_eq cal k_Md_evaluate 106 _ _ M).trans rfl
theorem e_Md_evaluate_143 (cal : aY) (x0 : Nat) (x2 : Int32) (x3 : Int32) (x4 : Int32) (x6 : Int64) (x9 : Int32) (M : aM) : am_X cal k_Md_evaluate 143 [(0, .ref x0), (2, .int x2), (3, .int x3), (4, .int x4), (6, .long x6), (9, .int x9)] [] M = am_X cal k_Md_evaluate 144 [(0, .ref x0), (2, .int x2), (3, .int x3), (4, .int x4), (6, .long x6), (9, .int x9)] [.int 0] M := (am_X_eq cal k_Md_evaluate 143 _ _ M).trans rfl
theorem e_Md_evaluate_144 (cal : aY) (x0 : Nat) (x2 : Int32) (x3 : Int32) (x4 : Int32) (x6 : Int64) (x9 : Int32) (s0 : Int32) (M : aM) : am_X cal k_Md_evaluate 144 [(0, .ref x0), (2, .int x2), (3, .int x3), (4, .int x4), (6, .long x6), (9, .int x9)] [.int s0] M = if s0 = 0 then am_X cal k_Md_evaluate 179 [(0, .ref x0), (2, .int x2), (3, .int x3), (4, .int x4), (6, .long x6), (8, .int s0), (9, .int x9)] [] M else (am_rA M x0 9 13).bind fun v1 => (am_ix x9).bind fun v2 => (am_rI M v1 10 v2).bind fun v3 => (am_rA M x0 9 18).bind fun v4 => (am_ix x9).bind fun v5 => (am_rJ M v4 11 v5).bind fun v6 => (am_ln M x0 9).bind fun _ => am_cJ (cal 129 [.ref x0, .int v3, .long v6, .long x6] M) (fun v9 M7 => am_X cal k_Md_evaluate 188 [(0, .ref x0), (2, .int x2), (3, .int (x3 + (-1))), (4, .int x4), (6, .long v9), (8, .int s0), (9, .int x9)] [] M7) (fun v8 M7 => some (.inr v8, M7)) := (am_X_eq cal k_Md_evaluate 144 _ _ M).trans rfl
theorem e_Md_evaluate_179 (cal : aY) (x0 : Nat) (x2 : Int32) (x3 : Int32) (x4 : Int32) (x6 : Int64) (x8 : Int32) (x9 : Int32) (M : aM) : am_X cal k_Md_evaluate 179 [(0, .ref x0), (2, .int x2), (3, .int x3), (4, .int x4), (6, .long x6), (8, .int x8), (9, .int x9)] [] M = (am_rA M x0 9 18).bind fun v1 => (am_ix x9).bind fun v2 => (am_wr M v1 11 v2 (.long x6)).bind fun M3 => am_X cal k_Md_evaluate 188 [(0, .ref x0), (2, .int x2), (3, .int x3), (4, .int x4), (6, .long x6), (8, .int x8), (9, .int x9)] [] M3 := (am_X_eq cal k_Md_evaluate 179 _ _ M).trans rfl
theorem e_Md_evaluate_188 (cal : aY) (x0 : Nat) (x2 : Int32) (x3 : Int32) (x4 : Int32) (x6 : Int64) (x8 : Int32) (x9 : Int32) (M : aM) : am_X cal k_Md_evaluate 188 [(0, .ref x0), (2, .int x2), (3, .int x3), (4, .int x4), (6, .long x6), (8, .int x8), (9, .int x9)] [] M = (am_rA M x0 9 13).bind fun v1 => (am_ix x9).bind fun v2 => (am_rI M v1 10 v2).bind fun v3 => if ¬ v3 = 40 then am_X cal k_Md_evaluate 210 [(0, .ref x0), (2, .int x2), (3, .int x3), (4, .int x4), (6, .long x6), (8, .int x8)] [] M else (am_rI M x0 9 19).bind fun v4 => (am_wr M x0 9 19 (.int (v4 + 1))).bind fun M5 => am_X cal k_Md_evaluate 210 [(0, .ref x0), (2, .int x2), (3, .int x3), (4, .int x4), (6, .long x6), (8, .int x8)] [] M5 := (am_X_eq cal k_Md_evaluate 188 _ _ M).trans rfl
theorem e_Md_evaluate_210 (cal : aY) (x0 : Nat) (x2 : Int32) (x3 : Int32) (x4 : Int32) (x6 : Int64) (x8 : Int32) (M : aM) : am_X cal k_Md_evaluate 210 [(0, .ref x0), (2, .int x2), (3, .int x3), (4, .int x4), (6, .long x6), (8, .int x8)] [] M = am_X cal k_Md_evaluate 106 [(0, .ref x0), (2, .int x2), (3, .int x3), (4, .int x4), (6, .long x6), (8, .int x8)] [] M := (am_X_eq cal k_Md_evaluate 210 _ _ M).trans rfl
theorem e_Md_evaluate_213 (cal : aY) (x0 : Nat) (x2 : Int32) (x3 : Int32) (x4 : Int32) (x6 : Int64) (x8 : Int32) (M : aM) : am_X cal k_Md_evaluate 213 [(0, .ref x0), (2, .int x2), (3, .int x3), (4, .int x4), (6, .long x6), (8, .int x8)] [] M = if lg_cmp x6 0 = 0 then am_X cal k_Md_evaluate 225 [(0, .ref x0), (6, .long x6)] [] M else if x8 = 0 then am_X cal k_Md_evaluate 247 [(0, .ref x0), (2, .int x2), (3, .int x3), (4, .int x4)] [] M else am_X cal k_Md_evaluate 225 [(0, .ref x0), (6, .long x6)] [] M := (am_X_eq cal k_Md_evaluate 213 _ _ M).trans rfl
theorem e_Md_evaluate_225 (cal : aY) (x0 : Nat) (x6 : Int64) (M : aM) : am_X cal k_Md_evaluate 225 [(0, .ref x0), (6, .long x6)] [] M = if ¬ lg_cmp x6 0 = 0 then am_X cal k_Md_evaluate 240 [(6, .long x6)] [.ref x0] M else (am_rI M x0 9 20).bind fun v1 => am_X cal k_Md_evaluate 241 [(6, .long x6)] [.int v1, .ref x0] M := (am_X_eq cal k_Md_evaluate 225 _ _ M).trans rfl
theorem e_Md_evaluate_240 (cal : aY) (x6 : Int64) (s0 : Nat) (M : aM) : am_X cal k_Md_evaluate 240 [(6, .long x6)] [.ref s0] M = am_X cal k_Md_evaluate 241 [(6, .long x6)] [.int 0, .ref s0] M := (am_X_eq cal k_Md_evaluate 240 _ _ M).trans rfl
theorem e_Md_evaluate_241 (cal : aY) (x6 : Int64) (s0 : Int32) (s1 : Nat) (M : aM) : am_X cal k_Md_evaluate 241 [(6, .long x6)] [.int s0, .ref s1] M = (am_wr M s1 9 20 (.int s0)).bind fun M1 => some (.inl (some (.long x6)), M1) := (am_X_eq cal k_Md_evaluate 241 _ _ M).trans rfl
theorem e_Md_evaluate_247 (cal : aY) (x0 : Nat) (x2 : Int32) (x3 : Int32) (x4 : Int32) (M : aM) : am_X cal k_Md_evaluate 247 [(0, .ref x0), (2, .int x2), (3, .int x3), (4, .int x4)] [] M = am_X cal k_Md_evaluate 10 [(0, .ref x0), (2, .int x2), (3, .int x3), (4, .int (x4 + 1))] [] M := (am_X_eq cal k_Md_evaluate 247 _ _ M).trans rfl
theorem e_Md_evaluate_253 (cal : aY)  (M : aM) : am_X cal k_Md_evaluate 253 [] [] M = some (.inl (some (.long 0)), M) := (am_X_eq cal k_Md_evaluate 253 _ _ M).trans rfl
theorem y_Md_combine (d : Nat) (a0 : Nat) (a1 : Int32) (a2 : Int64) (a3 : Int64) (M : aM) : am_Y (d + 1) 129 [.ref a0, .int a1, .long a2, .long a3] M = am_X (am_Y d) k_Md_combine 0 [(0, .ref a0), (1, .int a1), (2, .long a2), (4, .long a3)] [] M := rfl
theorem e_Md_combine_0 (cal : aY) (x0 : Nat) (x1 : Int32) (x2 : Int64) (x4 : Int64) (M : aM) : am_X cal k_Md_combine 0 [(0, .ref x0), (1, .int x1), (2, .long x2), (4, .long x4)] [] M = (am_wr M x0 9 20 (.int 1)).bind fun M1 => if ¬ x1 = 40 then am_X cal k_Md_combine 18 [(0, .ref x0), (1, .int x1), (2, .long x2), (4, .long x4)] [] M1 else am_cJ (cal 113 [.long x2, .long x4] M1) (fun v4 M2 => some (.inl (some (.long v4)), M2)) (fun v3 M2 => some (.inr v3, M2)) := (am_X_eq cal k_Md_combine 0 _ _ M).trans rfl
theorem e_Md_combine_18 (cal : aY) (x0 : Nat) (x1 : Int32) (x2 : Int64) (x4 : Int64) (M : aM) : am_X cal k_Md_combine 18 [(0, .ref x0), (1, .int x1), (2, .long x2), (4, .long x4)] [] M = am_cI (cal 130 [.long x2] M) (fun v3 M1 => if v3 = 0 then am_X cal k_Md_combine 33 [] [] M1 else am_cI (cal 130 [.long x4] M1) (fun v6 M4 => if ¬ v6 = 0 then am_X cal k_Md_combine 35 [(0, .ref x0), (1, .int x1), (2, .long x2), (4, .long x4)] [] M4 else am_X cal k_Md_combine 33 [] [] M4) (fun v5 M4 => some (.inr v5, M4))) (fun v2 M1 => some (.inr v2, M1)) := (am_X_eq cal k_Md_combine 18 _ _ M).trans rfl
theorem e_Md_combine_33 (cal : aY)  (M : aM) : am_X cal k_Md_combine 33 [] [] M = some (.inl (some (.long 0)), M) := (am_X_eq cal k_Md_combine 33 _ _ M).trans rfl
theorem e_Md_combine_35 (cal : aY) (x0 : Nat) (x1 : Int32) (x2 : Int64) (x4 : Int64) (M : aM) : am_X cal k_Md_combine 35 [(0, .ref x0), (1, .int x1), (2, .long x2), (4, .long x4)] [] M = am_cI (cal 117 [.long x2, .int 0] M) (fun v3 M1 => am_cI (cal 117 [.long x4, .int 0] M1) (fun v6 M4 => if ¬ x1 = 47 then am_X cal k_Md_combine 76 [(1, .int x1), (6, .int (v3 - 999)), (7, .int (v6 - 999))] [] M4 else if ¬ v6 - 999 = 0 then am_X cal k_Md_combine 76 [(1, .int x1), (6, .int (v3 - 999)), (7, .int (v6 - 999))] [] M4 else (am_wr M4 x0 9 20 (.int 2)).bind fun M7 => some (.inl (some (.long 0)), M7)) (fun v5 M4 => some (.inr v5, M4))) (fun v2 M1 => some (.inr v2, M1)) := (am_X_eq cal k_Md_combine 35 _ _ M).trans rfl
theorem e_Md_combine_76 (cal : aY) (x1 : Int32) (x6 : Int32) (x7 : Int32) (M : aM) : am_X cal k_Md_combine 76 [(1, .int x1), (6, .int x6), (7, .int x7)] [] M = if ¬ x1 = 43 then am_X cal k_Md_combine 90 [(1, .int x1), (6, .int x6), (7, .int x7)] [] M else am_X cal k_Md_combine 109 [] [.int (x6 + x7)] M := (am_X_eq cal k_Md_combine 76 _ _ M).trans rfl
theorem e_Md_combine_90 (cal : aY) (x1 : Int32) (x6 : Int32) (x7 : Int32) (M : aM) : am_X cal k_Md_combine 90 [(1, .int x1), (6, .int x6), (7, .int x7)] [] M = if ¬ x1 = 45 then am_X cal k_Md_combine 104 [(6, .int x6), (7, .int x7)] [] M else am_X cal k_Md_combine 109 [] [.int (x6 - x7)] M := (am_X_eq cal k_Md_combine 90 _ _ M).trans rfl
theorem e_Md_combine_104 (cal : aY) (x6 : Int32) (x7 : Int32) (M : aM) : am_X cal k_Md_combine 104 [(6, .int x6), (7, .int x7)] [] M = if x7 = 0 then none else am_X cal k_Md_combine 109 [] [.int (x6 / x7)] M := (am_X_eq cal k_Md_combine 104 _ _ M).trans rfl
theorem e_Md_combine_109 (cal : aY) (s0 : Int32) (M : aM) : am_X cal k_Md_combine 109 [] [.int s0] M = am_cI (cal 90 [.int s0, .int (-999), .int 999] M) (fun v3 M1 => if v3 = 0 then am_X cal k_Md_combine 133 [] [] M1 else am_cJ (cal 107 [.int s0] M1) (fun v6 M4 => am_X cal k_Md_combine 134 [] [.long v6] M4) (fun v5 M4 => some (.inr v5, M4))) (fun v2 M1 => some (.inr v2, M1)) := (am_X_eq cal k_Md_combine 109 _ _ M).trans rfl
theorem e_Md_combine_133 (cal : aY)  (M : aM) : am_X cal k_Md_combine 133 [] [] M = am_X cal k_Md_combine 134 [] [.long 0] M := (am_X_eq cal k_Md_combine 133 _ _ M).trans rfl
theorem e_Md_combine_134 (cal : aY) (s0 : Int64) (M : aM) : am_X cal k_Md_combine 134 [] [.long s0] M = some (.inl (some (.long s0)), M) := (am_X_eq cal k_Md_combine 134 _ _ M).trans rfl
theorem y_Md_isInt (d : Nat) (a0 : Int64) (M : aM) : am_Y (d + 1) 130 [.long a0] M = am_X (am_Y d) k_Md_isInt 0 [(0, .long a0)] [] M := rfl
theorem e_Md_isInt_0 (cal : aY) (x0 : Int64) (M : aM) : am_X cal k_Md_isInt 0 [(0, .long x0)] [] M = am_cI (cal 114 [.long x0] M) (fun v3 M1 => if ¬ v3 = 1 then am_X cal k_Md_isInt 23 [] [] M1 else am_cI (cal 117 [.long x0, .int 0] M1) (fun v6 M4 => if 1999 ≤ v6 then am_X cal k_Md_isInt 23 [] [] M4 else am_X cal k_Md_isInt 24 [] [.int 1] M4) (fun v5 M4 => some (.inr v5, M4))) (fun v2 M1 => some (.inr v2, M1)) := (am_X_eq cal k_Md_isInt 0 _ _ M).trans rfl
theorem e_Md_isInt_23 (cal : aY)  (M : aM) : am_X cal k_Md_isInt 23 [] [] M = am_X cal k_Md_isInt 24 [] [.int 0] M := (am_X_eq cal k_Md_isInt 23 _ _ M).trans rfl
theorem e_Md_isInt_24 (cal : aY) (s0 : Int32) (M : aM) : am_X cal k_Md_isInt 24 [] [.int s0] M = bif am_ft 3 (.int s0) then some (.inl (some (.int s0)), M) else none := (am_X_eq cal k_Md_isInt 24 _ _ M).trans rfl
theorem y_Md_take (d : Nat) (a0 : Nat) (a1 : Int32) (a2 : Int32) (M : aM) : am_Y (d + 1) 131 [.ref a0, .int a1, .int a2] M = am_X (am_Y d) k_Md_take 0 [(0, .ref a0), (1, .int a1), (2, .int a2)] [] M := rfl
theorem e_Md_take_0 (cal : aY) (x0 : Nat) (x1 : Int32) (x2 : Int32) (M : aM) : am_X cal k_Md_take 0 [(0, .ref x0), (1, .int x1), (2, .int x2)] [] M = (am_rA M x0 9 6).bind fun v1 => (am_ix x1).bind fun v2 => (am_rI M v1 10 v2).bind fun v3 => (am_ix x1).bind fun v4 => (am_wr M v1 10 v4 (.int (v3 - 1))).bind fun M5 => am_X cal k_Md_take 12 [(0, .ref x0), (1, .int x1), (3, .int x2)] [] M5 := (am_X_eq cal k_Md_take 0 _ _ M).trans rfl
theorem e_Md_take_12 (cal : aY) (x0 : Nat) (x1 : Int32) (x3 : Int32) (M : aM) : am_X cal k_Md_take 12 [(0, .ref x0), (1, .int x1), (3, .int x3)] [] M = (am_rA M x0 9 6).bind fun v1 => (am_ix x1).bind fun v2 => (am_rI M v1 10 v2).bind fun v3 => if v3 ≤ x3 then am_X cal k_Md_take 52 [] [] M else (am_rA M x0 9 5).bind fun v4 => (am_rA M x0 9 5).bind fun v5 => (am_ix (((6 * x1) + x3) + 1)).bind fun v6 => (am_rJ M v5 11 v6).bind fun v7 => (am_ix ((6 * x1) + x3)).bind fun v8 => (am_wr M v4 11 v8 (.long v7)).bind fun M9 => am_X cal k_Md_take 12 [(0, .ref x0), (1, .int x1), (3, .int (x3 + 1))] [] M9 := (am_X_eq cal k_Md_take 12 _ _ M).trans rfl
theorem e_Md_take_52 (cal : aY)  (M : aM) : am_X cal k_Md_take 52 [] [] M = some (.inl none, M) := (am_X_eq cal k_Md_take 52 _ _ M).trans rfl
theorem y_Md_perform (d : Nat) (a0 : Nat) (a1 : Int32) (a2 : Int32) (M : aM) : am_Y (d + 1) 132 [.ref a0, .int a1, .int a2] M = am_X (am_Y d) k_Md_perform 0 [(0, .ref a0), (1, .int a1), (2, .int a2)] [] M := rfl
theorem e_Md_perform_0 (cal : aY) (x0 : Nat) (x1 : Int32) (x2 : Int32) (M : aM) : am_X cal k_Md_perform 0 [(0, .ref x0), (1, .int x1), (2, .int x2)] [] M = (am_rA M x0 9 18).bind fun v1 => (am_rA M x0 9 4).bind fun v2 => (am_ix x1).bind fun v3 => (am_rJ M v2 11 v3).bind fun v4 => (am_ix 4).bind fun v5 => (am_wr M v1 11 v5 (.long v4)).bind fun M6 => (am_wr M6 x0 9 20 (.int 0)).bind fun M7 => (am_rI M7 x0 9 19).bind fun v8 => (am_wr M7 x0 9 19 (.int (v8 + 1))).bind fun M9 => am_X cal k_Md_perform 29 [(0, .ref x0), (1, .int x1), (2, .int x2), (3, .int 1)] [] M9 := (am_X_eq cal k_Md_perform 0 _ _ M).trans rfl
theorem e_Md_perform_29 (cal : aY) (x0 : Nat) (x1 : Int32) (x2 : Int32) (x3 : Int32) (M : aM) : am_X cal k_Md_perform 29 [(0, .ref x0), (1, .int x1), (2, .int x2), (3, .int x3)] [] M = if x3 = 0 then am_X cal k_Md_perform 60 [(0, .ref x0), (1, .int x1), (2, .int x2)] [] M else (am_rA M x0 9 0).bind fun v1 => (am_rI M x0 9 19).bind fun v2 => (am_ix v2).bind fun v3 => (am_rI M v1 10 v3).bind fun v4 => if v4 = 59 then am_X cal k_Md_perform 60 [(0, .ref x0), (1, .int x1), (2, .int x2)] [] M else (am_rI M x0 9 19).bind fun v5 => (am_ln M x0 9).bind fun _ => am_cI (cal 133 [.ref x0, .int x1, .int v5] M) (fun v8 M6 => am_X cal k_Md_perform 29 [(0, .ref x0), (1, .int x1), (2, .int x2), (3, .int v8)] [] M6) (fun v7 M6 => some (.inr v7, M6)) := (am_X_eq cal k_Md_perform 29 _ _ M).trans rfl
theorem e_Md_perform_60 (cal : aY) (x0 : Nat) (x1 : Int32) (x2 : Int32) (M : aM) : am_X cal k_Md_perform 60 [(0, .ref x0), (1, .int x1), (2, .int x2)] [] M = (am_rI M x0 9 20).bind fun v1 => if v1 = 0 then am_X cal k_Md_perform 108 [(0, .ref x0), (1, .int x1), (2, .int x2)] [] M else (am_rI M x0 9 20).bind fun v2 => if ¬ v2 = 1 then am_X cal k_Md_perform 84 [(0, .ref x0)] [.int 1999, .int x1, .ref x0] M else am_X cal k_Md_perform 85 [(0, .ref x0)] [.int 5, .int 1999, .int x1, .ref x0] M := (am_X_eq cal k_Md_perform 60 _ _ M).trans rfl
theorem e_Md_perform_84 (cal : aY) (x0 : Nat) (s0 : Int32) (s1 : Int32) (s2 : Nat) (M : aM) : am_X cal k_Md_perform 84 [(0, .ref x0)] [.int s0, .int s1, .ref s2] M = am_X cal k_Md_perform 85 [(0, .ref x0)] [.int 3, .int s0, .int s1, .ref s2] M := (am_X_eq cal k_Md_perform 84 _ _ M).trans rfl
theorem e_Md_perform_85 (cal : aY) (x0 : Nat) (s0 : Int32) (s1 : Int32) (s2 : Int32) (s3 : Nat) (M : aM) : am_X cal k_Md_perform 85 [(0, .ref x0)] [.int s0, .int s1, .int s2, .ref s3] M = (am_ln M s3 9).bind fun _ => am_cI (cal 118 [.ref s3, .int s2, .int (s1 + s0)] M) (fun v3 M1 => (am_rI M1 x0 9 20).bind fun v4 => if ¬ v4 = 1 then am_X cal k_Md_perform 103 [] [.ref x0] M1 else am_X cal k_Md_perform 104 [] [.int 5, .ref x0] M1) (fun v2 M1 => some (.inr v2, M1)) := (am_X_eq cal k_Md_perform 85 _ _ M).trans rfl
theorem e_Md_perform_103 (cal : aY) (s0 : Nat) (M : aM) : am_X cal k_Md_perform 103 [] [.ref s0] M = am_X cal k_Md_perform 104 [] [.int 4, .ref s0] M := (am_X_eq cal k_Md_perform 103 _ _ M).trans rfl
theorem e_Md_perform_104 (cal : aY) (s0 : Int32) (s1 : Nat) (M : aM) : am_X cal k_Md_perform 104 [] [.int s0, .ref s1] M = (am_ln M s1 9).bind fun _ => am_cI (cal 91 [.ref s1, .int s0] M) (fun v3 M1 => some (.inl (some (.int v3)), M1)) (fun v2 M1 => some (.inr v2, M1)) := (am_X_eq cal k_Md_perform 104 _ _ M).trans rfl
theorem e_Md_perform_108 (cal : aY) (x0 : Nat) (x1 : Int32) (x2 : Int32) (M : aM) : am_X cal k_Md_perform 108 [(0, .ref x0), (1, .int x1), (2, .int x2)] [] M = (am_rA M x0 9 3).bind fun v1 => (am_ix x1).bind fun v2 => (am_rI M v1 10 v2).bind fun v3 => if ¬ v3 = 1 then am_X cal k_Md_perform 130 [(2, .int x2)] [] M else (am_rA M x0 9 4).bind fun v4 => (am_rA M x0 9 18).bind fun v5 => (am_ix 4).bind fun v6 => (am_rJ M v5 11 v6).bind fun v7 => (am_ix x1).bind fun v8 => (am_wr M v4 11 v8 (.long v7)).bind fun M9 => am_X cal k_Md_perform 130 [(2, .int x2)] [] M9 := (am_X_eq cal k_Md_perform 108 _ _ M).trans rfl
theorem e_Md_perform_130 (cal : aY) (x2 : Int32) (M : aM) : am_X cal k_Md_perform 130 [(2, .int x2)] [] M = some (.inl (some (.int x2)), M) := (am_X_eq cal k_Md_perform 130 _ _ M).trans rfl
theorem y_Md_act (d : Nat) (a0 : Nat) (a1 : Int32) (a2 : Int32) (M : aM) : am_Y (d + 1) 133 [.ref a0, .int a1, .int a2] M = am_X (am_Y d) k_Md_act 0 [(0, .ref a0), (1, .int a1), (2, .int a2)] [] M := rfl
theorem e_Md_act_0 (cal : aY) (x0 : Nat) (x1 : Int32) (x2 : Int32) (M : aM) : am_X cal k_Md_act 0 [(0, .ref x0), (1, .int x1), (2, .int x2)] [] M = (am_rA M x0 9 0).bind fun v1 => (am_ix x2).bind fun v2 => (am_rI M v1 10 v2).bind fun v3 => if ¬ v3 = 42 then am_X cal k_Md_act 46 [(0, .ref x0), (1, .int x1), (2, .int x2), (3, .int v3)] [] M else (am_rA M x0 9 7).bind fun v4 => (am_rA M x0 9 0).bind fun v5 => (am_ix (x2 + 1)).bind fun v6 => (am_rI M v5 10 v6).bind fun v7 => if ¬ v7 = 49 then am_X cal k_Md_act 35 [(0, .ref x0), (2, .int x2)] [.int x1, .ref v4] M else am_X cal k_Md_act 36 [(0, .ref x0), (2, .int x2)] [.int 1, .int x1, .ref v4] M := (am_X_eq cal k_Md_act 0 _ _ M).trans rfl
theorem e_Md_act_35 (cal : aY) (x0 : Nat) (x2 : Int32) (s0 : Int32) (s1 : Nat) (M : aM) : am_X cal k_Md_act 35 [(0, .ref x0), (2, .int x2)] [.int s0, .ref s1] M = am_X cal k_Md_act 36 [(0, .ref x0), (2, .int x2)] [.int 0, .int s0, .ref s1] M := (am_X_eq cal k_Md_act 35 _ _ M).trans rfl
theorem e_Md_act_36 (cal : aY) (x0 : Nat) (x2 : Int32) (s0 : Int32) (s1 : Int32) (s2 : Nat) (M : aM) : am_X cal k_Md_act 36 [(0, .ref x0), (2, .int x2)] [.int s0, .int s1, .ref s2] M = (am_ix s1).bind fun v1 => (am_wr M s2 12 v1 (.int (s0 &&& 1))).bind fun M2 => (am_wr M2 x0 9 19 (.int (x2 + 2))).bind fun M3 => some (.inl (some (.int 1)), M3) := (am_X_eq cal k_Md_act 36 _ _ M).trans rfl
theorem e_Md_act_46 (cal : aY) (x0 : Nat) (x1 : Int32) (x2 : Int32) (x3 : Int32) (M : aM) : am_X cal k_Md_act 46 [(0, .ref x0), (1, .int x1), (2, .int x2), (3, .int x3)] [] M = if ¬ x3 = 64 then am_X cal k_Md_act 152 [(0, .ref x0), (1, .int x1), (2, .int x2), (3, .int x3)] [] M else (am_rA M x0 9 0).bind fun v1 => (am_ix (x2 + 1)).bind fun v2 => (am_rI M v1 10 v2).bind fun v3 => (am_wr M x0 9 19 (.int (x2 + 3))).bind fun M4 => (am_rA M4 x0 9 2).bind fun v5 => (am_ix (v3 - 48)).bind fun v6 => (am_rI M4 v5 12 v6).bind fun v7 => if v7 = 0 then am_X cal k_Md_act 96 [(0, .ref x0), (1, .int x1), (2, .int x2), (4, .int (v3 - 48))] [.ref x0] M4 else (am_ln M4 x0 9).bind fun _ => am_cI (cal 106 [.ref x0] M4) (fun v10 M8 => if 6 ≤ v10 then am_X cal k_Md_act 96 [(0, .ref x0), (1, .int x1), (2, .int x2), (4, .int (v3 - 48))] [.ref x0] M8 else am_X cal k_Md_act 97 [(0, .ref x0), (1, .int x1), (2, .int x2), (4, .int (v3 - 48))] [.int 0, .ref x0] M8) (fun v9 M8 => some (.inr v9, M8)) := (am_X_eq cal k_Md_act 46 _ _ M).trans rfl
theorem e_Md_act_96 (cal : aY) (x0 : Nat) (x1 : Int32) (x2 : Int32) (x4 : Int32) (s0 : Nat) (M : aM) : am_X cal k_Md_act 96 [(0, .ref x0), (1, .int x1), (2, .int x2), (4, .int x4)] [.ref s0] M = am_X cal k_Md_act 97 [(0, .ref x0), (1, .int x1), (2, .int x2), (4, .int x4)] [.int 1, .ref s0] M := (am_X_eq cal k_Md_act 96 _ _ M).trans rfl
theorem e_Md_act_97 (cal : aY) (x0 : Nat) (x1 : Int32) (x2 : Int32) (x4 : Int32) (s0 : Int32) (s1 : Nat) (M : aM) : am_X cal k_Md_act 97 [(0, .ref x0), (1, .int x1), (2, .int x2), (4, .int x4)] [.int s0, .ref s1] M = (am_wr M s1 9 20 (.int s0)).bind fun M1 => (am_rI M1 x0 9 20).bind fun v2 => if v2 = 0 then am_X cal k_Md_act 109 [(0, .ref x0), (1, .int x1), (2, .int x2), (4, .int x4)] [] M1 else some (.inl (some (.int 0)), M1) := (am_X_eq cal k_Md_act 97 _ _ M).trans rfl
theorem e_Md_act_109 (cal : aY) (x0 : Nat) (x1 : Int32) (x2 : Int32) (x4 : Int32) (M : aM) : am_X cal k_Md_act 109 [(0, .ref x0), (1, .int x1), (2, .int x2), (4, .int x4)] [] M = am_cJ (cal 107 [.int 0] M) (fun v3 M1 => (am_ln M1 x0 9).bind fun _ => am_cI (cal 109 [.ref x0, .int x4, .long v3] M1) (fun v6 M4 => (am_ln M4 x0 9).bind fun _ => am_cV (cal 119 [.ref x0, .int x1, .int v6, .int 1] M4) (fun M7 => (am_rA M7 x0 9 12).bind fun v9 => (am_rA M7 x0 9 0).bind fun v10 => (am_ix (x2 + 2)).bind fun v11 => (am_rI M7 v10 10 v11).bind fun v12 => am_cI (cal 100 [.int v12] M7) (fun v15 M13 => am_cJ (cal 112 [.int v6] M13) (fun v18 M16 => (am_ix v15).bind fun v19 => (am_wr M16 v9 11 v19 (.long v18)).bind fun M20 => some (.inl (some (.int 1)), M20)) (fun v17 M16 => some (.inr v17, M16))) (fun v14 M13 => some (.inr v14, M13))) (fun v8 M7 => some (.inr v8, M7))) (fun v5 M4 => some (.inr v5, M4))) (fun v2 M1 => some (.inr v2, M1)) := (am_X_eq cal k_Md_act 109 _ _ M).trans rfl
theorem e_Md_act_152 (cal : aY) (x0 : Nat) (x1 : Int32) (x2 : Int32) (x3 : Int32) (M : aM) : am_X cal k_Md_act 152 [(0, .ref x0), (1, .int x1), (2, .int x2), (3, .int x3)] [] M = (am_ln M x0 9).bind fun _ => am_cJ (cal 128 [.ref x0, .int (x2 + 1), .int x1] M) (fun v3 M1 => (am_rI M1 x0 9 20).bind fun v4 => if v4 = 0 then am_X cal k_Md_act 171 [(0, .ref x0), (1, .int x1), (3, .int x3), (4, .long v3)] [] M1 else some (.inl (some (.int 0)), M1)) (fun v2 M1 => some (.inr v2, M1)) := (am_X_eq cal k_Md_act 152 _ _ M).trans rfl
theorem e_Md_act_171 (cal : aY) (x0 : Nat) (x1 : Int32) (x3 : Int32) (x4 : Int64) (M : aM) : am_X cal k_Md_act 171 [(0, .ref x0), (1, .int x1), (3, .int x3), (4, .long x4)] [] M = am_cI (cal 134 [.long x4] M) (fun v3 M1 => if ¬ x3 = 33 then am_X cal k_Md_act 250 [(0, .ref x0), (1, .int x1), (3, .int x3), (4, .long x4), (6, .int v3)] [] M1 else (am_rI M1 x0 9 19).bind fun v4 => (am_ln M1 x0 9).bind fun _ => am_cJ (cal 128 [.ref x0, .int v4, .int x1] M1) (fun v7 M5 => (am_rI M5 x0 9 20).bind fun v8 => if v8 = 0 then am_X cal k_Md_act 204 [(0, .ref x0), (1, .int x1), (3, .int x3), (4, .long x4), (6, .int v3), (7, .long v7)] [] M5 else some (.inl (some (.int 0)), M5)) (fun v6 M5 => some (.inr v6, M5))) (fun v2 M1 => some (.inr v2, M1)) := (am_X_eq cal k_Md_act 171 _ _ M).trans rfl
theorem e_Md_act_204 (cal : aY) (x0 : Nat) (x1 : Int32) (x3 : Int32) (x4 : Int64) (x6 : Int32) (x7 : Int64) (M : aM) : am_X cal k_Md_act 204 [(0, .ref x0), (1, .int x1), (3, .int x3), (4, .long x4), (6, .int x6), (7, .long x7)] [] M = if x6 < 0 then am_X cal k_Md_act 226 [(0, .ref x0), (1, .int x1), (3, .int x3), (4, .long x4), (6, .int x6), (7, .long x7)] [.ref x0] M else (am_rA M x0 9 11).bind fun v1 => (am_ix ((6 * x1) + x6)).bind fun v2 => (am_rI M v1 10 v2).bind fun v3 => if v3 < 4 then am_X cal k_Md_act 230 [(0, .ref x0), (1, .int x1), (3, .int x3), (4, .long x4), (6, .int x6), (7, .long x7)] [.ref x0] M else am_X cal k_Md_act 226 [(0, .ref x0), (1, .int x1), (3, .int x3), (4, .long x4), (6, .int x6), (7, .long x7)] [.ref x0] M := (am_X_eq cal k_Md_act 204 _ _ M).trans rfl
theorem e_Md_act_226 (cal : aY) (x0 : Nat) (x1 : Int32) (x3 : Int32) (x4 : Int64) (x6 : Int32) (x7 : Int64) (s0 : Nat) (M : aM) : am_X cal k_Md_act 226 [(0, .ref x0), (1, .int x1), (3, .int x3), (4, .long x4), (6, .int x6), (7, .long x7)] [.ref s0] M = am_X cal k_Md_act 231 [(0, .ref x0), (1, .int x1), (3, .int x3), (4, .long x4), (6, .int x6), (7, .long x7)] [.int 1, .ref s0] M := (am_X_eq cal k_Md_act 226 _ _ M).trans rfl
theorem e_Md_act_230 (cal : aY) (x0 : Nat) (x1 : Int32) (x3 : Int32) (x4 : Int64) (x6 : Int32) (x7 : Int64) (s0 : Nat) (M : aM) : am_X cal k_Md_act 230 [(0, .ref x0), (1, .int x1), (3, .int x3), (4, .long x4), (6, .int x6), (7, .long x7)] [.ref s0] M = am_X cal k_Md_act 231 [(0, .ref x0), (1, .int x1), (3, .int x3), (4, .long x4), (6, .int x6), (7, .long x7)] [.int 0, .ref s0] M := (am_X_eq cal k_Md_act 230 _ _ M).trans rfl
theorem e_Md_act_231 (cal : aY) (x0 : Nat) (x1 : Int32) (x3 : Int32) (x4 : Int64) (x6 : Int32) (x7 : Int64) (s0 : Int32) (s1 : Nat) (M : aM) : am_X cal k_Md_act 231 [(0, .ref x0), (1, .int x1), (3, .int x3), (4, .long x4), (6, .int x6), (7, .long x7)] [.int s0, .ref s1] M = (am_wr M s1 9 20 (.int s0)).bind fun M1 => (am_rI M1 x0 9 20).bind fun v2 => if ¬ v2 = 0 then am_X cal k_Md_act 250 [(0, .ref x0), (1, .int x1), (3, .int x3), (4, .long x4), (6, .int x6)] [] M1 else (am_ln M1 x0 9).bind fun _ => am_cV (cal 115 [.ref x0, .int x1, .int x6, .long x7] M1) (fun M3 => am_X cal k_Md_act 250 [(0, .ref x0), (1, .int x1), (3, .int x3), (4, .long x4), (6, .int x6)] [] M3) (fun v4 M3 => some (.inr v4, M3)) := (am_X_eq cal k_Md_act 231 _ _ M).trans rfl
theorem e_Md_act_250 (cal : aY) (x0 : Nat) (x1 : Int32) (x3 : Int32) (x4 : Int64) (x6 : Int32) (M : aM) : am_X cal k_Md_act 250 [(0, .ref x0), (1, .int x1), (3, .int x3), (4, .long x4), (6, .int x6)] [] M = if ¬ x3 = 126 then am_X cal k_Md_act 264 [(0, .ref x0), (1, .int x1), (3, .int x3), (4, .long x4), (6, .int x6)] [] M else (am_rA M x0 9 18).bind fun v1 => (am_ix 4).bind fun v2 => (am_wr M v1 11 v2 (.long x4)).bind fun M3 => am_X cal k_Md_act 264 [(0, .ref x0), (1, .int x1), (3, .int x3), (4, .long x4), (6, .int x6)] [] M3 := (am_X_eq cal k_Md_act 250 _ _ M).trans rfl
theorem e_Md_act_264 (cal : aY) (x0 : Nat) (x1 : Int32) (x3 : Int32) (x4 : Int64) (x6 : Int32) (M : aM) : am_X cal k_Md_act 264 [(0, .ref x0), (1, .int x1), (3, .int x3), (4, .long x4), (6, .int x6)] [] M = if ¬ x3 = 38 then am_X cal k_Md_act 314 [(0, .ref x0), (1, .int x1), (3, .int x3), (4, .long x4)] [] M else if 0 ≤ x6 then am_X cal k_Md_act 280 [(0, .ref x0), (1, .int x1), (3, .int x3), (4, .long x4), (6, .int x6)] [.ref x0] M else am_X cal k_Md_act 281 [(0, .ref x0), (1, .int x1), (3, .int x3), (4, .long x4), (6, .int x6)] [.int 1, .ref x0] M := (am_X_eq cal k_Md_act 264 _ _ M).trans rfl
theorem e_Md_act_280 (cal : aY) (x0 : Nat) (x1 : Int32) (x3 : Int32) (x4 : Int64) (x6 : Int32) (s0 : Nat) (M : aM) : am_X cal k_Md_act 280 [(0, .ref x0), (1, .int x1), (3, .int x3), (4, .long x4), (6, .int x6)] [.ref s0] M = am_X cal k_Md_act 281 [(0, .ref x0), (1, .int x1), (3, .int x3), (4, .long x4), (6, .int x6)] [.int 0, .ref s0] M := (am_X_eq cal k_Md_act 280 _ _ M).trans rfl
theorem e_Md_act_281 (cal : aY) (x0 : Nat) (x1 : Int32) (x3 : Int32) (x4 : Int64) (x6 : Int32) (s0 : Int32) (s1 : Nat) (M : aM) : am_X cal k_Md_act 281 [(0, .ref x0), (1, .int x1), (3, .int x3), (4, .long x4), (6, .int x6)] [.int s0, .ref s1] M = (am_wr M s1 9 20 (.int s0)).bind fun M1 => if x6 < 0 then am_X cal k_Md_act 314 [(0, .ref x0), (1, .int x1), (3, .int x3), (4, .long x4)] [] M1 else if x6 = x1 then am_X cal k_Md_act 314 [(0, .ref x0), (1, .int x1), (3, .int x3), (4, .long x4)] [] M1 else (am_rA M1 x0 9 3).bind fun v2 => (am_ix x6).bind fun v3 => (am_rI M1 v2 10 v3).bind fun v4 => if ¬ v4 = 1 then am_X cal k_Md_act 314 [(0, .ref x0), (1, .int x1), (3, .int x3), (4, .long x4)] [] M1 else (am_ln M1 x0 9).bind fun _ => am_cV (cal 119 [.ref x0, .int x1, .int x6, .int 1] M1) (fun M5 => am_X cal k_Md_act 314 [(0, .ref x0), (1, .int x1), (3, .int x3), (4, .long x4)] [] M5) (fun v6 M5 => some (.inr v6, M5)) := (am_X_eq cal k_Md_act 281 _ _ M).trans rfl
theorem e_Md_act_314 (cal : aY) (x0 : Nat) (x1 : Int32) (x3 : Int32) (x4 : Int64) (M : aM) : am_X cal k_Md_act 314 [(0, .ref x0), (1, .int x1), (3, .int x3), (4, .long x4)] [] M = if ¬ x3 = 36 then am_X cal k_Md_act 332 [(0, .ref x0), (3, .int x3)] [] M else am_cI (cal 117 [.long x4, .int 0] M) (fun v3 M1 => (am_ln M1 x0 9).bind fun _ => am_cI (cal 118 [.ref x0, .int x1, .int v3] M1) (fun v6 M4 => am_X cal k_Md_act 332 [(0, .ref x0), (3, .int x3)] [] M4) (fun v5 M4 => some (.inr v5, M4))) (fun v2 M1 => some (.inr v2, M1)) := (am_X_eq cal k_Md_act 314 _ _ M).trans rfl
theorem e_Md_act_332 (cal : aY) (x0 : Nat) (x3 : Int32) (M : aM) : am_X cal k_Md_act 332 [(0, .ref x0), (3, .int x3)] [] M = (am_rI M x0 9 20).bind fun v1 => if ¬ v1 = 0 then am_X cal k_Md_act 349 [] [] M else if x3 = 36 then am_X cal k_Md_act 349 [] [] M else am_X cal k_Md_act 350 [] [.int 1] M := (am_X_eq cal k_Md_act 332 _ _ M).trans rfl
theorem e_Md_act_349 (cal : aY)  (M : aM) : am_X cal k_Md_act 349 [] [] M = am_X cal k_Md_act 350 [] [.int 0] M := (am_X_eq cal k_Md_act 349 _ _ M).trans rfl
theorem e_Md_act_350 (cal : aY) (s0 : Int32) (M : aM) : am_X cal k_Md_act 350 [] [.int s0] M = bif am_ft 3 (.int s0) then some (.inl (some (.int s0)), M) else none := (am_X_eq cal k_Md_act 350 _ _ M).trans rfl
theorem y_Md_actorOf (d : Nat) (a0 : Int64) (M : aM) : am_Y (d + 1) 134 [.long a0] M = am_X (am_Y d) k_Md_actorOf 0 [(0, .long a0)] [] M := rfl
theorem e_Md_actorOf_0 (cal : aY) (x0 : Int64) (M : aM) : am_X cal k_Md_actorOf 0 [(0, .long x0)] [] M = am_cI (cal 114 [.long x0] M) (fun v3 M1 => if ¬ v3 = 1 then am_X cal k_Md_actorOf 31 [] [] M1 else am_cI (cal 117 [.long x0, .int 0] M1) (fun v6 M4 => if v6 < 2007 then am_X cal k_Md_actorOf 31 [] [] M4 else am_cI (cal 117 [.long x0, .int 0] M4) (fun v9 M7 => am_X cal k_Md_actorOf 32 [] [.int (v9 - 2007)] M7) (fun v8 M7 => some (.inr v8, M7))) (fun v5 M4 => some (.inr v5, M4))) (fun v2 M1 => some (.inr v2, M1)) := (am_X_eq cal k_Md_actorOf 0 _ _ M).trans rfl
theorem e_Md_actorOf_31 (cal : aY)  (M : aM) : am_X cal k_Md_actorOf 31 [] [] M = am_X cal k_Md_actorOf 32 [] [.int (-1)] M := (am_X_eq cal k_Md_actorOf 31 _ _ M).trans rfl
theorem e_Md_actorOf_32 (cal : aY) (s0 : Int32) (M : aM) : am_X cal k_Md_actorOf 32 [] [.int s0] M = some (.inl (some (.int s0)), M) := (am_X_eq cal k_Md_actorOf 32 _ _ M).trans rfl
theorem y_Md_kill (d : Nat) (a0 : Nat) (a1 : Int32) (M : aM) : am_Y (d + 1) 135 [.ref a0, .int a1] M = am_X (am_Y d) k_Md_kill 0 [(0, .ref a0), (1, .int a1)] [] M := rfl
theorem e_Md_kill_0 (cal : aY) (x0 : Nat) (x1 : Int32) (M : aM) : am_X cal k_Md_kill 0 [(0, .ref x0), (1, .int x1)] [] M = am_cI (cal 90 [.int x1, .int 0, .int 5] M) (fun v3 M1 => (am_ln M1 x0 9).bind fun _ => am_cI (cal 92 [.ref x0, .int v3, .int 2] M1) (fun v6 M4 => if ¬ v6 = 0 then am_X cal k_Md_kill 16 [(0, .ref x0), (1, .int x1)] [] M4 else some (.inl (some (.int 0)), M4)) (fun v5 M4 => some (.inr v5, M4))) (fun v2 M1 => some (.inr v2, M1)) := (am_X_eq cal k_Md_kill 0 _ _ M).trans rfl
theorem e_Md_kill_16 (cal : aY) (x0 : Nat) (x1 : Int32) (M : aM) : am_X cal k_Md_kill 16 [(0, .ref x0), (1, .int x1)] [] M = (am_rA M x0 9 3).bind fun v1 => (am_ix x1).bind fun v2 => (am_rI M v1 10 v2).bind fun v3 => if ¬ v3 = 1 then am_X cal k_Md_kill 31 [(0, .ref x0), (1, .int x1)] [.ref x0] M else am_X cal k_Md_kill 32 [(0, .ref x0), (1, .int x1)] [.int 1, .ref x0] M := (am_X_eq cal k_Md_kill 16 _ _ M).trans rfl
theorem e_Md_kill_31 (cal : aY) (x0 : Nat) (x1 : Int32) (s0 : Nat) (M : aM) : am_X cal k_Md_kill 31 [(0, .ref x0), (1, .int x1)] [.ref s0] M = am_X cal k_Md_kill 32 [(0, .ref x0), (1, .int x1)] [.int 0, .ref s0] M := (am_X_eq cal k_Md_kill 31 _ _ M).trans rfl
theorem e_Md_kill_32 (cal : aY) (x0 : Nat) (x1 : Int32) (s0 : Int32) (s1 : Nat) (M : aM) : am_X cal k_Md_kill 32 [(0, .ref x0), (1, .int x1)] [.int s0, .ref s1] M = (am_ln M s1 9).bind fun _ => am_cI (cal 92 [.ref s1, .int s0, .int 1] M) (fun v3 M1 => if v3 = 0 then am_X cal k_Md_kill 50 [] [] M1 else (am_ln M1 x0 9).bind fun _ => am_cI (cal 118 [.ref x0, .int x1, .int 2006] M1) (fun v6 M4 => am_X cal k_Md_kill 51 [] [.int v6] M4) (fun v5 M4 => some (.inr v5, M4))) (fun v2 M1 => some (.inr v2, M1)) := (am_X_eq cal k_Md_kill 32 _ _ M).trans rfl
theorem e_Md_kill_50 (cal : aY)  (M : aM) : am_X cal k_Md_kill 50 [] [] M = am_X cal k_Md_kill 51 [] [.int 0] M := (am_X_eq cal k_Md_kill 50 _ _ M).trans rfl
theorem e_Md_kill_51 (cal : aY) (s0 : Int32) (M : aM) : am_X cal k_Md_kill 51 [] [.int s0] M = some (.inl (some (.int s0)), M) := (am_X_eq cal k_Md_kill 51 _ _ M).trans rfl
theorem y_Md_reap (d : Nat) (a0 : Nat) (a1 : Int32) (M : aM) : am_Y (d + 1) 136 [.ref a0, .int a1] M = am_X (am_Y d) k_Md_reap 0 [(0, .ref a0), (1, .int a1)] [] M := rfl
theorem e_Md_reap_0 (cal : aY) (x0 : Nat) (x1 : Int32) (M : aM) : am_X cal k_Md_reap 0 [(0, .ref x0), (1, .int x1)] [] M = am_cI (cal 90 [.int x1, .int 0, .int 5] M) (fun v3 M1 => (am_ln M1 x0 9).bind fun _ => am_cI (cal 92 [.ref x0, .int v3, .int 2] M1) (fun v6 M4 => if ¬ v6 = 0 then am_X cal k_Md_reap 16 [(0, .ref x0), (1, .int x1)] [] M4 else some (.inl (some (.int 0)), M4)) (fun v5 M4 => some (.inr v5, M4))) (fun v2 M1 => some (.inr v2, M1)) := (am_X_eq cal k_Md_reap 0 _ _ M).trans rfl
theorem e_Md_reap_16 (cal : aY) (x0 : Nat) (x1 : Int32) (M : aM) : am_X cal k_Md_reap 16 [(0, .ref x0), (1, .int x1)] [] M = (am_rA M x0 9 3).bind fun v1 => (am_ix x1).bind fun v2 => (am_rI M v1 10 v2).bind fun v3 => if ¬ v3 = 2 then am_X cal k_Md_reap 31 [(0, .ref x0), (1, .int x1)] [.ref x0] M else am_X cal k_Md_reap 32 [(0, .ref x0), (1, .int x1)] [.int 1, .ref x0] M := (am_X_eq cal k_Md_reap 16 _ _ M).trans rfl
theorem e_Md_reap_31 (cal : aY) (x0 : Nat) (x1 : Int32) (s0 : Nat) (M : aM) : am_X cal k_Md_reap 31 [(0, .ref x0), (1, .int x1)] [.ref s0] M = am_X cal k_Md_reap 32 [(0, .ref x0), (1, .int x1)] [.int 0, .ref s0] M := (am_X_eq cal k_Md_reap 31 _ _ M).trans rfl
theorem e_Md_reap_32 (cal : aY) (x0 : Nat) (x1 : Int32) (s0 : Int32) (s1 : Nat) (M : aM) : am_X cal k_Md_reap 32 [(0, .ref x0), (1, .int x1)] [.int s0, .ref s1] M = (am_ln M s1 9).bind fun _ => am_cI (cal 92 [.ref s1, .int s0, .int 1] M) (fun v3 M1 => if ¬ v3 = 0 then am_X cal k_Md_reap 41 [(0, .ref x0), (1, .int x1)] [] M1 else some (.inl (some (.int 0)), M1)) (fun v2 M1 => some (.inr v2, M1)) := (am_X_eq cal k_Md_reap 32 _ _ M).trans rfl
theorem e_Md_reap_41 (cal : aY) (x0 : Nat) (x1 : Int32) (M : aM) : am_X cal k_Md_reap 41 [(0, .ref x0), (1, .int x1)] [] M = (am_rA M x0 9 3).bind fun v1 => (am_ix x1).bind fun v2 => (am_wr M v1 10 v2 (.int 0)).bind fun M3 => am_X cal k_Md_reap 52 [(0, .ref x0), (2, .int 0), (3, .int 0)] [] M3 := (am_X_eq cal k_Md_reap 41 _ _ M).trans rfl
theorem e_Md_reap_52 (cal : aY) (x0 : Nat) (x2 : Int32) (x3 : Int32) (M : aM) : am_X cal k_Md_reap 52 [(0, .ref x0), (2, .int x2), (3, .int x3)] [] M = if 6 ≤ x3 then am_X cal k_Md_reap 76 [(2, .int x2)] [] M else (am_rA M x0 9 3).bind fun v1 => (am_ix x3).bind fun v2 => (am_rI M v1 10 v2).bind fun v3 => if ¬ v3 = 0 then am_X cal k_Md_reap 70 [(0, .ref x0), (2, .int x2), (3, .int x3)] [] M else am_X cal k_Md_reap 70 [(0, .ref x0), (2, .int (x2 + 1)), (3, .int x3)] [] M := (am_X_eq cal k_Md_reap 52 _ _ M).trans rfl
theorem e_Md_reap_70 (cal : aY) (x0 : Nat) (x2 : Int32) (x3 : Int32) (M : aM) : am_X cal k_Md_reap 70 [(0, .ref x0), (2, .int x2), (3, .int x3)] [] M = am_X cal k_Md_reap 52 [(0, .ref x0), (2, .int x2), (3, .int (x3 + 1))] [] M := (am_X_eq cal k_Md_reap 70 _ _ M).trans rfl
theorem e_Md_reap_76 (cal : aY) (x2 : Int32) (M : aM) : am_X cal k_Md_reap 76 [(2, .int x2)] [] M = some (.inl (some (.int x2)), M) := (am_X_eq cal k_Md_reap 76 _ _ M).trans rfl
theorem y_Md_leaf (d : Nat) (a0 : Nat) (a1 : Int32) (a2 : Int32) (a3 : Int32) (M : aM) : am_Y (d + 1) 137 [.ref a0, .int a1, .int a2, .int a3] M = am_X (am_Y d) k_Md_leaf 0 [(0, .ref a0), (1, .int a1), (2, .int a2), (3, .int a3)] [] M := rfl
theorem e_Md_leaf_0 (cal : aY) (x0 : Nat) (x1 : Int32) (x2 : Int32) (x3 : Int32) (M : aM) : am_X cal k_Md_leaf 0 [(0, .ref x0), (1, .int x1), (2, .int x2), (3, .int x3)] [] M = am_cI (cal 90 [.int x1, .int 0, .int 5] M) (fun v3 M1 => if v3 = 0 then am_X cal k_Md_leaf 33 [(0, .ref x0), (1, .int x1), (2, .int x2), (3, .int x3)] [.ref x0] M1 else am_cI (cal 90 [.int x2, .int 0, .int 6] M1) (fun v6 M4 => if v6 = 0 then am_X cal k_Md_leaf 33 [(0, .ref x0), (1, .int x1), (2, .int x2), (3, .int x3)] [.ref x0] M4 else am_cI (cal 90 [.int x3, .int 0, .int 3] M4) (fun v9 M7 => if v9 = 0 then am_X cal k_Md_leaf 33 [(0, .ref x0), (1, .int x1), (2, .int x2), (3, .int x3)] [.ref x0] M7 else am_X cal k_Md_leaf 34 [(0, .ref x0), (1, .int x1), (2, .int x2), (3, .int x3)] [.int 1, .ref x0] M7) (fun v8 M7 => some (.inr v8, M7))) (fun v5 M4 => some (.inr v5, M4))) (fun v2 M1 => some (.inr v2, M1)) := (am_X_eq cal k_Md_leaf 0 _ _ M).trans rfl
theorem e_Md_leaf_33 (cal : aY) (x0 : Nat) (x1 : Int32) (x2 : Int32) (x3 : Int32) (s0 : Nat) (M : aM) : am_X cal k_Md_leaf 33 [(0, .ref x0), (1, .int x1), (2, .int x2), (3, .int x3)] [.ref s0] M = am_X cal k_Md_leaf 34 [(0, .ref x0), (1, .int x1), (2, .int x2), (3, .int x3)] [.int 0, .ref s0] M := (am_X_eq cal k_Md_leaf 33 _ _ M).trans rfl
theorem e_Md_leaf_34 (cal : aY) (x0 : Nat) (x1 : Int32) (x2 : Int32) (x3 : Int32) (s0 : Int32) (s1 : Nat) (M : aM) : am_X cal k_Md_leaf 34 [(0, .ref x0), (1, .int x1), (2, .int x2), (3, .int x3)] [.int s0, .ref s1] M = (am_ln M s1 9).bind fun _ => am_cI (cal 92 [.ref s1, .int s0, .int 1] M) (fun v3 M1 => if ¬ v3 = 0 then am_X cal k_Md_leaf 43 [(0, .ref x0), (1, .int x1), (2, .int x2), (3, .int x3)] [] M1 else some (.inl (some (.int 0)), M1)) (fun v2 M1 => some (.inr v2, M1)) := (am_X_eq cal k_Md_leaf 34 _ _ M).trans rfl
theorem e_Md_leaf_43 (cal : aY) (x0 : Nat) (x1 : Int32) (x2 : Int32) (x3 : Int32) (M : aM) : am_X cal k_Md_leaf 43 [(0, .ref x0), (1, .int x1), (2, .int x2), (3, .int x3)] [] M = (am_ln M x0 9).bind fun _ => am_cJ (cal 138 [.ref x0, .int x1, .int x2] M) (fun v3 M1 => am_cI (cal 114 [.long v3] M1) (fun v6 M4 => if v6 ≤ x3 then am_X cal k_Md_leaf 72 [] [] M4 else am_cI (cal 117 [.long v3, .int x3] M4) (fun v9 M7 => am_cI (cal 139 [.int v9] M7) (fun v12 M10 => am_X cal k_Md_leaf 75 [] [.int v12] M10) (fun v11 M10 => some (.inr v11, M10))) (fun v8 M7 => some (.inr v8, M7))) (fun v5 M4 => some (.inr v5, M4))) (fun v2 M1 => some (.inr v2, M1)) := (am_X_eq cal k_Md_leaf 43 _ _ M).trans rfl
theorem e_Md_leaf_72 (cal : aY)  (M : aM) : am_X cal k_Md_leaf 72 [] [] M = am_X cal k_Md_leaf 75 [] [.int (-5000)] M := (am_X_eq cal k_Md_leaf 72 _ _ M).trans rfl
theorem e_Md_leaf_75 (cal : aY) (s0 : Int32) (M : aM) : am_X cal k_Md_leaf 75 [] [.int s0] M = some (.inl (some (.int s0)), M) := (am_X_eq cal k_Md_leaf 75 _ _ M).trans rfl
theorem y_Md_term (d : Nat) (a0 : Nat) (a1 : Int32) (a2 : Int32) (M : aM) : am_Y (d + 1) 138 [.ref a0, .int a1, .int a2] M = am_X (am_Y d) k_Md_term 0 [(0, .ref a0), (1, .int a1), (2, .int a2)] [] M := rfl
theorem e_Md_term_0 (cal : aY) (x0 : Nat) (x1 : Int32) (x2 : Int32) (M : aM) : am_X cal k_Md_term 0 [(0, .ref x0), (1, .int x1), (2, .int x2)] [] M = (am_rA M x0 9 3).bind fun v1 => (am_ix x1).bind fun v2 => (am_rI M v1 10 v2).bind fun v3 => if v3 = 1 then am_X cal k_Md_term 12 [(0, .ref x0), (1, .int x1), (2, .int x2)] [] M else some (.inl (some (.long 0)), M) := (am_X_eq cal k_Md_term 0 _ _ M).trans rfl
theorem e_Md_term_12 (cal : aY) (x0 : Nat) (x1 : Int32) (x2 : Int32) (M : aM) : am_X cal k_Md_term 12 [(0, .ref x0), (1, .int x1), (2, .int x2)] [] M = if ¬ x2 = 6 then am_X cal k_Md_term 27 [(0, .ref x0), (1, .int x1), (2, .int x2)] [] M else (am_rA M x0 9 4).bind fun v1 => (am_ix x1).bind fun v2 => (am_rJ M v1 11 v2).bind fun v3 => am_X cal k_Md_term 52 [] [.long v3] M := (am_X_eq cal k_Md_term 12 _ _ M).trans rfl
theorem e_Md_term_27 (cal : aY) (x0 : Nat) (x1 : Int32) (x2 : Int32) (M : aM) : am_X cal k_Md_term 27 [(0, .ref x0), (1, .int x1), (2, .int x2)] [] M = (am_rA M x0 9 6).bind fun v1 => (am_ix x1).bind fun v2 => (am_rI M v1 10 v2).bind fun v3 => if v3 ≤ x2 then am_X cal k_Md_term 51 [] [] M else (am_rA M x0 9 5).bind fun v4 => (am_ix ((6 * x1) + x2)).bind fun v5 => (am_rJ M v4 11 v5).bind fun v6 => am_X cal k_Md_term 52 [] [.long v6] M := (am_X_eq cal k_Md_term 27 _ _ M).trans rfl
theorem e_Md_term_51 (cal : aY)  (M : aM) : am_X cal k_Md_term 51 [] [] M = am_X cal k_Md_term 52 [] [.long 0] M := (am_X_eq cal k_Md_term 51 _ _ M).trans rfl
theorem e_Md_term_52 (cal : aY) (s0 : Int64) (M : aM) : am_X cal k_Md_term 52 [] [.long s0] M = some (.inl (some (.long s0)), M) := (am_X_eq cal k_Md_term 52 _ _ M).trans rfl
theorem y_Md_told (d : Nat) (a0 : Int32) (M : aM) : am_Y (d + 1) 139 [.int a0] M = am_X (am_Y d) k_Md_told 0 [(0, .int a0)] [] M := rfl
theorem e_Md_told_0 (cal : aY) (x0 : Int32) (M : aM) : am_X cal k_Md_told 0 [(0, .int x0)] [] M = if 1999 ≤ x0 then am_X cal k_Md_told 15 [(0, .int x0)] [] M else am_X cal k_Md_told 33 [] [.int (x0 - 999)] M := (am_X_eq cal k_Md_told 0 _ _ M).trans rfl
theorem e_Md_told_15 (cal : aY) (x0 : Int32) (M : aM) : am_X cal k_Md_told 15 [(0, .int x0)] [] M = if 2007 ≤ x0 then am_X cal k_Md_told 28 [(0, .int x0)] [] M else am_X cal k_Md_told 33 [] [.int (x0 + 1)] M := (am_X_eq cal k_Md_told 15 _ _ M).trans rfl
theorem e_Md_told_28 (cal : aY) (x0 : Int32) (M : aM) : am_X cal k_Md_told 28 [(0, .int x0)] [] M = am_X cal k_Md_told 33 [] [.int (x0 + 993)] M := (am_X_eq cal k_Md_told 28 _ _ M).trans rfl
theorem e_Md_told_33 (cal : aY) (s0 : Int32) (M : aM) : am_X cal k_Md_told 33 [] [.int s0] M = some (.inl (some (.int s0)), M) := (am_X_eq cal k_Md_told 33 _ _ M).trans rfl
theorem y_Md_shape (d : Nat) (a0 : Nat) (a1 : Int32) (a2 : Int32) (M : aM) : am_Y (d + 1) 140 [.ref a0, .int a1, .int a2] M = am_X (am_Y d) k_Md_shape 0 [(0, .ref a0), (1, .int a1), (2, .int a2)] [] M := rfl
theorem e_Md_shape_0 (cal : aY) (x0 : Nat) (x1 : Int32) (x2 : Int32) (M : aM) : am_X cal k_Md_shape 0 [(0, .ref x0), (1, .int x1), (2, .int x2)] [] M = am_cI (cal 90 [.int x1, .int 0, .int 5] M) (fun v3 M1 => if v3 = 0 then am_X cal k_Md_shape 24 [(0, .ref x0), (1, .int x1), (2, .int x2)] [.ref x0] M1 else am_cI (cal 90 [.int x2, .int 0, .int 6] M1) (fun v6 M4 => if v6 = 0 then am_X cal k_Md_shape 24 [(0, .ref x0), (1, .int x1), (2, .int x2)] [.ref x0] M4 else am_X cal k_Md_shape 25 [(0, .ref x0), (1, .int x1), (2, .int x2)] [.int 1, .ref x0] M4) (fun v5 M4 => some (.inr v5, M4))) (fun v2 M1 => some (.inr v2, M1)) := (am_X_eq cal k_Md_shape 0 _ _ M).trans rfl
theorem e_Md_shape_24 (cal : aY) (x0 : Nat) (x1 : Int32) (x2 : Int32) (s0 : Nat) (M : aM) : am_X cal k_Md_shape 24 [(0, .ref x0), (1, .int x1), (2, .int x2)] [.ref s0] M = am_X cal k_Md_shape 25 [(0, .ref x0), (1, .int x1), (2, .int x2)] [.int 0, .ref s0] M := (am_X_eq cal k_Md_shape 24 _ _ M).trans rfl
theorem e_Md_shape_25 (cal : aY) (x0 : Nat) (x1 : Int32) (x2 : Int32) (s0 : Int32) (s1 : Nat) (M : aM) : am_X cal k_Md_shape 25 [(0, .ref x0), (1, .int x1), (2, .int x2)] [.int s0, .ref s1] M = (am_ln M s1 9).bind fun _ => am_cI (cal 92 [.ref s1, .int s0, .int 1] M) (fun v3 M1 => if ¬ v3 = 0 then am_X cal k_Md_shape 34 [(0, .ref x0), (1, .int x1), (2, .int x2)] [] M1 else some (.inl (some (.int 0)), M1)) (fun v2 M1 => some (.inr v2, M1)) := (am_X_eq cal k_Md_shape 25 _ _ M).trans rfl
theorem e_Md_shape_34 (cal : aY) (x0 : Nat) (x1 : Int32) (x2 : Int32) (M : aM) : am_X cal k_Md_shape 34 [(0, .ref x0), (1, .int x1), (2, .int x2)] [] M = (am_ln M x0 9).bind fun _ => am_cJ (cal 138 [.ref x0, .int x1, .int x2] M) (fun v3 M1 => if ¬ lg_cmp v3 0 = 0 then am_X cal k_Md_shape 51 [(3, .long v3)] [] M1 else some (.inl (some (.int (-5000))), M1)) (fun v2 M1 => some (.inr v2, M1)) := (am_X_eq cal k_Md_shape 34 _ _ M).trans rfl
theorem e_Md_shape_51 (cal : aY) (x3 : Int64) (M : aM) : am_X cal k_Md_shape 51 [(3, .long x3)] [] M = am_cI (cal 114 [.long x3] M) (fun v3 M1 => am_X cal k_Md_shape 67 [(3, .long x3), (5, .int 0), (6, .int ((2 * v3) - 1)), (7, .int 0)] [] M1) (fun v2 M1 => some (.inr v2, M1)) := (am_X_eq cal k_Md_shape 51 _ _ M).trans rfl
theorem e_Md_shape_67 (cal : aY) (x3 : Int64) (x5 : Int32) (x6 : Int32) (x7 : Int32) (M : aM) : am_X cal k_Md_shape 67 [(3, .long x3), (5, .int x5), (6, .int x6), (7, .int x7)] [] M = if x6 ≤ x7 then am_X cal k_Md_shape 145 [(5, .int x5)] [] M else am_cI (cal 123 [.long x3, .int x7] M) (fun v3 M1 => if ¬ v3 = 0 then am_X cal k_Md_shape 139 [(3, .long x3), (5, .int x5), (6, .int x6), (7, .int x7)] [] M1 else am_X cal k_Md_shape 89 [(3, .long x3), (5, .int x5), (6, .int x6), (7, .int x7), (8, .int 0), (9, .int 0)] [] M1) (fun v2 M1 => some (.inr v2, M1)) := (am_X_eq cal k_Md_shape 67 _ _ M).trans rfl
theorem e_Md_shape_89 (cal : aY) (x3 : Int64) (x5 : Int32) (x6 : Int32) (x7 : Int32) (x8 : Int32) (x9 : Int32) (M : aM) : am_X cal k_Md_shape 89 [(3, .long x3), (5, .int x5), (6, .int x6), (7, .int x7), (8, .int x8), (9, .int x9)] [] M = if x7 ≤ x9 then am_X cal k_Md_shape 129 [(3, .long x3), (5, .int x5), (6, .int x6), (7, .int x7), (8, .int x8)] [] M else am_cI (cal 123 [.long x3, .int x9] M) (fun v3 M1 => if ¬ v3 = 1 then am_X cal k_Md_shape 123 [(3, .long x3), (5, .int x5), (6, .int x6), (7, .int x7), (8, .int x8), (9, .int x9)] [] M1 else am_cI (cal 125 [.long x3, .int x9] M1) (fun v6 M4 => if x9 + v6 ≤ x7 then am_X cal k_Md_shape 123 [(3, .long x3), (5, .int x5), (6, .int x6), (7, .int x7), (8, .int x8), (9, .int x9)] [] M4 else am_X cal k_Md_shape 123 [(3, .long x3), (5, .int x5), (6, .int x6), (7, .int x7), (8, .int (x8 + 1)), (9, .int x9)] [] M4) (fun v5 M4 => some (.inr v5, M4))) (fun v2 M1 => some (.inr v2, M1)) := (am_X_eq cal k_Md_shape 89 _ _ M).trans rfl
theorem e_Md_shape_123 (cal : aY) (x3 : Int64) (x5 : Int32) (x6 : Int32) (x7 : Int32) (x8 : Int32) (x9 : Int32) (M : aM) : am_X cal k_Md_shape 123 [(3, .long x3), (5, .int x5), (6, .int x6), (7, .int x7), (8, .int x8), (9, .int x9)] [] M = am_X cal k_Md_shape 89 [(3, .long x3), (5, .int x5), (6, .int x6), (7, .int x7), (8, .int x8), (9, .int (x9 + 1))] [] M := (am_X_eq cal k_Md_shape 123 _ _ M).trans rfl
theorem e_Md_shape_129 (cal : aY) (x3 : Int64) (x5 : Int32) (x6 : Int32) (x7 : Int32) (x8 : Int32) (M : aM) : am_X cal k_Md_shape 129 [(3, .long x3), (5, .int x5), (6, .int x6), (7, .int x7), (8, .int x8)] [] M = am_X cal k_Md_shape 139 [(3, .long x3), (5, .int ((10 * x5) + x8)), (6, .int x6), (7, .int x7)] [] M := (am_X_eq cal k_Md_shape 129 _ _ M).trans rfl
theorem e_Md_shape_139 (cal : aY) (x3 : Int64) (x5 : Int32) (x6 : Int32) (x7 : Int32) (M : aM) : am_X cal k_Md_shape 139 [(3, .long x3), (5, .int x5), (6, .int x6), (7, .int x7)] [] M = am_X cal k_Md_shape 67 [(3, .long x3), (5, .int x5), (6, .int x6), (7, .int (x7 + 1))] [] M := (am_X_eq cal k_Md_shape 139 _ _ M).trans rfl
theorem e_Md_shape_145 (cal : aY) (x5 : Int32) (M : aM) : am_X cal k_Md_shape 145 [(5, .int x5)] [] M = some (.inl (some (.int x5)), M) := (am_X_eq cal k_Md_shape 145 _ _ M).trans rfl
theorem y_Md_about (d : Nat) (a0 : Nat) (a1 : Int32) (a2 : Int32) (M : aM) : am_Y (d + 1) 141 [.ref a0, .int a1, .int a2] M = am_X (am_Y d) k_Md_about 0 [(0, .ref a0), (1, .int a1), (2, .int a2)] [] M := rfl
theorem e_Md_about_0 (cal : aY) (x0 : Nat) (x1 : Int32) (x2 : Int32) (M : aM) : am_X cal k_Md_about 0 [(0, .ref x0), (1, .int x1), (2, .int x2)] [] M = am_cI (cal 90 [.int x1, .int 0, .int 5] M) (fun v3 M1 => if v3 = 0 then am_X cal k_Md_about 24 [(0, .ref x0), (1, .int x1), (2, .int x2)] [.ref x0] M1 else am_cI (cal 90 [.int x2, .int 0, .int 12] M1) (fun v6 M4 => if v6 = 0 then am_X cal k_Md_about 24 [(0, .ref x0), (1, .int x1), (2, .int x2)] [.ref x0] M4 else am_X cal k_Md_about 25 [(0, .ref x0), (1, .int x1), (2, .int x2)] [.int 1, .ref x0] M4) (fun v5 M4 => some (.inr v5, M4))) (fun v2 M1 => some (.inr v2, M1)) := (am_X_eq cal k_Md_about 0 _ _ M).trans rfl
theorem e_Md_about_24 (cal : aY) (x0 : Nat) (x1 : Int32) (x2 : Int32) (s0 : Nat) (M : aM) : am_X cal k_Md_about 24 [(0, .ref x0), (1, .int x1), (2, .int x2)] [.ref s0] M = am_X cal k_Md_about 25 [(0, .ref x0), (1, .int x1), (2, .int x2)] [.int 0, .ref s0] M := (am_X_eq cal k_Md_about 24 _ _ M).trans rfl
theorem e_Md_about_25 (cal : aY) (x0 : Nat) (x1 : Int32) (x2 : Int32) (s0 : Int32) (s1 : Nat) (M : aM) : am_X cal k_Md_about 25 [(0, .ref x0), (1, .int x1), (2, .int x2)] [.int s0, .ref s1] M = (am_ln M s1 9).bind fun _ => am_cI (cal 92 [.ref s1, .int s0, .int 1] M) (fun v3 M1 => if ¬ v3 = 0 then am_X cal k_Md_about 34 [(0, .ref x0), (1, .int x1), (2, .int x2)] [] M1 else some (.inl (some (.int 0)), M1)) (fun v2 M1 => some (.inr v2, M1)) := (am_X_eq cal k_Md_about 25 _ _ M).trans rfl
theorem e_Md_about_34 (cal : aY) (x0 : Nat) (x1 : Int32) (x2 : Int32) (M : aM) : am_X cal k_Md_about 34 [(0, .ref x0), (1, .int x1), (2, .int x2)] [] M = (am_rA M x0 9 3).bind fun v1 => (am_ix x1).bind fun v2 => (am_rI M v1 10 v2).bind fun v3 => if ¬ v3 = 1 then am_X cal k_Md_about 48 [(0, .ref x0), (1, .int x1), (2, .int x2)] [] M else am_X cal k_Md_about 49 [(0, .ref x0), (1, .int x1), (2, .int x2)] [.int 1] M := (am_X_eq cal k_Md_about 34 _ _ M).trans rfl
theorem e_Md_about_48 (cal : aY) (x0 : Nat) (x1 : Int32) (x2 : Int32) (M : aM) : am_X cal k_Md_about 48 [(0, .ref x0), (1, .int x1), (2, .int x2)] [] M = am_X cal k_Md_about 49 [(0, .ref x0), (1, .int x1), (2, .int x2)] [.int 0] M := (am_X_eq cal k_Md_about 48 _ _ M).trans rfl
theorem e_Md_about_49 (cal : aY) (x0 : Nat) (x1 : Int32) (x2 : Int32) (s0 : Int32) (M : aM) : am_X cal k_Md_about 49 [(0, .ref x0), (1, .int x1), (2, .int x2)] [.int s0] M = if ¬ x2 = 0 then am_X cal k_Md_about 61 [(0, .ref x0), (1, .int x1), (2, .int x2), (3, .int s0)] [] M else (am_rA M x0 9 3).bind fun v1 => (am_ix x1).bind fun v2 => (am_rI M v1 10 v2).bind fun v3 => some (.inl (some (.int v3)), M) := (am_X_eq cal k_Md_about 49 _ _ M).trans rfl
theorem e_Md_about_61 (cal : aY) (x0 : Nat) (x1 : Int32) (x2 : Int32) (x3 : Int32) (M : aM) : am_X cal k_Md_about 61 [(0, .ref x0), (1, .int x1), (2, .int x2), (3, .int x3)] [] M = if ¬ x2 = 1 then am_X cal k_Md_about 81 [(0, .ref x0), (1, .int x1), (2, .int x2), (3, .int x3)] [] M else if x3 = 0 then am_X cal k_Md_about 79 [] [] M else (am_rA M x0 9 6).bind fun v1 => (am_ix x1).bind fun v2 => (am_rI M v1 10 v2).bind fun v3 => am_X cal k_Md_about 80 [] [.int v3] M := (am_X_eq cal k_Md_about 61 _ _ M).trans rfl
theorem e_Md_about_79 (cal : aY)  (M : aM) : am_X cal k_Md_about 79 [] [] M = am_X cal k_Md_about 80 [] [.int 0] M := (am_X_eq cal k_Md_about 79 _ _ M).trans rfl
theorem e_Md_about_80 (cal : aY) (s0 : Int32) (M : aM) : am_X cal k_Md_about 80 [] [.int s0] M = some (.inl (some (.int s0)), M) := (am_X_eq cal k_Md_about 80 _ _ M).trans rfl
theorem e_Md_about_81 (cal : aY) (x0 : Nat) (x1 : Int32) (x2 : Int32) (x3 : Int32) (M : aM) : am_X cal k_Md_about 81 [(0, .ref x0), (1, .int x1), (2, .int x2), (3, .int x3)] [] M = if ¬ x2 = 2 then am_X cal k_Md_about 105 [(0, .ref x0), (1, .int x1), (2, .int x2), (3, .int x3)] [] M else if x3 = 0 then am_X cal k_Md_about 103 [] [] M else (am_rA M x0 9 7).bind fun v1 => (am_ix x1).bind fun v2 => (am_rI M v1 12 v2).bind fun v3 => if v3 = 0 then am_X cal k_Md_about 103 [] [] M else am_X cal k_Md_about 104 [] [.int 1] M := (am_X_eq cal k_Md_about 81 _ _ M).trans rfl
theorem e_Md_about_103 (cal : aY)  (M : aM) : am_X cal k_Md_about 103 [] [] M = am_X cal k_Md_about 104 [] [.int 0] M := (am_X_eq cal k_Md_about 103 _ _ M).trans rfl
theorem e_Md_about_104 (cal : aY) (s0 : Int32) (M : aM) : am_X cal k_Md_about 104 [] [.int s0] M = some (.inl (some (.int s0)), M) := (am_X_eq cal k_Md_about 104 _ _ M).trans rfl
theorem e_Md_about_105 (cal : aY) (x0 : Nat) (x1 : Int32) (x2 : Int32) (x3 : Int32) (M : aM) : am_X cal k_Md_about 105 [(0, .ref x0), (1, .int x1), (2, .int x2), (3, .int x3)] [] M = if ¬ x2 = 3 then am_X cal k_Md_about 136 [(0, .ref x0), (1, .int x1), (2, .int x2), (3, .int x3)] [] M else (am_rA M x0 9 3).bind fun v1 => (am_ix x1).bind fun v2 => (am_rI M v1 10 v2).bind fun v3 => if ¬ v3 = 2 then am_X cal k_Md_about 132 [] [] M else (am_rA M x0 9 8).bind fun v4 => (am_ix x1).bind fun v5 => (am_rI M v4 10 v5).bind fun v6 => am_cI (cal 139 [.int v6] M) (fun v9 M7 => am_X cal k_Md_about 135 [] [.int v9] M7) (fun v8 M7 => some (.inr v8, M7)) := (am_X_eq cal k_Md_about 105 _ _ M).trans rfl
theorem e_Md_about_132 (cal : aY)  (M : aM) : am_X cal k_Md_about 132 [] [] M = am_X cal k_Md_about 135 [] [.int (-5000)] M := (am_X_eq cal k_Md_about 132 _ _ M).trans rfl
theorem e_Md_about_135 (cal : aY) (s0 : Int32) (M : aM) : am_X cal k_Md_about 135 [] [.int s0] M = some (.inl (some (.int s0)), M) := (am_X_eq cal k_Md_about 135 _ _ M).trans rfl
theorem e_Md_about_136 (cal : aY) (x0 : Nat) (x1 : Int32) (x2 : Int32) (x3 : Int32) (M : aM) : am_X cal k_Md_about 136 [(0, .ref x0), (1, .int x1), (2, .int x2), (3, .int x3)] [] M = if ¬ x2 = 5 then am_X cal k_Md_about 159 [(0, .ref x0), (1, .int x1), (2, .int x2)] [] M else if x3 = 0 then am_X cal k_Md_about 155 [] [] M else (am_ln M x0 9).bind fun _ => am_cI (cal 103 [.ref x0, .int (3 + x1)] M) (fun v3 M1 => am_X cal k_Md_about 158 [] [.int v3] M1) (fun v2 M1 => some (.inr v2, M1)) := (am_X_eq cal k_Md_about 136 _ _ M).trans rfl
theorem e_Md_about_155 (cal : aY)  (M : aM) : am_X cal k_Md_about 155 [] [] M = am_X cal k_Md_about 158 [] [.int (-5000)] M := (am_X_eq cal k_Md_about 155 _ _ M).trans rfl
theorem e_Md_about_158 (cal : aY) (s0 : Int32) (M : aM) : am_X cal k_Md_about 158 [] [.int s0] M = some (.inl (some (.int s0)), M) := (am_X_eq cal k_Md_about 158 _ _ M).trans rfl
theorem e_Md_about_159 (cal : aY) (x0 : Nat) (x1 : Int32) (x2 : Int32) (M : aM) : am_X cal k_Md_about 159 [(0, .ref x0), (1, .int x1), (2, .int x2)] [] M = if x2 ≤ 5 then am_X cal k_Md_about 179 [(0, .ref x0), (1, .int x1)] [] M else (am_rA M x0 9 11).bind fun v1 => (am_ix ((6 * (x2 - 6)) + x1)).bind fun v2 => (am_rI M v1 10 v2).bind fun v3 => some (.inl (some (.int v3)), M) := (am_X_eq cal k_Md_about 159 _ _ M).trans rfl
theorem e_Md_about_179 (cal : aY) (x0 : Nat) (x1 : Int32) (M : aM) : am_X cal k_Md_about 179 [(0, .ref x0), (1, .int x1)] [] M = am_X cal k_Md_about 185 [(0, .ref x0), (1, .int x1), (4, .int 0), (5, .int 0)] [] M := (am_X_eq cal k_Md_about 179 _ _ M).trans rfl
theorem e_Md_about_185 (cal : aY) (x0 : Nat) (x1 : Int32) (x4 : Int32) (x5 : Int32) (M : aM) : am_X cal k_Md_about 185 [(0, .ref x0), (1, .int x1), (4, .int x4), (5, .int x5)] [] M = if 6 ≤ x5 then am_X cal k_Md_about 222 [(4, .int x4)] [] M else (am_rA M x0 9 9).bind fun v1 => (am_ix ((6 * x1) + x5)).bind fun v2 => (am_rI M v1 12 v2).bind fun v3 => if v3 = 0 then am_X cal k_Md_about 216 [(0, .ref x0), (1, .int x1), (4, .int x4), (5, .int x5)] [] M else am_X cal k_Md_about 216 [(0, .ref x0), (1, .int x1), (4, .int (x4 ||| (1 <<< (x5 &&& 31)))), (5, .int x5)] [] M := (am_X_eq cal k_Md_about 185 _ _ M).trans rfl
theorem e_Md_about_216 (cal : aY) (x0 : Nat) (x1 : Int32) (x4 : Int32) (x5 : Int32) (M : aM) : am_X cal k_Md_about 216 [(0, .ref x0), (1, .int x1), (4, .int x4), (5, .int x5)] [] M = am_X cal k_Md_about 185 [(0, .ref x0), (1, .int x1), (4, .int x4), (5, .int (x5 + 1))] [] M := (am_X_eq cal k_Md_about 216 _ _ M).trans rfl
theorem e_Md_about_222 (cal : aY) (x4 : Int32) (M : aM) : am_X cal k_Md_about 222 [(4, .int x4)] [] M = some (.inl (some (.int x4)), M) := (am_X_eq cal k_Md_about 222 _ _ M).trans rfl
end
section
theorem y_Lw_type (d : Nat) (a0 : Nat) (a1 : Int32) (a2 : Int64) (a3 : Nat) (M : aM) : am_Y (d + 1) 142 [.ref a0, .int a1, .long a2, .ref a3] M = am_X (am_Y d) k_Lw_type 0 [(0, .ref a0), (1, .int a1), (2, .long a2), (4, .ref a3)] [] M := rfl
theorem e_Lw_type_0 (cal : aY) (x0 : Nat) (x1 : Int32) (x2 : Int64) (x4 : Nat) (M : aM) : am_X cal k_Lw_type 0 [(0, .ref x0), (1, .int x1), (2, .long x2), (4, .ref x4)] [] M = (am_ln M x0 8).bind fun _ => am_cI (cal 67 [.ref x0, .int x1, .long x2] M) (fun v3 M1 => (am_ix 0).bind fun v4 => (am_wr M1 x4 11 v4 (.long (Int32.toInt64 v3))).bind fun M5 => am_X cal k_Lw_type 22 [] [] M5) (fun v2 M1 => am_ct (am_X cal k_Lw_type) some (k_Lw_type.2.1.getD 1 []) v2 [(0, .ref x0), (1, .int x1), (2, .long x2), (4, .ref x4)] M1) := (am_X_eq cal k_Lw_type 0 _ _ M).trans rfl
theorem e_Lw_type_16 (cal : aY)  (M : aM) : am_X cal k_Lw_type 16 [] [] M = some (.inl (some (.int 1)), M) := (am_X_eq cal k_Lw_type 16 _ _ M).trans rfl
theorem e_Lw_type_20 (cal : aY)  (M : aM) : am_X cal k_Lw_type 20 [] [] M = some (.inl (some (.int 2)), M) := (am_X_eq cal k_Lw_type 20 _ _ M).trans rfl
theorem e_Lw_type_22 (cal : aY)  (M : aM) : am_X cal k_Lw_type 22 [] [] M = some (.inl (some (.int 0)), M) := (am_X_eq cal k_Lw_type 22 _ _ M).trans rfl
theorem y_Lw_clear (d : Nat) (a0 : Nat) (a1 : Int32) (a2 : Nat) (M : aM) : am_Y (d + 1) 143 [.ref a0, .int a1, .ref a2] M = am_X (am_Y d) k_Lw_clear 0 [(0, .ref a0), (1, .int a1), (2, .ref a2)] [] M := rfl
theorem e_Lw_clear_0 (cal : aY) (x0 : Nat) (x1 : Int32) (x2 : Nat) (M : aM) : am_X cal k_Lw_clear 0 [(0, .ref x0), (1, .int x1), (2, .ref x2)] [] M = (am_ln M x0 8).bind fun _ => am_cI (cal 71 [.ref x0, .int x1] M) (fun v3 M1 => (am_ix 0).bind fun v4 => (am_wr M1 x2 11 v4 (.long (Int32.toInt64 v3))).bind fun M5 => am_X cal k_Lw_clear 15 [] [] M5) (fun v2 M1 => am_ct (am_X cal k_Lw_clear) some (k_Lw_clear.2.1.getD 1 []) v2 [(0, .ref x0), (1, .int x1), (2, .ref x2)] M1) := (am_X_eq cal k_Lw_clear 0 _ _ M).trans rfl
theorem e_Lw_clear_13 (cal : aY)  (M : aM) : am_X cal k_Lw_clear 13 [] [] M = some (.inl (some (.int 1)), M) := (am_X_eq cal k_Lw_clear 13 _ _ M).trans rfl
theorem e_Lw_clear_15 (cal : aY)  (M : aM) : am_X cal k_Lw_clear 15 [] [] M = some (.inl (some (.int 0)), M) := (am_X_eq cal k_Lw_clear 15 _ _ M).trans rfl
theorem y_Lw_check (d : Nat) (a0 : Nat) (a1 : Int32) (a2 : Nat) (M : aM) : am_Y (d + 1) 144 [.ref a0, .int a1, .ref a2] M = am_X (am_Y d) k_Lw_check 0 [(0, .ref a0), (1, .int a1), (2, .ref a2)] [] M := rfl
theorem e_Lw_check_0 (cal : aY) (x0 : Nat) (x1 : Int32) (x2 : Nat) (M : aM) : am_X cal k_Lw_check 0 [(0, .ref x0), (1, .int x1), (2, .ref x2)] [] M = (am_ln M x0 8).bind fun _ => am_cI (cal 72 [.ref x0, .int x1] M) (fun v3 M1 => (am_ix 0).bind fun v4 => (am_wr M1 x2 11 v4 (.long (Int32.toInt64 v3))).bind fun M5 => am_X cal k_Lw_check 18 [] [] M5) (fun v2 M1 => am_ct (am_X cal k_Lw_check) some (k_Lw_check.2.1.getD 1 []) v2 [(0, .ref x0), (1, .int x1), (2, .ref x2)] M1) := (am_X_eq cal k_Lw_check 0 _ _ M).trans rfl
theorem e_Lw_check_13 (cal : aY)  (M : aM) : am_X cal k_Lw_check 13 [] [] M = some (.inl (some (.int 1)), M) := (am_X_eq cal k_Lw_check 13 _ _ M).trans rfl
theorem e_Lw_check_16 (cal : aY)  (M : aM) : am_X cal k_Lw_check 16 [] [] M = some (.inl (some (.int 2)), M) := (am_X_eq cal k_Lw_check 16 _ _ M).trans rfl
theorem e_Lw_check_18 (cal : aY)  (M : aM) : am_X cal k_Lw_check 18 [] [] M = some (.inl (some (.int 0)), M) := (am_X_eq cal k_Lw_check 18 _ _ M).trans rfl
theorem y_Lw_fault (d : Nat) (a0 : Nat) (a1 : Int32) (a2 : Nat) (M : aM) : am_Y (d + 1) 145 [.ref a0, .int a1, .ref a2] M = am_X (am_Y d) k_Lw_fault 0 [(0, .ref a0), (1, .int a1), (2, .ref a2)] [] M := rfl
theorem e_Lw_fault_0 (cal : aY) (x0 : Nat) (x1 : Int32) (x2 : Nat) (M : aM) : am_X cal k_Lw_fault 0 [(0, .ref x0), (1, .int x1), (2, .ref x2)] [] M = (am_ln M x0 8).bind fun _ => am_cI (cal 73 [.ref x0, .int x1] M) (fun v3 M1 => (am_ix 0).bind fun v4 => (am_wr M1 x2 11 v4 (.long (Int32.toInt64 v3))).bind fun M5 => am_X cal k_Lw_fault 15 [] [] M5) (fun v2 M1 => am_ct (am_X cal k_Lw_fault) some (k_Lw_fault.2.1.getD 1 []) v2 [(0, .ref x0), (1, .int x1), (2, .ref x2)] M1) := (am_X_eq cal k_Lw_fault 0 _ _ M).trans rfl
theorem e_Lw_fault_13 (cal : aY)  (M : aM) : am_X cal k_Lw_fault 13 [] [] M = some (.inl (some (.int 1)), M) := (am_X_eq cal k_Lw_fault 13 _ _ M).trans rfl
theorem e_Lw_fault_15 (cal : aY)  (M : aM) : am_X cal k_Lw_fault 15 [] [] M = some (.inl (some (.int 0)), M) := (am_X_eq cal k_Lw_fault 15 _ _ M).trans rfl
theorem y_Lw_spawn (d : Nat) (a0 : Nat) (a1 : Int32) (a2 : Int32) (a3 : Nat) (M : aM) : am_Y (d + 1) 146 [.ref a0, .int a1, .int a2, .ref a3] M = am_X (am_Y d) k_Lw_spawn 0 [(0, .ref a0), (1, .int a1), (2, .int a2), (3, .ref a3)] [] M := rfl
theorem e_Lw_spawn_0 (cal : aY) (x0 : Nat) (x1 : Int32) (x2 : Int32) (x3 : Nat) (M : aM) : am_X cal k_Lw_spawn 0 [(0, .ref x0), (1, .int x1), (2, .int x2), (3, .ref x3)] [] M = (am_ln M x0 8).bind fun _ => am_cI (cal 74 [.ref x0, .int x1, .int x2] M) (fun v3 M1 => (am_ix 0).bind fun v4 => (am_wr M1 x3 11 v4 (.long (Int32.toInt64 v3))).bind fun M5 => am_X cal k_Lw_spawn 21 [] [] M5) (fun v2 M1 => am_ct (am_X cal k_Lw_spawn) some (k_Lw_spawn.2.1.getD 1 []) v2 [(0, .ref x0), (1, .int x1), (2, .int x2), (3, .ref x3)] M1) := (am_X_eq cal k_Lw_spawn 0 _ _ M).trans rfl
theorem e_Lw_spawn_15 (cal : aY)  (M : aM) : am_X cal k_Lw_spawn 15 [] [] M = some (.inl (some (.int 1)), M) := (am_X_eq cal k_Lw_spawn 15 _ _ M).trans rfl
theorem e_Lw_spawn_19 (cal : aY)  (M : aM) : am_X cal k_Lw_spawn 19 [] [] M = some (.inl (some (.int 2)), M) := (am_X_eq cal k_Lw_spawn 19 _ _ M).trans rfl
theorem e_Lw_spawn_21 (cal : aY)  (M : aM) : am_X cal k_Lw_spawn 21 [] [] M = some (.inl (some (.int 0)), M) := (am_X_eq cal k_Lw_spawn 21 _ _ M).trans rfl
theorem y_Lw_send (d : Nat) (a0 : Nat) (a1 : Int32) (a2 : Int32) (a3 : Int32) (a4 : Int32) (a5 : Nat) (M : aM) : am_Y (d + 1) 147 [.ref a0, .int a1, .int a2, .int a3, .int a4, .ref a5] M = am_X (am_Y d) k_Lw_send 0 [(0, .ref a0), (1, .int a1), (2, .int a2), (3, .int a3), (4, .int a4), (5, .ref a5)] [] M := rfl
theorem e_Lw_send_0 (cal : aY) (x0 : Nat) (x1 : Int32) (x2 : Int32) (x3 : Int32) (x4 : Int32) (x5 : Nat) (M : aM) : am_X cal k_Lw_send 0 [(0, .ref x0), (1, .int x1), (2, .int x2), (3, .int x3), (4, .int x4), (5, .ref x5)] [] M = (am_ln M x0 8).bind fun _ => am_cI (cal 75 [.ref x0, .int x1, .int x2, .int x3, .int x4] M) (fun v3 M1 => (am_ix 0).bind fun v4 => (am_wr M1 x5 11 v4 (.long (Int32.toInt64 v3))).bind fun M5 => am_X cal k_Lw_send 25 [] [] M5) (fun v2 M1 => am_ct (am_X cal k_Lw_send) some (k_Lw_send.2.1.getD 1 []) v2 [(0, .ref x0), (1, .int x1), (2, .int x2), (3, .int x3), (4, .int x4), (5, .ref x5)] M1) := (am_X_eq cal k_Lw_send 0 _ _ M).trans rfl
theorem e_Lw_send_19 (cal : aY)  (M : aM) : am_X cal k_Lw_send 19 [] [] M = some (.inl (some (.int 1)), M) := (am_X_eq cal k_Lw_send 19 _ _ M).trans rfl
theorem e_Lw_send_23 (cal : aY)  (M : aM) : am_X cal k_Lw_send 23 [] [] M = some (.inl (some (.int 2)), M) := (am_X_eq cal k_Lw_send 23 _ _ M).trans rfl
theorem e_Lw_send_25 (cal : aY)  (M : aM) : am_X cal k_Lw_send 25 [] [] M = some (.inl (some (.int 0)), M) := (am_X_eq cal k_Lw_send 25 _ _ M).trans rfl
theorem y_Lw_deliver (d : Nat) (a0 : Nat) (a1 : Int32) (a2 : Int32) (a3 : Nat) (M : aM) : am_Y (d + 1) 148 [.ref a0, .int a1, .int a2, .ref a3] M = am_X (am_Y d) k_Lw_deliver 0 [(0, .ref a0), (1, .int a1), (2, .int a2), (3, .ref a3)] [] M := rfl
theorem e_Lw_deliver_0 (cal : aY) (x0 : Nat) (x1 : Int32) (x2 : Int32) (x3 : Nat) (M : aM) : am_X cal k_Lw_deliver 0 [(0, .ref x0), (1, .int x1), (2, .int x2), (3, .ref x3)] [] M = (am_ln M x0 8).bind fun _ => am_cI (cal 77 [.ref x0, .int x1, .int x2] M) (fun v3 M1 => (am_ix 0).bind fun v4 => (am_wr M1 x3 11 v4 (.long (Int32.toInt64 v3))).bind fun M5 => am_X cal k_Lw_deliver 25 [] [] M5) (fun v2 M1 => am_ct (am_X cal k_Lw_deliver) some (k_Lw_deliver.2.1.getD 1 []) v2 [(0, .ref x0), (1, .int x1), (2, .int x2), (3, .ref x3)] M1) := (am_X_eq cal k_Lw_deliver 0 _ _ M).trans rfl
theorem e_Lw_deliver_15 (cal : aY)  (M : aM) : am_X cal k_Lw_deliver 15 [] [] M = some (.inl (some (.int 1)), M) := (am_X_eq cal k_Lw_deliver 15 _ _ M).trans rfl
theorem e_Lw_deliver_19 (cal : aY)  (M : aM) : am_X cal k_Lw_deliver 19 [] [] M = some (.inl (some (.int 2)), M) := (am_X_eq cal k_Lw_deliver 19 _ _ M).trans rfl
theorem e_Lw_deliver_23 (cal : aY)  (M : aM) : am_X cal k_Lw_deliver 23 [] [] M = some (.inl (some (.int 3)), M) := (am_X_eq cal k_Lw_deliver 23 _ _ M).trans rfl
theorem e_Lw_deliver_25 (cal : aY)  (M : aM) : am_X cal k_Lw_deliver 25 [] [] M = some (.inl (some (.int 0)), M) := (am_X_eq cal k_Lw_deliver 25 _ _ M).trans rfl
theorem y_Lw_step (d : Nat) (a0 : Nat) (a1 : Int32) (a2 : Nat) (M : aM) : am_Y (d + 1) 149 [.ref a0, .int a1, .ref a2] M = am_X (am_Y d) k_Lw_step 0 [(0, .ref a0), (1, .int a1), (2, .ref a2)] [] M := rfl
theorem e_Lw_step_0 (cal : aY) (x0 : Nat) (x1 : Int32) (x2 : Nat) (M : aM) : am_X cal k_Lw_step 0 [(0, .ref x0), (1, .int x1), (2, .ref x2)] [] M = (am_ln M x0 8).bind fun _ => am_cI (cal 79 [.ref x0, .int x1] M) (fun v3 M1 => (am_ix 0).bind fun v4 => (am_wr M1 x2 11 v4 (.long (Int32.toInt64 v3))).bind fun M5 => am_X cal k_Lw_step 27 [] [] M5) (fun v2 M1 => am_ct (am_X cal k_Lw_step) some (k_Lw_step.2.1.getD 1 []) v2 [(0, .ref x0), (1, .int x1), (2, .ref x2)] M1) := (am_X_eq cal k_Lw_step 0 _ _ M).trans rfl
theorem e_Lw_step_13 (cal : aY)  (M : aM) : am_X cal k_Lw_step 13 [] [] M = some (.inl (some (.int 1)), M) := (am_X_eq cal k_Lw_step 13 _ _ M).trans rfl
theorem e_Lw_step_16 (cal : aY)  (M : aM) : am_X cal k_Lw_step 16 [] [] M = some (.inl (some (.int 2)), M) := (am_X_eq cal k_Lw_step 16 _ _ M).trans rfl
theorem e_Lw_step_19 (cal : aY)  (M : aM) : am_X cal k_Lw_step 19 [] [] M = some (.inl (some (.int 3)), M) := (am_X_eq cal k_Lw_step 19 _ _ M).trans rfl
theorem e_Lw_step_22 (cal : aY)  (M : aM) : am_X cal k_Lw_step 22 [] [] M = some (.inl (some (.int 4)), M) := (am_X_eq cal k_Lw_step 22 _ _ M).trans rfl
theorem e_Lw_step_25 (cal : aY)  (M : aM) : am_X cal k_Lw_step 25 [] [] M = some (.inl (some (.int 5)), M) := (am_X_eq cal k_Lw_step 25 _ _ M).trans rfl
theorem e_Lw_step_27 (cal : aY)  (M : aM) : am_X cal k_Lw_step 27 [] [] M = some (.inl (some (.int 0)), M) := (am_X_eq cal k_Lw_step 27 _ _ M).trans rfl
theorem y_Lw_kill (d : Nat) (a0 : Nat) (a1 : Int32) (a2 : Nat) (M : aM) : am_Y (d + 1) 150 [.ref a0, .int a1, .ref a2] M = am_X (am_Y d) k_Lw_kill 0 [(0, .ref a0), (1, .int a1), (2, .ref a2)] [] M := rfl
theorem e_Lw_kill_0 (cal : aY) (x0 : Nat) (x1 : Int32) (x2 : Nat) (M : aM) : am_X cal k_Lw_kill 0 [(0, .ref x0), (1, .int x1), (2, .ref x2)] [] M = (am_ln M x0 8).bind fun _ => am_cI (cal 81 [.ref x0, .int x1] M) (fun v3 M1 => (am_ix 0).bind fun v4 => (am_wr M1 x2 11 v4 (.long (Int32.toInt64 v3))).bind fun M5 => am_X cal k_Lw_kill 18 [] [] M5) (fun v2 M1 => am_ct (am_X cal k_Lw_kill) some (k_Lw_kill.2.1.getD 1 []) v2 [(0, .ref x0), (1, .int x1), (2, .ref x2)] M1) := (am_X_eq cal k_Lw_kill 0 _ _ M).trans rfl
theorem e_Lw_kill_13 (cal : aY)  (M : aM) : am_X cal k_Lw_kill 13 [] [] M = some (.inl (some (.int 1)), M) := (am_X_eq cal k_Lw_kill 13 _ _ M).trans rfl
theorem e_Lw_kill_16 (cal : aY)  (M : aM) : am_X cal k_Lw_kill 16 [] [] M = some (.inl (some (.int 2)), M) := (am_X_eq cal k_Lw_kill 16 _ _ M).trans rfl
theorem e_Lw_kill_18 (cal : aY)  (M : aM) : am_X cal k_Lw_kill 18 [] [] M = some (.inl (some (.int 0)), M) := (am_X_eq cal k_Lw_kill 18 _ _ M).trans rfl
theorem y_Lw_reap (d : Nat) (a0 : Nat) (a1 : Int32) (a2 : Nat) (M : aM) : am_Y (d + 1) 151 [.ref a0, .int a1, .ref a2] M = am_X (am_Y d) k_Lw_reap 0 [(0, .ref a0), (1, .int a1), (2, .ref a2)] [] M := rfl
theorem e_Lw_reap_0 (cal : aY) (x0 : Nat) (x1 : Int32) (x2 : Nat) (M : aM) : am_X cal k_Lw_reap 0 [(0, .ref x0), (1, .int x1), (2, .ref x2)] [] M = (am_ln M x0 8).bind fun _ => am_cI (cal 82 [.ref x0, .int x1] M) (fun v3 M1 => (am_ix 0).bind fun v4 => (am_wr M1 x2 11 v4 (.long (Int32.toInt64 v3))).bind fun M5 => am_X cal k_Lw_reap 18 [] [] M5) (fun v2 M1 => am_ct (am_X cal k_Lw_reap) some (k_Lw_reap.2.1.getD 1 []) v2 [(0, .ref x0), (1, .int x1), (2, .ref x2)] M1) := (am_X_eq cal k_Lw_reap 0 _ _ M).trans rfl
theorem e_Lw_reap_13 (cal : aY)  (M : aM) : am_X cal k_Lw_reap 13 [] [] M = some (.inl (some (.int 1)), M) := (am_X_eq cal k_Lw_reap 13 _ _ M).trans rfl
theorem e_Lw_reap_16 (cal : aY)  (M : aM) : am_X cal k_Lw_reap 16 [] [] M = some (.inl (some (.int 2)), M) := (am_X_eq cal k_Lw_reap 16 _ _ M).trans rfl
theorem e_Lw_reap_18 (cal : aY)  (M : aM) : am_X cal k_Lw_reap 18 [] [] M = some (.inl (some (.int 0)), M) := (am_X_eq cal k_Lw_reap 18 _ _ M).trans rfl
theorem y_Lw_leaf (d : Nat) (a0 : Nat) (a1 : Int32) (a2 : Int32) (a3 : Int32) (a4 : Nat) (M : aM) : am_Y (d + 1) 152 [.ref a0, .int a1, .int a2, .int a3, .ref a4] M = am_X (am_Y d) k_Lw_leaf 0 [(0, .ref a0), (1, .int a1), (2, .int a2), (3, .int a3), (4, .ref a4)] [] M := rfl
theorem e_Lw_leaf_0 (cal : aY) (x0 : Nat) (x1 : Int32) (x2 : Int32) (x3 : Int32) (x4 : Nat) (M : aM) : am_X cal k_Lw_leaf 0 [(0, .ref x0), (1, .int x1), (2, .int x2), (3, .int x3), (4, .ref x4)] [] M = (am_ln M x0 8).bind fun _ => am_cI (cal 83 [.ref x0, .int x1, .int x2, .int x3] M) (fun v3 M1 => (am_ix 0).bind fun v4 => (am_wr M1 x4 11 v4 (.long (Int32.toInt64 v3))).bind fun M5 => am_X cal k_Lw_leaf 19 [] [] M5) (fun v2 M1 => am_ct (am_X cal k_Lw_leaf) some (k_Lw_leaf.2.1.getD 1 []) v2 [(0, .ref x0), (1, .int x1), (2, .int x2), (3, .int x3), (4, .ref x4)] M1) := (am_X_eq cal k_Lw_leaf 0 _ _ M).trans rfl
theorem e_Lw_leaf_17 (cal : aY)  (M : aM) : am_X cal k_Lw_leaf 17 [] [] M = some (.inl (some (.int 1)), M) := (am_X_eq cal k_Lw_leaf 17 _ _ M).trans rfl
theorem e_Lw_leaf_19 (cal : aY)  (M : aM) : am_X cal k_Lw_leaf 19 [] [] M = some (.inl (some (.int 0)), M) := (am_X_eq cal k_Lw_leaf 19 _ _ M).trans rfl
theorem y_Lw_shape (d : Nat) (a0 : Nat) (a1 : Int32) (a2 : Int32) (a3 : Nat) (M : aM) : am_Y (d + 1) 153 [.ref a0, .int a1, .int a2, .ref a3] M = am_X (am_Y d) k_Lw_shape 0 [(0, .ref a0), (1, .int a1), (2, .int a2), (3, .ref a3)] [] M := rfl
theorem e_Lw_shape_0 (cal : aY) (x0 : Nat) (x1 : Int32) (x2 : Int32) (x3 : Nat) (M : aM) : am_X cal k_Lw_shape 0 [(0, .ref x0), (1, .int x1), (2, .int x2), (3, .ref x3)] [] M = (am_ln M x0 8).bind fun _ => am_cI (cal 85 [.ref x0, .int x1, .int x2] M) (fun v3 M1 => (am_ix 0).bind fun v4 => (am_wr M1 x3 11 v4 (.long (Int32.toInt64 v3))).bind fun M5 => am_X cal k_Lw_shape 17 [] [] M5) (fun v2 M1 => am_ct (am_X cal k_Lw_shape) some (k_Lw_shape.2.1.getD 1 []) v2 [(0, .ref x0), (1, .int x1), (2, .int x2), (3, .ref x3)] M1) := (am_X_eq cal k_Lw_shape 0 _ _ M).trans rfl
theorem e_Lw_shape_15 (cal : aY)  (M : aM) : am_X cal k_Lw_shape 15 [] [] M = some (.inl (some (.int 1)), M) := (am_X_eq cal k_Lw_shape 15 _ _ M).trans rfl
theorem e_Lw_shape_17 (cal : aY)  (M : aM) : am_X cal k_Lw_shape 17 [] [] M = some (.inl (some (.int 0)), M) := (am_X_eq cal k_Lw_shape 17 _ _ M).trans rfl
theorem y_Lw_about (d : Nat) (a0 : Nat) (a1 : Int32) (a2 : Int32) (a3 : Nat) (M : aM) : am_Y (d + 1) 154 [.ref a0, .int a1, .int a2, .ref a3] M = am_X (am_Y d) k_Lw_about 0 [(0, .ref a0), (1, .int a1), (2, .int a2), (3, .ref a3)] [] M := rfl
theorem e_Lw_about_0 (cal : aY) (x0 : Nat) (x1 : Int32) (x2 : Int32) (x3 : Nat) (M : aM) : am_X cal k_Lw_about 0 [(0, .ref x0), (1, .int x1), (2, .int x2), (3, .ref x3)] [] M = (am_ln M x0 8).bind fun _ => am_cI (cal 86 [.ref x0, .int x1, .int x2] M) (fun v3 M1 => (am_ix 0).bind fun v4 => (am_wr M1 x3 11 v4 (.long (Int32.toInt64 v3))).bind fun M5 => am_X cal k_Lw_about 17 [] [] M5) (fun v2 M1 => am_ct (am_X cal k_Lw_about) some (k_Lw_about.2.1.getD 1 []) v2 [(0, .ref x0), (1, .int x1), (2, .int x2), (3, .ref x3)] M1) := (am_X_eq cal k_Lw_about 0 _ _ M).trans rfl
theorem e_Lw_about_15 (cal : aY)  (M : aM) : am_X cal k_Lw_about 15 [] [] M = some (.inl (some (.int 1)), M) := (am_X_eq cal k_Lw_about 15 _ _ M).trans rfl
theorem e_Lw_about_17 (cal : aY)  (M : aM) : am_X cal k_Lw_about 17 [] [] M = some (.inl (some (.int 0)), M) := (am_X_eq cal k_Lw_about 17 _ _ M).trans rfl
theorem y_Lw_law (d : Nat) (a0 : Nat) (M : aM) : am_Y (d + 1) 155 [.ref a0] M = am_X (am_Y d) k_Lw_law 0 [(0, .ref a0)] [] M := rfl
theorem e_Lw_law_0 (cal : aY) (x0 : Nat) (M : aM) : am_X cal k_Lw_law 0 [(0, .ref x0)] [] M = am_cV (cal 66 [.ref M.1.length] (am_nw M 8 (am_df 8))) (fun M1 => am_cV (cal 87 [.ref M1.1.length] (am_nw M1 9 (am_df 9))) (fun M3 => (am_ix 1).bind fun v5 => bif Nat.ble v5 1000 then am_X cal k_Lw_law 23 [(0, .ref x0), (1, .ref M.1.length), (2, .ref M1.1.length), (3, .ref M3.1.length), (4, .int 0)] [] (am_nw M3 11 (List.replicate v5 (am_dv 11))) else none) (fun v4 M3 => none)) (fun v2 M1 => none) := (am_X_eq cal k_Lw_law 0 _ _ M).trans rfl
theorem e_Lw_law_23 (cal : aY) (x0 : Nat) (x1 : Nat) (x2 : Nat) (x3 : Nat) (x4 : Int32) (M : aM) : am_X cal k_Lw_law 23 [(0, .ref x0), (1, .ref x1), (2, .ref x2), (3, .ref x3), (4, .int x4)] [] M = (am_ln M x0 10).bind fun v1 => if (nI v1) - 5 < x4 then am_X cal k_Lw_law 990 [] [] M else (am_ix x4).bind fun v2 => (am_rI M x0 10 v2).bind fun v3 => if v3 &&& 15 = nI 0 then am_X cal k_Lw_law 104 [(0, .ref x0), (1, .ref x1), (2, .ref x2), (3, .ref x3), (4, .int x4)] [] M else if v3 &&& 15 = nI 1 then am_X cal k_Lw_law 204 [(0, .ref x0), (1, .ref x1), (2, .ref x2), (3, .ref x3), (4, .int x4)] [] M else if v3 &&& 15 = nI 2 then am_X cal k_Lw_law 260 [(0, .ref x0), (1, .ref x1), (2, .ref x2), (3, .ref x3), (4, .int x4)] [] M else if v3 &&& 15 = nI 3 then am_X cal k_Lw_law 316 [(0, .ref x0), (1, .ref x1), (2, .ref x2), (3, .ref x3), (4, .int x4)] [] M else if v3 &&& 15 = nI 4 then am_X cal k_Lw_law 372 [(0, .ref x0), (1, .ref x1), (2, .ref x2), (3, .ref x3), (4, .int x4)] [] M else if v3 &&& 15 = nI 5 then am_X cal k_Lw_law 440 [(0, .ref x0), (1, .ref x1), (2, .ref x2), (3, .ref x3), (4, .int x4)] [] M else if v3 &&& 15 = nI 6 then am_X cal k_Lw_law 532 [(0, .ref x0), (1, .ref x1), (2, .ref x2), (3, .ref x3), (4, .int x4)] [] M else if v3 &&& 15 = nI 7 then am_X cal k_Lw_law 600 [(0, .ref x0), (1, .ref x1), (2, .ref x2), (3, .ref x3), (4, .int x4)] [] M else if v3 &&& 15 = nI 8 then am_X cal k_Lw_law 656 [(0, .ref x0), (1, .ref x1), (2, .ref x2), (3, .ref x3), (4, .int x4)] [] M else if v3 &&& 15 = nI 9 then am_X cal k_Lw_law 712 [(0, .ref x0), (1, .ref x1), (2, .ref x2), (3, .ref x3), (4, .int x4)] [] M else if v3 &&& 15 = nI 10 then am_X cal k_Lw_law 768 [(0, .ref x0), (1, .ref x1), (2, .ref x2), (3, .ref x3), (4, .int x4)] [] M else if v3 &&& 15 = nI 11 then am_X cal k_Lw_law 848 [(0, .ref x0), (1, .ref x1), (2, .ref x2), (3, .ref x3), (4, .int x4)] [] M else if v3 &&& 15 = nI 12 then am_X cal k_Lw_law 916 [(0, .ref x0), (1, .ref x1), (2, .ref x2), (3, .ref x3), (4, .int x4)] [] M else am_X cal k_Lw_law 984 [(0, .ref x0), (1, .ref x1), (2, .ref x2), (3, .ref x3), (4, .int x4)] [] M := (am_X_eq cal k_Lw_law 23 _ _ M).trans rfl
theorem e_Lw_law_104 (cal : aY) (x0 : Nat) (x1 : Nat) (x2 : Nat) (x3 : Nat) (x4 : Int32) (M : aM) : am_X cal k_Lw_law 104 [(0, .ref x0), (1, .ref x1), (2, .ref x2), (3, .ref x3), (4, .int x4)] [] M = (am_ix (x4 + 1)).bind fun v1 => (am_rI M x0 10 v1).bind fun v2 => (am_ix (x4 + 2)).bind fun v3 => (am_rI M x0 10 v3).bind fun v4 => (am_ix (x4 + 3)).bind fun v5 => (am_rI M x0 10 v5).bind fun v6 => am_cI (cal 142 [.ref x1, .int v2, .long (((Int32.toInt64 v4) <<< (Int32.toInt64 32 &&& 63)) ||| ((Int32.toInt64 v6) &&& 4294967295)), .ref x3] M) (fun v9 M7 => (am_ix (x4 + 1)).bind fun v10 => (am_rI M7 x0 10 v10).bind fun v11 => (am_ix (x4 + 2)).bind fun v12 => (am_rI M7 x0 10 v12).bind fun v13 => (am_ix (x4 + 3)).bind fun v14 => (am_rI M7 x0 10 v14).bind fun v15 => (am_ln M7 x2 9).bind fun _ => am_cI (cal 89 [.ref x2, .int v11, .long (((Int32.toInt64 v13) <<< (Int32.toInt64 32 &&& 63)) ||| ((Int32.toInt64 v15) &&& 4294967295))] M7) (fun v18 M16 => (am_ln M16 x2 9).bind fun _ => am_cI (cal 88 [.ref x2] M16) (fun v21 M19 => if v21 = v9 then am_X cal k_Lw_law 184 [(0, .ref x0), (1, .ref x1), (2, .ref x2), (3, .ref x3), (4, .int x4), (5, .int v9), (6, .int v18)] [] M19 else some (.inl (some (.int 0)), M19)) (fun v20 M19 => some (.inr v20, M19))) (fun v17 M16 => some (.inr v17, M16))) (fun v8 M7 => some (.inr v8, M7)) := (am_X_eq cal k_Lw_law 104 _ _ M).trans rfl
theorem e_Lw_law_184 (cal : aY) (x0 : Nat) (x1 : Nat) (x2 : Nat) (x3 : Nat) (x4 : Int32) (x5 : Int32) (x6 : Int32) (M : aM) : am_X cal k_Lw_law 184 [(0, .ref x0), (1, .ref x1), (2, .ref x2), (3, .ref x3), (4, .int x4), (5, .int x5), (6, .int x6)] [] M = if ¬ x5 = 0 then am_X cal k_Lw_law 201 [(0, .ref x0), (1, .ref x1), (2, .ref x2), (3, .ref x3), (4, .int x4)] [] M else (am_ix 0).bind fun v1 => (am_rJ M x3 11 v1).bind fun v2 => if lg_cmp v2 (Int32.toInt64 x6) = 0 then am_X cal k_Lw_law 201 [(0, .ref x0), (1, .ref x1), (2, .ref x2), (3, .ref x3), (4, .int x4)] [] M else some (.inl (some (.int 0)), M) := (am_X_eq cal k_Lw_law 184 _ _ M).trans rfl
theorem e_Lw_law_201 (cal : aY) (x0 : Nat) (x1 : Nat) (x2 : Nat) (x3 : Nat) (x4 : Int32) (M : aM) : am_X cal k_Lw_law 201 [(0, .ref x0), (1, .ref x1), (2, .ref x2), (3, .ref x3), (4, .int x4)] [] M = am_X cal k_Lw_law 984 [(0, .ref x0), (1, .ref x1), (2, .ref x2), (3, .ref x3), (4, .int x4)] [] M := (am_X_eq cal k_Lw_law 201 _ _ M).trans rfl
theorem e_Lw_law_204 (cal : aY) (x0 : Nat) (x1 : Nat) (x2 : Nat) (x3 : Nat) (x4 : Int32) (M : aM) : am_X cal k_Lw_law 204 [(0, .ref x0), (1, .ref x1), (2, .ref x2), (3, .ref x3), (4, .int x4)] [] M = (am_ix (x4 + 1)).bind fun v1 => (am_rI M x0 10 v1).bind fun v2 => am_cI (cal 143 [.ref x1, .int v2, .ref x3] M) (fun v5 M3 => (am_ix (x4 + 1)).bind fun v6 => (am_rI M3 x0 10 v6).bind fun v7 => (am_ln M3 x2 9).bind fun _ => am_cI (cal 93 [.ref x2, .int v7] M3) (fun v10 M8 => (am_ln M8 x2 9).bind fun _ => am_cI (cal 88 [.ref x2] M8) (fun v13 M11 => if v13 = v5 then am_X cal k_Lw_law 240 [(0, .ref x0), (1, .ref x1), (2, .ref x2), (3, .ref x3), (4, .int x4), (5, .int v5), (6, .int v10)] [] M11 else some (.inl (some (.int 0)), M11)) (fun v12 M11 => some (.inr v12, M11))) (fun v9 M8 => some (.inr v9, M8))) (fun v4 M3 => some (.inr v4, M3)) := (am_X_eq cal k_Lw_law 204 _ _ M).trans rfl
theorem e_Lw_law_240 (cal : aY) (x0 : Nat) (x1 : Nat) (x2 : Nat) (x3 : Nat) (x4 : Int32) (x5 : Int32) (x6 : Int32) (M : aM) : am_X cal k_Lw_law 240 [(0, .ref x0), (1, .ref x1), (2, .ref x2), (3, .ref x3), (4, .int x4), (5, .int x5), (6, .int x6)] [] M = if ¬ x5 = 0 then am_X cal k_Lw_law 257 [(0, .ref x0), (1, .ref x1), (2, .ref x2), (3, .ref x3), (4, .int x4)] [] M else (am_ix 0).bind fun v1 => (am_rJ M x3 11 v1).bind fun v2 => if lg_cmp v2 (Int32.toInt64 x6) = 0 then am_X cal k_Lw_law 257 [(0, .ref x0), (1, .ref x1), (2, .ref x2), (3, .ref x3), (4, .int x4)] [] M else some (.inl (some (.int 0)), M) := (am_X_eq cal k_Lw_law 240 _ _ M).trans rfl
theorem e_Lw_law_257 (cal : aY) (x0 : Nat) (x1 : Nat) (x2 : Nat) (x3 : Nat) (x4 : Int32) (M : aM) : am_X cal k_Lw_law 257 [(0, .ref x0), (1, .ref x1), (2, .ref x2), (3, .ref x3), (4, .int x4)] [] M = am_X cal k_Lw_law 984 [(0, .ref x0), (1, .ref x1), (2, .ref x2), (3, .ref x3), (4, .int x4)] [] M := (am_X_eq cal k_Lw_law 257 _ _ M).trans rfl
theorem e_Lw_law_260 (cal : aY) (x0 : Nat) (x1 : Nat) (x2 : Nat) (x3 : Nat) (x4 : Int32) (M : aM) : am_X cal k_Lw_law 260 [(0, .ref x0), (1, .ref x1), (2, .ref x2), (3, .ref x3), (4, .int x4)] [] M = (am_ix (x4 + 1)).bind fun v1 => (am_rI M x0 10 v1).bind fun v2 => am_cI (cal 144 [.ref x1, .int v2, .ref x3] M) (fun v5 M3 => (am_ix (x4 + 1)).bind fun v6 => (am_rI M3 x0 10 v6).bind fun v7 => (am_ln M3 x2 9).bind fun _ => am_cI (cal 94 [.ref x2, .int v7] M3) (fun v10 M8 => (am_ln M8 x2 9).bind fun _ => am_cI (cal 88 [.ref x2] M8) (fun v13 M11 => if v13 = v5 then am_X cal k_Lw_law 296 [(0, .ref x0), (1, .ref x1), (2, .ref x2), (3, .ref x3), (4, .int x4), (5, .int v5), (6, .int v10)] [] M11 else some (.inl (some (.int 0)), M11)) (fun v12 M11 => some (.inr v12, M11))) (fun v9 M8 => some (.inr v9, M8))) (fun v4 M3 => some (.inr v4, M3)) := (am_X_eq cal k_Lw_law 260 _ _ M).trans rfl
theorem e_Lw_law_296 (cal : aY) (x0 : Nat) (x1 : Nat) (x2 : Nat) (x3 : Nat) (x4 : Int32) (x5 : Int32) (x6 : Int32) (M : aM) : am_X cal k_Lw_law 296 [(0, .ref x0), (1, .ref x1), (2, .ref x2), (3, .ref x3), (4, .int x4), (5, .int x5), (6, .int x6)] [] M = if ¬ x5 = 0 then am_X cal k_Lw_law 313 [(0, .ref x0), (1, .ref x1), (2, .ref x2), (3, .ref x3), (4, .int x4)] [] M else (am_ix 0).bind fun v1 => (am_rJ M x3 11 v1).bind fun v2 => if lg_cmp v2 (Int32.toInt64 x6) = 0 then am_X cal k_Lw_law 313 [(0, .ref x0), (1, .ref x1), (2, .ref x2), (3, .ref x3), (4, .int x4)] [] M else some (.inl (some (.int 0)), M) := (am_X_eq cal k_Lw_law 296 _ _ M).trans rfl
theorem e_Lw_law_313 (cal : aY) (x0 : Nat) (x1 : Nat) (x2 : Nat) (x3 : Nat) (x4 : Int32) (M : aM) : am_X cal k_Lw_law 313 [(0, .ref x0), (1, .ref x1), (2, .ref x2), (3, .ref x3), (4, .int x4)] [] M = am_X cal k_Lw_law 984 [(0, .ref x0), (1, .ref x1), (2, .ref x2), (3, .ref x3), (4, .int x4)] [] M := (am_X_eq cal k_Lw_law 313 _ _ M).trans rfl
theorem e_Lw_law_316 (cal : aY) (x0 : Nat) (x1 : Nat) (x2 : Nat) (x3 : Nat) (x4 : Int32) (M : aM) : am_X cal k_Lw_law 316 [(0, .ref x0), (1, .ref x1), (2, .ref x2), (3, .ref x3), (4, .int x4)] [] M = (am_ix (x4 + 1)).bind fun v1 => (am_rI M x0 10 v1).bind fun v2 => am_cI (cal 145 [.ref x1, .int v2, .ref x3] M) (fun v5 M3 => (am_ix (x4 + 1)).bind fun v6 => (am_rI M3 x0 10 v6).bind fun v7 => (am_ln M3 x2 9).bind fun _ => am_cI (cal 104 [.ref x2, .int v7] M3) (fun v10 M8 => (am_ln M8 x2 9).bind fun _ => am_cI (cal 88 [.ref x2] M8) (fun v13 M11 => if v13 = v5 then am_X cal k_Lw_law 352 [(0, .ref x0), (1, .ref x1), (2, .ref x2), (3, .ref x3), (4, .int x4), (5, .int v5), (6, .int v10)] [] M11 else some (.inl (some (.int 0)), M11)) (fun v12 M11 => some (.inr v12, M11))) (fun v9 M8 => some (.inr v9, M8))) (fun v4 M3 => some (.inr v4, M3)) := (am_X_eq cal k_Lw_law 316 _ _ M).trans rfl
theorem e_Lw_law_352 (cal : aY) (x0 : Nat) (x1 : Nat) (x2 : Nat) (x3 : Nat) (x4 : Int32) (x5 : Int32) (x6 : Int32) (M : aM) : am_X cal k_Lw_law 352 [(0, .ref x0), (1, .ref x1), (2, .ref x2), (3, .ref x3), (4, .int x4), (5, .int x5), (6, .int x6)] [] M = if ¬ x5 = 0 then am_X cal k_Lw_law 369 [(0, .ref x0), (1, .ref x1), (2, .ref x2), (3, .ref x3), (4, .int x4)] [] M else (am_ix 0).bind fun v1 => (am_rJ M x3 11 v1).bind fun v2 => if lg_cmp v2 (Int32.toInt64 x6) = 0 then am_X cal k_Lw_law 369 [(0, .ref x0), (1, .ref x1), (2, .ref x2), (3, .ref x3), (4, .int x4)] [] M else some (.inl (some (.int 0)), M) := (am_X_eq cal k_Lw_law 352 _ _ M).trans rfl
theorem e_Lw_law_369 (cal : aY) (x0 : Nat) (x1 : Nat) (x2 : Nat) (x3 : Nat) (x4 : Int32) (M : aM) : am_X cal k_Lw_law 369 [(0, .ref x0), (1, .ref x1), (2, .ref x2), (3, .ref x3), (4, .int x4)] [] M = am_X cal k_Lw_law 984 [(0, .ref x0), (1, .ref x1), (2, .ref x2), (3, .ref x3), (4, .int x4)] [] M := (am_X_eq cal k_Lw_law 369 _ _ M).trans rfl
theorem e_Lw_law_372 (cal : aY) (x0 : Nat) (x1 : Nat) (x2 : Nat) (x3 : Nat) (x4 : Int32) (M : aM) : am_X cal k_Lw_law 372 [(0, .ref x0), (1, .ref x1), (2, .ref x2), (3, .ref x3), (4, .int x4)] [] M = (am_ix (x4 + 1)).bind fun v1 => (am_rI M x0 10 v1).bind fun v2 => (am_ix (x4 + 2)).bind fun v3 => (am_rI M x0 10 v3).bind fun v4 => am_cI (cal 146 [.ref x1, .int v2, .int v4, .ref x3] M) (fun v7 M5 => (am_ix (x4 + 1)).bind fun v8 => (am_rI M5 x0 10 v8).bind fun v9 => (am_ix (x4 + 2)).bind fun v10 => (am_rI M5 x0 10 v10).bind fun v11 => (am_ln M5 x2 9).bind fun _ => am_cI (cal 105 [.ref x2, .int v9, .int v11] M5) (fun v14 M12 => (am_ln M12 x2 9).bind fun _ => am_cI (cal 88 [.ref x2] M12) (fun v17 M15 => if v17 = v7 then am_X cal k_Lw_law 420 [(0, .ref x0), (1, .ref x1), (2, .ref x2), (3, .ref x3), (4, .int x4), (5, .int v7), (6, .int v14)] [] M15 else some (.inl (some (.int 0)), M15)) (fun v16 M15 => some (.inr v16, M15))) (fun v13 M12 => some (.inr v13, M12))) (fun v6 M5 => some (.inr v6, M5)) := (am_X_eq cal k_Lw_law 372 _ _ M).trans rfl
theorem e_Lw_law_420 (cal : aY) (x0 : Nat) (x1 : Nat) (x2 : Nat) (x3 : Nat) (x4 : Int32) (x5 : Int32) (x6 : Int32) (M : aM) : am_X cal k_Lw_law 420 [(0, .ref x0), (1, .ref x1), (2, .ref x2), (3, .ref x3), (4, .int x4), (5, .int x5), (6, .int x6)] [] M = if ¬ x5 = 0 then am_X cal k_Lw_law 437 [(0, .ref x0), (1, .ref x1), (2, .ref x2), (3, .ref x3), (4, .int x4)] [] M else (am_ix 0).bind fun v1 => (am_rJ M x3 11 v1).bind fun v2 => if lg_cmp v2 (Int32.toInt64 x6) = 0 then am_X cal k_Lw_law 437 [(0, .ref x0), (1, .ref x1), (2, .ref x2), (3, .ref x3), (4, .int x4)] [] M else some (.inl (some (.int 0)), M) := (am_X_eq cal k_Lw_law 420 _ _ M).trans rfl
theorem e_Lw_law_437 (cal : aY) (x0 : Nat) (x1 : Nat) (x2 : Nat) (x3 : Nat) (x4 : Int32) (M : aM) : am_X cal k_Lw_law 437 [(0, .ref x0), (1, .ref x1), (2, .ref x2), (3, .ref x3), (4, .int x4)] [] M = am_X cal k_Lw_law 984 [(0, .ref x0), (1, .ref x1), (2, .ref x2), (3, .ref x3), (4, .int x4)] [] M := (am_X_eq cal k_Lw_law 437 _ _ M).trans rfl
theorem e_Lw_law_440 (cal : aY) (x0 : Nat) (x1 : Nat) (x2 : Nat) (x3 : Nat) (x4 : Int32) (M : aM) : am_X cal k_Lw_law 440 [(0, .ref x0), (1, .ref x1), (2, .ref x2), (3, .ref x3), (4, .int x4)] [] M = (am_ix (x4 + 1)).bind fun v1 => (am_rI M x0 10 v1).bind fun v2 => (am_ix (x4 + 2)).bind fun v3 => (am_rI M x0 10 v3).bind fun v4 => (am_ix (x4 + 3)).bind fun v5 => (am_rI M x0 10 v5).bind fun v6 => (am_ix (x4 + 4)).bind fun v7 => (am_rI M x0 10 v7).bind fun v8 => am_cI (cal 147 [.ref x1, .int v2, .int v4, .int v6, .int v8, .ref x3] M) (fun v11 M9 => (am_ix (x4 + 1)).bind fun v12 => (am_rI M9 x0 10 v12).bind fun v13 => (am_ix (x4 + 2)).bind fun v14 => (am_rI M9 x0 10 v14).bind fun v15 => (am_ix (x4 + 3)).bind fun v16 => (am_rI M9 x0 10 v16).bind fun v17 => (am_ix (x4 + 4)).bind fun v18 => (am_rI M9 x0 10 v18).bind fun v19 => (am_ln M9 x2 9).bind fun _ => am_cI (cal 110 [.ref x2, .int v13, .int v15, .int v17, .int v19] M9) (fun v22 M20 => (am_ln M20 x2 9).bind fun _ => am_cI (cal 88 [.ref x2] M20) (fun v25 M23 => if v25 = v11 then am_X cal k_Lw_law 512 [(0, .ref x0), (1, .ref x1), (2, .ref x2), (3, .ref x3), (4, .int x4), (5, .int v11), (6, .int v22)] [] M23 else some (.inl (some (.int 0)), M23)) (fun v24 M23 => some (.inr v24, M23))) (fun v21 M20 => some (.inr v21, M20))) (fun v10 M9 => some (.inr v10, M9)) := (am_X_eq cal k_Lw_law 440 _ _ M).trans rfl
theorem e_Lw_law_512 (cal : aY) (x0 : Nat) (x1 : Nat) (x2 : Nat) (x3 : Nat) (x4 : Int32) (x5 : Int32) (x6 : Int32) (M : aM) : am_X cal k_Lw_law 512 [(0, .ref x0), (1, .ref x1), (2, .ref x2), (3, .ref x3), (4, .int x4), (5, .int x5), (6, .int x6)] [] M = if ¬ x5 = 0 then am_X cal k_Lw_law 529 [(0, .ref x0), (1, .ref x1), (2, .ref x2), (3, .ref x3), (4, .int x4)] [] M else (am_ix 0).bind fun v1 => (am_rJ M x3 11 v1).bind fun v2 => if lg_cmp v2 (Int32.toInt64 x6) = 0 then am_X cal k_Lw_law 529 [(0, .ref x0), (1, .ref x1), (2, .ref x2), (3, .ref x3), (4, .int x4)] [] M else some (.inl (some (.int 0)), M) := (am_X_eq cal k_Lw_law 512 _ _ M).trans rfl
theorem e_Lw_law_529 (cal : aY) (x0 : Nat) (x1 : Nat) (x2 : Nat) (x3 : Nat) (x4 : Int32) (M : aM) : am_X cal k_Lw_law 529 [(0, .ref x0), (1, .ref x1), (2, .ref x2), (3, .ref x3), (4, .int x4)] [] M = am_X cal k_Lw_law 984 [(0, .ref x0), (1, .ref x1), (2, .ref x2), (3, .ref x3), (4, .int x4)] [] M := (am_X_eq cal k_Lw_law 529 _ _ M).trans rfl
theorem e_Lw_law_532 (cal : aY) (x0 : Nat) (x1 : Nat) (x2 : Nat) (x3 : Nat) (x4 : Int32) (M : aM) : am_X cal k_Lw_law 532 [(0, .ref x0), (1, .ref x1), (2, .ref x2), (3, .ref x3), (4, .int x4)] [] M = (am_ix (x4 + 1)).bind fun v1 => (am_rI M x0 10 v1).bind fun v2 => (am_ix (x4 + 2)).bind fun v3 => (am_rI M x0 10 v3).bind fun v4 => am_cI (cal 148 [.ref x1, .int v2, .int v4, .ref x3] M) (fun v7 M5 => (am_ix (x4 + 1)).bind fun v8 => (am_rI M5 x0 10 v8).bind fun v9 => (am_ix (x4 + 2)).bind fun v10 => (am_rI M5 x0 10 v10).bind fun v11 => (am_ln M5 x2 9).bind fun _ => am_cI (cal 116 [.ref x2, .int v9, .int v11] M5) (fun v14 M12 => (am_ln M12 x2 9).bind fun _ => am_cI (cal 88 [.ref x2] M12) (fun v17 M15 => if v17 = v7 then am_X cal k_Lw_law 580 [(0, .ref x0), (1, .ref x1), (2, .ref x2), (3, .ref x3), (4, .int x4), (5, .int v7), (6, .int v14)] [] M15 else some (.inl (some (.int 0)), M15)) (fun v16 M15 => some (.inr v16, M15))) (fun v13 M12 => some (.inr v13, M12))) (fun v6 M5 => some (.inr v6, M5)) := (am_X_eq cal k_Lw_law 532 _ _ M).trans rfl
theorem e_Lw_law_580 (cal : aY) (x0 : Nat) (x1 : Nat) (x2 : Nat) (x3 : Nat) (x4 : Int32) (x5 : Int32) (x6 : Int32) (M : aM) : am_X cal k_Lw_law 580 [(0, .ref x0), (1, .ref x1), (2, .ref x2), (3, .ref x3), (4, .int x4), (5, .int x5), (6, .int x6)] [] M = if ¬ x5 = 0 then am_X cal k_Lw_law 597 [(0, .ref x0), (1, .ref x1), (2, .ref x2), (3, .ref x3), (4, .int x4)] [] M else (am_ix 0).bind fun v1 => (am_rJ M x3 11 v1).bind fun v2 => if lg_cmp v2 (Int32.toInt64 x6) = 0 then am_X cal k_Lw_law 597 [(0, .ref x0), (1, .ref x1), (2, .ref x2), (3, .ref x3), (4, .int x4)] [] M else some (.inl (some (.int 0)), M) := (am_X_eq cal k_Lw_law 580 _ _ M).trans rfl
theorem e_Lw_law_597 (cal : aY) (x0 : Nat) (x1 : Nat) (x2 : Nat) (x3 : Nat) (x4 : Int32) (M : aM) : am_X cal k_Lw_law 597 [(0, .ref x0), (1, .ref x1), (2, .ref x2), (3, .ref x3), (4, .int x4)] [] M = am_X cal k_Lw_law 984 [(0, .ref x0), (1, .ref x1), (2, .ref x2), (3, .ref x3), (4, .int x4)] [] M := (am_X_eq cal k_Lw_law 597 _ _ M).trans rfl
theorem e_Lw_law_600 (cal : aY) (x0 : Nat) (x1 : Nat) (x2 : Nat) (x3 : Nat) (x4 : Int32) (M : aM) : am_X cal k_Lw_law 600 [(0, .ref x0), (1, .ref x1), (2, .ref x2), (3, .ref x3), (4, .int x4)] [] M = (am_ix (x4 + 1)).bind fun v1 => (am_rI M x0 10 v1).bind fun v2 => am_cI (cal 149 [.ref x1, .int v2, .ref x3] M) (fun v5 M3 => (am_ix (x4 + 1)).bind fun v6 => (am_rI M3 x0 10 v6).bind fun v7 => (am_ln M3 x2 9).bind fun _ => am_cI (cal 120 [.ref x2, .int v7] M3) (fun v10 M8 => (am_ln M8 x2 9).bind fun _ => am_cI (cal 88 [.ref x2] M8) (fun v13 M11 => if v13 = v5 then am_X cal k_Lw_law 636 [(0, .ref x0), (1, .ref x1), (2, .ref x2), (3, .ref x3), (4, .int x4), (5, .int v5), (6, .int v10)] [] M11 else some (.inl (some (.int 0)), M11)) (fun v12 M11 => some (.inr v12, M11))) (fun v9 M8 => some (.inr v9, M8))) (fun v4 M3 => some (.inr v4, M3)) := (am_X_eq cal k_Lw_law 600 _ _ M).trans rfl
theorem e_Lw_law_636 (cal : aY) (x0 : Nat) (x1 : Nat) (x2 : Nat) (x3 : Nat) (x4 : Int32) (x5 : Int32) (x6 : Int32) (M : aM) : am_X cal k_Lw_law 636 [(0, .ref x0), (1, .ref x1), (2, .ref x2), (3, .ref x3), (4, .int x4), (5, .int x5), (6, .int x6)] [] M = if ¬ x5 = 0 then am_X cal k_Lw_law 653 [(0, .ref x0), (1, .ref x1), (2, .ref x2), (3, .ref x3), (4, .int x4)] [] M else (am_ix 0).bind fun v1 => (am_rJ M x3 11 v1).bind fun v2 => if lg_cmp v2 (Int32.toInt64 x6) = 0 then am_X cal k_Lw_law 653 [(0, .ref x0), (1, .ref x1), (2, .ref x2), (3, .ref x3), (4, .int x4)] [] M else some (.inl (some (.int 0)), M) := (am_X_eq cal k_Lw_law 636 _ _ M).trans rfl
theorem e_Lw_law_653 (cal : aY) (x0 : Nat) (x1 : Nat) (x2 : Nat) (x3 : Nat) (x4 : Int32) (M : aM) : am_X cal k_Lw_law 653 [(0, .ref x0), (1, .ref x1), (2, .ref x2), (3, .ref x3), (4, .int x4)] [] M = am_X cal k_Lw_law 984 [(0, .ref x0), (1, .ref x1), (2, .ref x2), (3, .ref x3), (4, .int x4)] [] M := (am_X_eq cal k_Lw_law 653 _ _ M).trans rfl
theorem e_Lw_law_656 (cal : aY) (x0 : Nat) (x1 : Nat) (x2 : Nat) (x3 : Nat) (x4 : Int32) (M : aM) : am_X cal k_Lw_law 656 [(0, .ref x0), (1, .ref x1), (2, .ref x2), (3, .ref x3), (4, .int x4)] [] M = (am_ix (x4 + 1)).bind fun v1 => (am_rI M x0 10 v1).bind fun v2 => am_cI (cal 150 [.ref x1, .int v2, .ref x3] M) (fun v5 M3 => (am_ix (x4 + 1)).bind fun v6 => (am_rI M3 x0 10 v6).bind fun v7 => (am_ln M3 x2 9).bind fun _ => am_cI (cal 135 [.ref x2, .int v7] M3) (fun v10 M8 => (am_ln M8 x2 9).bind fun _ => am_cI (cal 88 [.ref x2] M8) (fun v13 M11 => if v13 = v5 then am_X cal k_Lw_law 692 [(0, .ref x0), (1, .ref x1), (2, .ref x2), (3, .ref x3), (4, .int x4), (5, .int v5), (6, .int v10)] [] M11 else some (.inl (some (.int 0)), M11)) (fun v12 M11 => some (.inr v12, M11))) (fun v9 M8 => some (.inr v9, M8))) (fun v4 M3 => some (.inr v4, M3)) := (am_X_eq cal k_Lw_law 656 _ _ M).trans rfl
theorem e_Lw_law_692 (cal : aY) (x0 : Nat) (x1 : Nat) (x2 : Nat) (x3 : Nat) (x4 : Int32) (x5 : Int32) (x6 : Int32) (M : aM) : am_X cal k_Lw_law 692 [(0, .ref x0), (1, .ref x1), (2, .ref x2), (3, .ref x3), (4, .int x4), (5, .int x5), (6, .int x6)] [] M = if ¬ x5 = 0 then am_X cal k_Lw_law 709 [(0, .ref x0), (1, .ref x1), (2, .ref x2), (3, .ref x3), (4, .int x4)] [] M else (am_ix 0).bind fun v1 => (am_rJ M x3 11 v1).bind fun v2 => if lg_cmp v2 (Int32.toInt64 x6) = 0 then am_X cal k_Lw_law 709 [(0, .ref x0), (1, .ref x1), (2, .ref x2), (3, .ref x3), (4, .int x4)] [] M else some (.inl (some (.int 0)), M) := (am_X_eq cal k_Lw_law 692 _ _ M).trans rfl
theorem e_Lw_law_709 (cal : aY) (x0 : Nat) (x1 : Nat) (x2 : Nat) (x3 : Nat) (x4 : Int32) (M : aM) : am_X cal k_Lw_law 709 [(0, .ref x0), (1, .ref x1), (2, .ref x2), (3, .ref x3), (4, .int x4)] [] M = am_X cal k_Lw_law 984 [(0, .ref x0), (1, .ref x1), (2, .ref x2), (3, .ref x3), (4, .int x4)] [] M := (am_X_eq cal k_Lw_law 709 _ _ M).trans rfl
theorem e_Lw_law_712 (cal : aY) (x0 : Nat) (x1 : Nat) (x2 : Nat) (x3 : Nat) (x4 : Int32) (M : aM) : am_X cal k_Lw_law 712 [(0, .ref x0), (1, .ref x1), (2, .ref x2), (3, .ref x3), (4, .int x4)] [] M = (am_ix (x4 + 1)).bind fun v1 => (am_rI M x0 10 v1).bind fun v2 => am_cI (cal 151 [.ref x1, .int v2, .ref x3] M) (fun v5 M3 => (am_ix (x4 + 1)).bind fun v6 => (am_rI M3 x0 10 v6).bind fun v7 => (am_ln M3 x2 9).bind fun _ => am_cI (cal 136 [.ref x2, .int v7] M3) (fun v10 M8 => (am_ln M8 x2 9).bind fun _ => am_cI (cal 88 [.ref x2] M8) (fun v13 M11 => if v13 = v5 then am_X cal k_Lw_law 748 [(0, .ref x0), (1, .ref x1), (2, .ref x2), (3, .ref x3), (4, .int x4), (5, .int v5), (6, .int v10)] [] M11 else some (.inl (some (.int 0)), M11)) (fun v12 M11 => some (.inr v12, M11))) (fun v9 M8 => some (.inr v9, M8))) (fun v4 M3 => some (.inr v4, M3)) := (am_X_eq cal k_Lw_law 712 _ _ M).trans rfl
theorem e_Lw_law_748 (cal : aY) (x0 : Nat) (x1 : Nat) (x2 : Nat) (x3 : Nat) (x4 : Int32) (x5 : Int32) (x6 : Int32) (M : aM) : am_X cal k_Lw_law 748 [(0, .ref x0), (1, .ref x1), (2, .ref x2), (3, .ref x3), (4, .int x4), (5, .int x5), (6, .int x6)] [] M = if ¬ x5 = 0 then am_X cal k_Lw_law 765 [(0, .ref x0), (1, .ref x1), (2, .ref x2), (3, .ref x3), (4, .int x4)] [] M else (am_ix 0).bind fun v1 => (am_rJ M x3 11 v1).bind fun v2 => if lg_cmp v2 (Int32.toInt64 x6) = 0 then am_X cal k_Lw_law 765 [(0, .ref x0), (1, .ref x1), (2, .ref x2), (3, .ref x3), (4, .int x4)] [] M else some (.inl (some (.int 0)), M) := (am_X_eq cal k_Lw_law 748 _ _ M).trans rfl
theorem e_Lw_law_765 (cal : aY) (x0 : Nat) (x1 : Nat) (x2 : Nat) (x3 : Nat) (x4 : Int32) (M : aM) : am_X cal k_Lw_law 765 [(0, .ref x0), (1, .ref x1), (2, .ref x2), (3, .ref x3), (4, .int x4)] [] M = am_X cal k_Lw_law 984 [(0, .ref x0), (1, .ref x1), (2, .ref x2), (3, .ref x3), (4, .int x4)] [] M := (am_X_eq cal k_Lw_law 765 _ _ M).trans rfl
theorem e_Lw_law_768 (cal : aY) (x0 : Nat) (x1 : Nat) (x2 : Nat) (x3 : Nat) (x4 : Int32) (M : aM) : am_X cal k_Lw_law 768 [(0, .ref x0), (1, .ref x1), (2, .ref x2), (3, .ref x3), (4, .int x4)] [] M = (am_ix (x4 + 1)).bind fun v1 => (am_rI M x0 10 v1).bind fun v2 => (am_ix (x4 + 2)).bind fun v3 => (am_rI M x0 10 v3).bind fun v4 => (am_ix (x4 + 3)).bind fun v5 => (am_rI M x0 10 v5).bind fun v6 => am_cI (cal 152 [.ref x1, .int v2, .int v4, .int v6, .ref x3] M) (fun v9 M7 => (am_ix (x4 + 1)).bind fun v10 => (am_rI M7 x0 10 v10).bind fun v11 => (am_ix (x4 + 2)).bind fun v12 => (am_rI M7 x0 10 v12).bind fun v13 => (am_ix (x4 + 3)).bind fun v14 => (am_rI M7 x0 10 v14).bind fun v15 => (am_ln M7 x2 9).bind fun _ => am_cI (cal 137 [.ref x2, .int v11, .int v13, .int v15] M7) (fun v18 M16 => (am_ln M16 x2 9).bind fun _ => am_cI (cal 88 [.ref x2] M16) (fun v21 M19 => if v21 = v9 then am_X cal k_Lw_law 828 [(0, .ref x0), (1, .ref x1), (2, .ref x2), (3, .ref x3), (4, .int x4), (5, .int v9), (6, .int v18)] [] M19 else some (.inl (some (.int 0)), M19)) (fun v20 M19 => some (.inr v20, M19))) (fun v17 M16 => some (.inr v17, M16))) (fun v8 M7 => some (.inr v8, M7)) := (am_X_eq cal k_Lw_law 768 _ _ M).trans rfl
theorem e_Lw_law_828 (cal : aY) (x0 : Nat) (x1 : Nat) (x2 : Nat) (x3 : Nat) (x4 : Int32) (x5 : Int32) (x6 : Int32) (M : aM) : am_X cal k_Lw_law 828 [(0, .ref x0), (1, .ref x1), (2, .ref x2), (3, .ref x3), (4, .int x4), (5, .int x5), (6, .int x6)] [] M = if ¬ x5 = 0 then am_X cal k_Lw_law 845 [(0, .ref x0), (1, .ref x1), (2, .ref x2), (3, .ref x3), (4, .int x4)] [] M else (am_ix 0).bind fun v1 => (am_rJ M x3 11 v1).bind fun v2 => if lg_cmp v2 (Int32.toInt64 x6) = 0 then am_X cal k_Lw_law 845 [(0, .ref x0), (1, .ref x1), (2, .ref x2), (3, .ref x3), (4, .int x4)] [] M else some (.inl (some (.int 0)), M) := (am_X_eq cal k_Lw_law 828 _ _ M).trans rfl
theorem e_Lw_law_845 (cal : aY) (x0 : Nat) (x1 : Nat) (x2 : Nat) (x3 : Nat) (x4 : Int32) (M : aM) : am_X cal k_Lw_law 845 [(0, .ref x0), (1, .ref x1), (2, .ref x2), (3, .ref x3), (4, .int x4)] [] M = am_X cal k_Lw_law 984 [(0, .ref x0), (1, .ref x1), (2, .ref x2), (3, .ref x3), (4, .int x4)] [] M := (am_X_eq cal k_Lw_law 845 _ _ M).trans rfl
theorem e_Lw_law_848 (cal : aY) (x0 : Nat) (x1 : Nat) (x2 : Nat) (x3 : Nat) (x4 : Int32) (M : aM) : am_X cal k_Lw_law 848 [(0, .ref x0), (1, .ref x1), (2, .ref x2), (3, .ref x3), (4, .int x4)] [] M = (am_ix (x4 + 1)).bind fun v1 => (am_rI M x0 10 v1).bind fun v2 => (am_ix (x4 + 2)).bind fun v3 => (am_rI M x0 10 v3).bind fun v4 => am_cI (cal 153 [.ref x1, .int v2, .int v4, .ref x3] M) (fun v7 M5 => (am_ix (x4 + 1)).bind fun v8 => (am_rI M5 x0 10 v8).bind fun v9 => (am_ix (x4 + 2)).bind fun v10 => (am_rI M5 x0 10 v10).bind fun v11 => (am_ln M5 x2 9).bind fun _ => am_cI (cal 140 [.ref x2, .int v9, .int v11] M5) (fun v14 M12 => (am_ln M12 x2 9).bind fun _ => am_cI (cal 88 [.ref x2] M12) (fun v17 M15 => if v17 = v7 then am_X cal k_Lw_law 896 [(0, .ref x0), (1, .ref x1), (2, .ref x2), (3, .ref x3), (4, .int x4), (5, .int v7), (6, .int v14)] [] M15 else some (.inl (some (.int 0)), M15)) (fun v16 M15 => some (.inr v16, M15))) (fun v13 M12 => some (.inr v13, M12))) (fun v6 M5 => some (.inr v6, M5)) := (am_X_eq cal k_Lw_law 848 _ _ M).trans rfl
theorem e_Lw_law_896 (cal : aY) (x0 : Nat) (x1 : Nat) (x2 : Nat) (x3 : Nat) (x4 : Int32) (x5 : Int32) (x6 : Int32) (M : aM) : am_X cal k_Lw_law 896 [(0, .ref x0), (1, .ref x1), (2, .ref x2), (3, .ref x3), (4, .int x4), (5, .int x5), (6, .int x6)] [] M = if ¬ x5 = 0 then am_X cal k_Lw_law 913 [(0, .ref x0), (1, .ref x1), (2, .ref x2), (3, .ref x3), (4, .int x4)] [] M else (am_ix 0).bind fun v1 => (am_rJ M x3 11 v1).bind fun v2 => if lg_cmp v2 (Int32.toInt64 x6) = 0 then am_X cal k_Lw_law 913 [(0, .ref x0), (1, .ref x1), (2, .ref x2), (3, .ref x3), (4, .int x4)] [] M else some (.inl (some (.int 0)), M) := (am_X_eq cal k_Lw_law 896 _ _ M).trans rfl
theorem e_Lw_law_913 (cal : aY) (x0 : Nat) (x1 : Nat) (x2 : Nat) (x3 : Nat) (x4 : Int32) (M : aM) : am_X cal k_Lw_law 913 [(0, .ref x0), (1, .ref x1), (2, .ref x2), (3, .ref x3), (4, .int x4)] [] M = am_X cal k_Lw_law 984 [(0, .ref x0), (1, .ref x1), (2, .ref x2), (3, .ref x3), (4, .int x4)] [] M := (am_X_eq cal k_Lw_law 913 _ _ M).trans rfl
theorem e_Lw_law_916 (cal : aY) (x0 : Nat) (x1 : Nat) (x2 : Nat) (x3 : Nat) (x4 : Int32) (M : aM) : am_X cal k_Lw_law 916 [(0, .ref x0), (1, .ref x1), (2, .ref x2), (3, .ref x3), (4, .int x4)] [] M = (am_ix (x4 + 1)).bind fun v1 => (am_rI M x0 10 v1).bind fun v2 => (am_ix (x4 + 2)).bind fun v3 => (am_rI M x0 10 v3).bind fun v4 => am_cI (cal 154 [.ref x1, .int v2, .int v4, .ref x3] M) (fun v7 M5 => (am_ix (x4 + 1)).bind fun v8 => (am_rI M5 x0 10 v8).bind fun v9 => (am_ix (x4 + 2)).bind fun v10 => (am_rI M5 x0 10 v10).bind fun v11 => (am_ln M5 x2 9).bind fun _ => am_cI (cal 141 [.ref x2, .int v9, .int v11] M5) (fun v14 M12 => (am_ln M12 x2 9).bind fun _ => am_cI (cal 88 [.ref x2] M12) (fun v17 M15 => if v17 = v7 then am_X cal k_Lw_law 964 [(0, .ref x0), (1, .ref x1), (2, .ref x2), (3, .ref x3), (4, .int x4), (5, .int v7), (6, .int v14)] [] M15 else some (.inl (some (.int 0)), M15)) (fun v16 M15 => some (.inr v16, M15))) (fun v13 M12 => some (.inr v13, M12))) (fun v6 M5 => some (.inr v6, M5)) := (am_X_eq cal k_Lw_law 916 _ _ M).trans rfl
theorem e_Lw_law_964 (cal : aY) (x0 : Nat) (x1 : Nat) (x2 : Nat) (x3 : Nat) (x4 : Int32) (x5 : Int32) (x6 : Int32) (M : aM) : am_X cal k_Lw_law 964 [(0, .ref x0), (1, .ref x1), (2, .ref x2), (3, .ref x3), (4, .int x4), (5, .int x5), (6, .int x6)] [] M = if ¬ x5 = 0 then am_X cal k_Lw_law 981 [(0, .ref x0), (1, .ref x1), (2, .ref x2), (3, .ref x3), (4, .int x4)] [] M else (am_ix 0).bind fun v1 => (am_rJ M x3 11 v1).bind fun v2 => if lg_cmp v2 (Int32.toInt64 x6) = 0 then am_X cal k_Lw_law 981 [(0, .ref x0), (1, .ref x1), (2, .ref x2), (3, .ref x3), (4, .int x4)] [] M else some (.inl (some (.int 0)), M) := (am_X_eq cal k_Lw_law 964 _ _ M).trans rfl
theorem e_Lw_law_981 (cal : aY) (x0 : Nat) (x1 : Nat) (x2 : Nat) (x3 : Nat) (x4 : Int32) (M : aM) : am_X cal k_Lw_law 981 [(0, .ref x0), (1, .ref x1), (2, .ref x2), (3, .ref x3), (4, .int x4)] [] M = am_X cal k_Lw_law 984 [(0, .ref x0), (1, .ref x1), (2, .ref x2), (3, .ref x3), (4, .int x4)] [] M := (am_X_eq cal k_Lw_law 981 _ _ M).trans rfl
theorem e_Lw_law_984 (cal : aY) (x0 : Nat) (x1 : Nat) (x2 : Nat) (x3 : Nat) (x4 : Int32) (M : aM) : am_X cal k_Lw_law 984 [(0, .ref x0), (1, .ref x1), (2, .ref x2), (3, .ref x3), (4, .int x4)] [] M = am_X cal k_Lw_law 23 [(0, .ref x0), (1, .ref x1), (2, .ref x2), (3, .ref x3), (4, .int (x4 + 5))] [] M := (am_X_eq cal k_Lw_law 984 _ _ M).trans rfl
theorem e_Lw_law_990 (cal : aY)  (M : aM) : am_X cal k_Lw_law 990 [] [] M = some (.inl (some (.int 1)), M) := (am_X_eq cal k_Lw_law 990 _ _ M).trans rfl
end
section
/-! names: classes by their numbers, fields in order, methods: by a program -/
def ac_C (ci : Nat) : String := match ci with
  | 0 => "ActorMachine$Actor"
  | 1 => "ActorMachine$Evaluator"
  | 2 => "ActorMachine$Grammar"
  | 3 => "ActorMachine$Reader"
  | 4 => "ActorMachine$Row"
  | 5 => "ActorMachine$Stepper"
  | 6 => "ActorMachine$Text"
  | 7 => "ActorMachine$World"
  | 8 => "ActorMachine"
  | _ => "ActorMachineModel"
def ac_N (ci : Nat) : Nat := match ci with
  | 0 => 7
  | 1 => 4
  | 2 => 1
  | 3 => 2
  | 4 => 2
  | 5 => 5
  | 6 => 2
  | 7 => 4
  | 8 => 3
  | _ => 22
def ac_T0 : u_T := fun k => match k with
  | 0 => ("ActorMachine$Actor", "text", "LActorMachine$Text;", true)
  | 1 => ("ActorMachine$Actor", "mailbox", "LActorMachine$Row;", true)
  | 2 => ("ActorMachine$Actor", "status", "I", false)
  | 3 => ("ActorMachine$Actor", "state", "J", false)
  | 4 => ("ActorMachine$Actor", "trapping", "Z", false)
  | 5 => ("ActorMachine$Actor", "links", "I", false)
  | _ => ("ActorMachine$Actor", "reason", "I", false)
def ac_F0 (k : Nat) : FieldType := match k with
  | 0 => .object "ActorMachine$Text"
  | 1 => .object "ActorMachine$Row"
  | 2 => .int
  | 3 => .long
  | 4 => .boolean
  | 5 => .int
  | _ => .int
def ac_T1 : u_T := fun k => match k with
  | 0 => ("ActorMachine$Evaluator", "reader", "LActorMachine$Reader;", true)
  | 1 => ("ActorMachine$Evaluator", "values", "[J", true)
  | 2 => ("ActorMachine$Evaluator", "self", "I", false)
  | _ => ("ActorMachine$Evaluator", "trouble", "I", false)
def ac_F1 (k : Nat) : FieldType := match k with
  | 0 => .object "ActorMachine$Reader"
  | 1 => .array (.long)
  | 2 => .int
  | _ => .int
def ac_T2 : u_T := fun k => match k with
  | _ => ("ActorMachine$Grammar", "reader", "LActorMachine$Reader;", true)
def ac_F2 (k : Nat) : FieldType := match k with
  | _ => .object "ActorMachine$Reader"
def ac_T3 : u_T := fun k => match k with
  | 0 => ("ActorMachine$Reader", "text", "LActorMachine$Text;", false)
  | _ => ("ActorMachine$Reader", "at", "I", false)
def ac_F3 (k : Nat) : FieldType := match k with
  | 0 => .object "ActorMachine$Text"
  | _ => .int
def ac_T4 : u_T := fun k => match k with
  | 0 => ("ActorMachine$Row", "things", "[J", true)
  | _ => ("ActorMachine$Row", "count", "I", false)
def ac_F4 (k : Nat) : FieldType := match k with
  | 0 => .array (.long)
  | _ => .int
def ac_T5 : u_T := fun k => match k with
  | 0 => ("ActorMachine$Stepper", "world", "LActorMachine$World;", true)
  | 1 => ("ActorMachine$Stepper", "evaluator", "LActorMachine$Evaluator;", true)
  | 2 => ("ActorMachine$Stepper", "self", "I", false)
  | 3 => ("ActorMachine$Stepper", "newState", "J", false)
  | _ => ("ActorMachine$Stepper", "reason", "I", false)
def ac_F5 (k : Nat) : FieldType := match k with
  | 0 => .object "ActorMachine$World"
  | 1 => .object "ActorMachine$Evaluator"
  | 2 => .int
  | 3 => .long
  | _ => .int
def ac_T6 : u_T := fun k => match k with
  | 0 => ("ActorMachine$Text", "signs", "[C", true)
  | _ => ("ActorMachine$Text", "length", "I", false)
def ac_F6 (k : Nat) : FieldType := match k with
  | 0 => .array (.char)
  | _ => .int
def ac_T7 : u_T := fun k => match k with
  | 0 => ("ActorMachine$World", "programs", "[LActorMachine$Text;", true)
  | 1 => ("ActorMachine$World", "checked", "[Z", true)
  | 2 => ("ActorMachine$World", "actors", "[LActorMachine$Actor;", true)
  | _ => ("ActorMachine$World", "ways", "[LActorMachine$Row;", true)
def ac_F7 (k : Nat) : FieldType := match k with
  | 0 => .array (.object "ActorMachine$Text")
  | 1 => .array (.boolean)
  | 2 => .array (.object "ActorMachine$Actor")
  | _ => .array (.object "ActorMachine$Row")
def ac_T8 : u_T := fun k => match k with
  | 0 => ("ActorMachine", "world", "LActorMachine$World;", true)
  | 1 => ("ActorMachine", "grammar", "LActorMachine$Grammar;", true)
  | _ => ("ActorMachine", "stepper", "LActorMachine$Stepper;", true)
def ac_F8 (k : Nat) : FieldType := match k with
  | 0 => .object "ActorMachine$World"
  | 1 => .object "ActorMachine$Grammar"
  | _ => .object "ActorMachine$Stepper"
def ac_T9 : u_T := fun k => match k with
  | 0 => ("ActorMachineModel", "text", "[I", true)
  | 1 => ("ActorMachineModel", "length", "[I", true)
  | 2 => ("ActorMachineModel", "checked", "[Z", true)
  | 3 => ("ActorMachineModel", "status", "[I", true)
  | 4 => ("ActorMachineModel", "state", "[J", true)
  | 5 => ("ActorMachineModel", "mail", "[J", true)
  | 6 => ("ActorMachineModel", "mails", "[I", true)
  | 7 => ("ActorMachineModel", "trapping", "[Z", true)
  | 8 => ("ActorMachineModel", "reason", "[I", true)
  | 9 => ("ActorMachineModel", "linked", "[Z", true)
  | 10 => ("ActorMachineModel", "way", "[J", true)
  | 11 => ("ActorMachineModel", "ways", "[I", true)
  | 12 => ("ActorMachineModel", "variable", "[J", true)
  | 13 => ("ActorMachineModel", "open", "[I", true)
  | 14 => ("ActorMachineModel", "second", "[Z", true)
  | 15 => ("ActorMachineModel", "opened", "I", false)
  | 16 => ("ActorMachineModel", "mode", "I", false)
  | 17 => ("ActorMachineModel", "follows", "I", false)
  | 18 => ("ActorMachineModel", "left", "[J", true)
  | 19 => ("ActorMachineModel", "at", "I", false)
  | 20 => ("ActorMachineModel", "wrong", "I", false)
  | _ => ("ActorMachineModel", "code", "I", false)
def ac_F9 (k : Nat) : FieldType := match k with
  | 0 => .array (.int)
  | 1 => .array (.int)
  | 2 => .array (.boolean)
  | 3 => .array (.int)
  | 4 => .array (.long)
  | 5 => .array (.long)
  | 6 => .array (.int)
  | 7 => .array (.boolean)
  | 8 => .array (.int)
  | 9 => .array (.boolean)
  | 10 => .array (.long)
  | 11 => .array (.int)
  | 12 => .array (.long)
  | 13 => .array (.int)
  | 14 => .array (.boolean)
  | 15 => .int
  | 16 => .int
  | 17 => .int
  | 18 => .array (.long)
  | 19 => .int
  | 20 => .int
  | _ => .int
def ac_T (ci : Nat) : u_T := match ci with
  | 0 => ac_T0
  | 1 => ac_T1
  | 2 => ac_T2
  | 3 => ac_T3
  | 4 => ac_T4
  | 5 => ac_T5
  | 6 => ac_T6
  | 7 => ac_T7
  | 8 => ac_T8
  | _ => ac_T9
def ac_F (ci : Nat) : Nat → FieldType := match ci with
  | 0 => ac_F0
  | 1 => ac_F1
  | 2 => ac_F2
  | 3 => ac_F3
  | 4 => ac_F4
  | 5 => ac_F5
  | 6 => ac_F6
  | 7 => ac_F7
  | 8 => ac_F8
  | _ => ac_F9
theorem ac_nm : ∀ ci, ci < 10 → ∀ a, a < ac_N ci → ∀ b, b < ac_N ci → a ≠ b → (ac_T ci a).2.1 ≠ (ac_T ci b).2.1 := by decide +kernel
theorem ac_tok : ∀ ci, ci < 10 → ∀ k, k < ac_N ci → parseFieldDescriptor (ac_T ci k).2.2.1 = some (ac_F ci k) := by decide +kernel
theorem ac_dfok : ∀ ci, ci < 10 → (am_df ci).length = ac_N ci ∧ ∀ k, k < ac_N ci → (am_df ci).getD k .null = defaultValue (ac_F ci k) := by decide +kernel
def ac_ty (kd : Nat) : FieldType := match kd with
  | 10 => .int
  | 11 => .long
  | 12 => .boolean
  | 13 => .char
  | 14 => .object "ActorMachine$Text"
  | 15 => .object "ActorMachine$Actor"
  | _ => .object "ActorMachine$Row"
def ac_E (e : Nat) : String := match e with
  | 0 => "java/lang/IllegalStateException"
  | 1 => "java/lang/IllegalArgumentException"
  | 2 => "java/util/NoSuchElementException"
  | 3 => "java/lang/ArithmeticException"
  | _ => "java/lang/UnsupportedOperationException"
end
section
/-! what the heap holds of the plain memory: 'ad' says where each of its cells lies -/
def ac (ad : Nat → Nat) : Value → Value
  | .ref k => .ref (ad k)
  | v => v
def ac_wf (n : Nat) (v : Value) : Prop := ∀ a, v = .ref a → a < n
def ac_A (base : Nat) : Nat → Prop := fun q => base ≤ q
def ac_ok (D : va_G) (cA : Nat → ClassId) (base : Nat) (ad : Nat → Nat) (U : State) (H : Heap) (k : Nat) (c : aC) : Prop :=
  (c.1 < 10 → c.2.length = ac_N c.1 ∧ am_ro ≤ k ∧ t_OB (ad k) (D.1 c.1) (ac_N c.1) (D.2 c.1) H (fun j => ac ad (c.2.getD j .null))) ∧
  (10 ≤ c.1 → c.1 < 17 ∧ c.2.length < 2 ^ 31 ∧ (am_ro ≤ k → H[ad k]? = some (arrV (cA c.1) c.2.length (fun j => ac ad (c.2.getD j .null)))) ∧ (k < am_ro → va_T (ac_ty c.1) (ad k) c.2.length (fun j => ac ad (c.2.getD j .null)) (ac_A base) U H))
def ac_R (D : va_G) (cA : Nat → ClassId) (base : Nat) (ad : Nat → Nat) (M : aM) (U : State) (H : Heap) : Prop :=
  (∀ (k : Nat) (c : aC), M.1[k]? = some c → ac_ok D cA base ad U H k c) ∧ (∀ i j : Nat, i < M.1.length → j < M.1.length → ad i = ad j → i = j) ∧ (∀ k : Nat, am_ro ≤ k → k < M.1.length → base ≤ ad k) ∧
  (∀ (k : Nat) (c : aC), M.1[k]? = some c → ∀ v ∈ c.2, ac_wf M.1.length v) ∧ base ≤ H.size
/-- classes and array classes as the tables have them -/
def ac_Kn (D : va_G) (U : State) : Prop := ∀ ci, ci < 10 → u_Kn U (ac_C ci) (ac_T ci) (ac_N ci) (D.1 ci) (D.2 ci)
def ac_An (cA : Nat → ClassId) (U : State) : Prop := ∀ kd, 10 ≤ kd → kd < 17 → ArrOfT U (cA kd) (ac_ty kd) ∧ va_RA U (cA kd) (ac_ty kd)
theorem ac_Kn.moved {D : va_G} {u U : State} (hvm : u.vm.Alike U.vm) (h : ac_Kn D u) : ac_Kn D U := fun ci hc => u_Kn_moved hvm (h ci hc)
theorem ac_An.moved {cA : Nat → ClassId} {u U : State} (hvm : u.vm.Alike U.vm) (h : ac_An cA u) : ac_An cA U := fun kd h1 h2 => ⟨arrOfT_moved hvm (h kd h1 h2).1, (h kd h1 h2).2.moved hvm⟩
theorem ac_ok.moved {D : va_G} {cA : Nat → ClassId} {base : Nat} {ad : Nat → Nat} {u U : State} {H : Heap} {k : Nat} {c : aC} (hvm : u.vm.Alike U.vm) (h : ac_ok D cA base ad u H k c) : ac_ok D cA base ad U H k c :=
  ⟨h.1, fun h1 => ⟨(h.2 h1).1, (h.2 h1).2.1, (h.2 h1).2.2.1, fun h2 => ((h.2 h1).2.2.2 h2).moved hvm⟩⟩
theorem ac_R.moved {D : va_G} {cA : Nat → ClassId} {base : Nat} {ad : Nat → Nat} {M : aM} {u U : State} {H : Heap} (hvm : u.vm.Alike U.vm) (h : ac_R D cA base ad M u H) : ac_R D cA base ad M U H :=
  ⟨fun k c hc => (h.1 k c hc).moved hvm, h.2⟩
theorem va_T.sameCell {ty : FieldType} {t N : Nat} {f : Nat → Value} {A : Nat → Prop} {U : State} {H H1 : Heap} (h : va_T ty t N f A U H) (hq : H1[t]? = H[t]?) : va_T ty t N f A U H1 := by
  obtain ⟨cell, h1, h2⟩ := h
  exact ⟨cell, hq.trans h1, h2⟩
theorem ac_ok.kept {D : va_G} {cA : Nat → ClassId} {base : Nat} {ad : Nat → Nat} {U : State} {H H1 : Heap} {k : Nat} {c : aC} (h : ac_ok D cA base ad U H k c) (hq : H1[ad k]? = H[ad k]?) : ac_ok D cA base ad U H1 k c :=
  ⟨fun h1 => ⟨(h.1 h1).1, (h.1 h1).2.1, (h.1 h1).2.2.kept hq⟩, fun h1 => ⟨(h.2 h1).1, (h.2 h1).2.1, fun h2 => hq.trans ((h.2 h1).2.2.1 h2), fun h2 => ((h.2 h1).2.2.2 h2).sameCell hq⟩⟩
theorem ac_ext {ad ad' : Nat → Nat} {n : Nat} {v : Value} (h : ∀ k, k < n → ad' k = ad k) (hv : ac_wf n v) : ac ad' v = ac ad v := by
  cases v with
  | ref a => exact congrArg Value.ref (h a (hv a rfl))
  | _ => rfl
theorem ac_wf_null {n : Nat} : ac_wf n .null := fun a h => nomatch h
theorem ac_wf_int {n : Nat} {x : Int32} : ac_wf n (.int x) := fun a h => nomatch h
theorem ac_wf_long {n : Nat} {x : Int64} : ac_wf n (.long x) := fun a h => nomatch h
theorem ac_wf_ref {n a : Nat} (h : a < n) : ac_wf n (.ref a) := fun b e => by cases e; exact h
theorem ac_wf_le {n n' : Nat} {v : Value} (h : ac_wf n v) (hn : n ≤ n') : ac_wf n' v := fun a e => Nat.lt_of_lt_of_le (h a e) hn
theorem ac_wf_getD {n : Nat} {fs : List Value} (h : ∀ v ∈ fs, ac_wf n v) (j : Nat) : ac_wf n (fs.getD j .null) := by
  rw [List.getD_eq_getElem?_getD]
  cases hj : fs[j]? with
  | none => exact ac_wf_null
  | some v => exact h v (List.mem_of_getElem? hj)
theorem ac_ok.ext {D : va_G} {cA : Nat → ClassId} {base : Nat} {ad ad' : Nat → Nat} {U : State} {H : Heap} {k n : Nat} {c : aC} (h : ac_ok D cA base ad U H k c) (he : ∀ k, k < n → ad' k = ad k) (hk : k < n) (hv : ∀ v ∈ c.2, ac_wf n v) : ac_ok D cA base ad' U H k c := by
  have hf : (fun j => ac ad' (c.2.getD j .null)) = (fun j => ac ad (c.2.getD j .null)) := funext fun j => ac_ext he (ac_wf_getD hv j)
  unfold ac_ok
  rw [he k hk, hf]
  exact h
theorem ac_ok.lt {D : va_G} {cA : Nat → ClassId} {base : Nat} {ad : Nat → Nat} {U : State} {H : Heap} {k : Nat} {c : aC} (h : ac_ok D cA base ad U H k c) : ad k < H.size := by
  by_cases h1 : c.1 < 10
  · obtain ⟨-, -, cell, h2, -⟩ := h.1 h1
    exact (Array.getElem?_eq_some_iff.mp h2).1
  · obtain ⟨-, -, h2, h3⟩ := h.2 (Nat.not_lt.mp h1)
    by_cases h4 : am_ro ≤ k
    · exact (Array.getElem?_eq_some_iff.mp (h2 h4)).1
    · obtain ⟨cell, h5, -⟩ := h3 (Nat.not_le.mp h4)
      exact (Array.getElem?_eq_some_iff.mp h5).1
theorem ac_R.lt {D : va_G} {cA : Nat → ClassId} {base : Nat} {ad : Nat → Nat} {M : aM} {U : State} {H : Heap} (h : ac_R D cA base ad M U H) {k : Nat} (hk : k < M.1.length) : ad k < H.size := (h.1 k _ (List.getElem?_eq_getElem hk)).lt
theorem am_rd_iff {M : aM} {a ci k : Nat} {v : Value} : am_rd M a ci k = some v ↔ ∃ fs, M.1[a]? = some (ci, fs) ∧ fs[k]? = some v := by
  unfold am_rd
  constructor
  · intro h
    cases hc : M.1[a]? with
    | none => rw [hc] at h; exact nomatch h
    | some c =>
      obtain ⟨c1, fs⟩ := c
      rw [hc] at h
      have g : (bif Nat.beq c1 ci then fs[k]? else none) = some v := h
      cases hb : Nat.beq c1 ci with
      | false => rw [hb] at g; exact nomatch g
      | true =>
        rw [hb] at g
        have := Nat.eq_of_beq_eq_true hb
        subst this
        exact ⟨fs, rfl, g⟩
  · rintro ⟨fs, h1, h2⟩
    rw [h1]
    show (bif Nat.beq ci ci then fs[k]? else none) = some v
    rw [Nat.beq_refl]
    exact h2
theorem am_ln_iff {M : aM} {a ci n : Nat} : am_ln M a ci = some n ↔ ∃ fs, M.1[a]? = some (ci, fs) ∧ fs.length = n := by
  unfold am_ln
  constructor
  · intro h
    cases hc : M.1[a]? with
    | none => rw [hc] at h; exact nomatch h
    | some c =>
      obtain ⟨c1, fs⟩ := c
      rw [hc] at h
      have g : (bif Nat.beq c1 ci then some fs.length else none) = some n := h
      cases hb : Nat.beq c1 ci with
      | false => rw [hb] at g; exact nomatch g
      | true =>
        rw [hb] at g
        have := Nat.eq_of_beq_eq_true hb
        subst this
        exact ⟨fs, rfl, Option.some.inj g⟩
  · rintro ⟨fs, h1, h2⟩
    rw [h1]
    show (bif Nat.beq ci ci then some fs.length else none) = some n
    rw [Nat.beq_refl, h2]
    rfl
theorem am_wr_iff {M M' : aM} {a ci k : Nat} {v : Value} : am_wr M a ci k v = some M' ↔ ∃ fs, M.1[a]? = some (ci, fs) ∧ am_ro ≤ a ∧ k < fs.length ∧ M' = (M.1.set a (ci, fs.set k v), M.2) := by
  unfold am_wr
  constructor
  · intro h
    cases hc : M.1[a]? with
    | none => rw [hc] at h; exact nomatch h
    | some c =>
      obtain ⟨c1, fs⟩ := c
      rw [hc] at h
      have g : (bif Nat.beq c1 ci && (Nat.ble am_ro a && Nat.blt k fs.length) then some (M.1.set a (c1, fs.set k v), M.2) else none) = some M' := h
      cases hb : (Nat.beq c1 ci && (Nat.ble am_ro a && Nat.blt k fs.length)) with
      | false => rw [hb] at g; exact nomatch g
      | true =>
        rw [hb] at g
        simp only [Bool.and_eq_true] at hb
        have h1 := Nat.eq_of_beq_eq_true hb.1
        subst h1
        exact ⟨fs, rfl, Nat.le_of_ble_eq_true hb.2.1, Nat.le_of_ble_eq_true hb.2.2, (Option.some.inj g).symm⟩
  · rintro ⟨fs, h1, h2, h3, rfl⟩
    rw [h1]
    show (bif Nat.beq ci ci && (Nat.ble am_ro a && Nat.blt k fs.length) then some (M.1.set a (ci, fs.set k v), M.2) else none) = _
    have e1 : Nat.blt k fs.length = true := Nat.ble_eq_true_of_le h3
    rw [Nat.beq_refl, Nat.ble_eq_true_of_le h2, e1]
    rfl
theorem am_getD {fs : List Value} {k : Nat} {v : Value} (h : fs[k]? = some v) : fs.getD k .null = v := by
  rw [List.getD_eq_getElem?_getD, h]; rfl
section
variable {D : va_G} {cA : Nat → ClassId} {base : Nat} {ad : Nat → Nat} {M : aM} {U : State} {H : Heap}
theorem ac_rdo (hR : ac_R D cA base ad M U H) {a ci k : Nat} {v : Value} (h : am_rd M a ci k = some v) (hc : ci < 10) :
    ∃ cell, H[ad a]? = some cell ∧ cell.cls = D.1 ci ∧ cell.vm = .none ∧ k < ac_N ci ∧ cell.slots[D.2 ci k]? = some (ac ad v) ∧ ac_wf M.1.length v ∧ a < M.1.length := by
  obtain ⟨fs, h1, h2⟩ := am_rd_iff.mp h
  obtain ⟨hl, -, cell, q1, q2, q3, q4⟩ := (hR.1 a _ h1).1 hc
  have hk : k < ac_N ci := by rw [← hl]; exact (List.getElem?_eq_some_iff.mp h2).1
  refine ⟨cell, q1, q2, q3, hk, ?_, hR.2.2.2.1 a _ h1 v (List.mem_of_getElem? h2), (List.getElem?_eq_some_iff.mp h1).1⟩
  rw [q4 k hk]
  show some (ac ad (fs.getD k .null)) = _
  rw [am_getD h2]
theorem ac_arr (hR : ac_R D cA base ad M U H) (hA : ac_An cA U) {a kd : Nat} {fs : List Value} (h1 : M.1[a]? = some (kd, fs)) (hc : 10 ≤ kd) :
    ∃ cell, H[ad a]? = some cell ∧ U.isArrayOf cell (ac_ty kd) ∧ cell.vm ≠ .unknown ∧ fs.length ≤ cell.slots.size ∧ cell.slots.size.toInt32 = Int32.ofNat fs.length ∧ ∀ j, j < fs.length → cell.slots[j]? = some (ac ad (fs.getD j .null)) := by
  obtain ⟨h17, hl, h2, h3⟩ := (hR.1 a _ h1).2 hc
  by_cases h4 : am_ro ≤ a
  · refine ⟨_, h2 h4, (hA kd hc h17).1 _ _, (fun q => by cases q), ?_, ?_, fun j hj => ?_⟩
    · rw [arrV_size]; exact Nat.le_refl _
    · rw [arrV_size]
    · rw [arrV_read _ _ hj]
  · obtain ⟨cell, g1, g2, g3, g4, g5, g6, -⟩ := h3 (Nat.not_le.mp h4)
    exact ⟨cell, g1, g2, g3, g4, g5, g6⟩
theorem ac_rda (hR : ac_R D cA base ad M U H) (hA : ac_An cA U) {a kd k : Nat} {v : Value} (h : am_rd M a kd k = some v) (hc : 10 ≤ kd) :
    ∃ cell, H[ad a]? = some cell ∧ U.isArrayOf cell (ac_ty kd) ∧ cell.vm ≠ .unknown ∧ k < cell.slots.size ∧ cell.slots[k]? = some (ac ad v) ∧ ac_wf M.1.length v := by
  obtain ⟨fs, h1, h2⟩ := am_rd_iff.mp h
  obtain ⟨cell, g1, g2, g3, g4, -, g6⟩ := ac_arr hR hA h1 hc
  have hk := (List.getElem?_eq_some_iff.mp h2).1
  refine ⟨cell, g1, g2, g3, Nat.lt_of_lt_of_le hk g4, ?_, hR.2.2.2.1 a _ h1 v (List.mem_of_getElem? h2)⟩
  rw [g6 k hk, am_getD h2]
/-- one cell is replaced -/
theorem ac_R.set (hR : ac_R D cA base ad M U H) {a ci : Nat} {fs fs' : List Value} (ha : M.1[a]? = some (ci, fs)) (hv : ∀ v ∈ fs', ac_wf M.1.length v) {H' : Heap} (hsz : H'.size = H.size) (ho : ∀ q, q ≠ ad a → H'[q]? = H[q]?)
    (hn : ac_ok D cA base ad U H' a (ci, fs')) : ac_R D cA base ad (M.1.set a (ci, fs'), M.2) U H' := by
  obtain ⟨r1, r2, r3, r4, r5⟩ := hR
  have hal : a < M.1.length := (List.getElem?_eq_some_iff.mp ha).1
  have hl : (M.1.set a (ci, fs')).length = M.1.length := List.length_set
  refine ⟨fun k c hc => ?_, ?_, ?_, fun k c hc => ?_, by rw [hsz]; exact r5⟩
  · have hc : (M.1.set a (ci, fs'))[k]? = some c := hc
    rw [List.getElem?_set] at hc
    by_cases e : a = k
    · subst e
      rw [if_pos rfl, if_pos hal] at hc
      cases hc
      exact hn
    · rw [if_neg e] at hc
      have hk := (List.getElem?_eq_some_iff.mp hc).1
      exact (r1 k c hc).kept (ho _ (fun q => e (r2 k a hk hal q).symm))
  · show ∀ i j, i < (M.1.set a (ci, fs')).length → j < (M.1.set a (ci, fs')).length → _
    rw [hl]; exact r2
  · show ∀ k, am_ro ≤ k → k < (M.1.set a (ci, fs')).length → _
    rw [hl]; exact r3
  · have hc : (M.1.set a (ci, fs'))[k]? = some c := hc
    show ∀ v ∈ c.2, ac_wf (M.1.set a (ci, fs')).length v
    rw [hl]
    rw [List.getElem?_set] at hc
    by_cases e : a = k
    · subst e
      rw [if_pos rfl, if_pos hal] at hc
      cases hc
      exact hv
    · rw [if_neg e] at hc
      exact r4 k c hc
/-- one cell is made -/
theorem ac_R.push (hR : ac_R D cA base ad M U H) {ad' : Nat → Nat} (he : ∀ k, k < M.1.length → ad' k = ad k) (hq : ad' M.1.length = H.size) {c : aC} (hv : ∀ v ∈ c.2, ac_wf M.1.length v) {cell : Cell} {x : Nat × Nat}
    (hn : ac_ok D cA base ad' U (H.push cell) M.1.length c) : ac_R D cA base ad' (M.1 ++ [c], x) U (H.push cell) := by
  obtain ⟨r1, r2, r3, r4, r5⟩ := id hR
  have hl : (M.1 ++ [c]).length = M.1.length + 1 := by simp
  refine ⟨fun k d hd => ?_, fun i j hi hj e => ?_, fun k h1 h2 => ?_, fun k d hd => ?_, by rw [Array.size_push]; omega⟩
  · have hd : (M.1 ++ [c])[k]? = some d := hd
    by_cases e : k < M.1.length
    · rw [List.getElem?_append_left e] at hd
      refine ((r1 k d hd).ext he e (r4 k d hd)).kept ?_
      have := hR.lt e
      rw [he k e, Array.getElem?_push_lt this, Array.getElem?_eq_getElem this]
    · have hk : k = M.1.length := by
        have := (List.getElem?_eq_some_iff.mp hd).1
        omega
      subst hk
      have : d = c := by simpa using hd.symm
      subst this
      exact hn
  · have hi : i < (M.1 ++ [c]).length := hi
    have hj : j < (M.1 ++ [c]).length := hj
    rw [hl] at hi hj
    by_cases e1 : i < M.1.length <;> by_cases e2 : j < M.1.length
    · rw [he i e1, he j e2] at e
      exact r2 i j e1 e2 e
    · have : j = M.1.length := by omega
      subst this
      rw [he i e1, hq] at e
      have := hR.lt e1
      omega
    · have : i = M.1.length := by omega
      subst this
      rw [he j e2, hq] at e
      have := hR.lt e2
      omega
    · omega
  · have h2 : k < (M.1 ++ [c]).length := h2
    rw [hl] at h2
    by_cases e1 : k < M.1.length
    · rw [he k e1]; exact r3 k h1 e1
    · have : k = M.1.length := by omega
      subst this
      rw [hq]; exact r5
  · have hd : (M.1 ++ [c])[k]? = some d := hd
    show ∀ v ∈ d.2, ac_wf (M.1 ++ [c]).length v
    rw [hl]
    intro v hv'
    by_cases e : k < M.1.length
    · rw [List.getElem?_append_left e] at hd
      exact ac_wf_le (r4 k d hd v hv') (Nat.le_succ _)
    · have hk : k = M.1.length := by
        have := (List.getElem?_eq_some_iff.mp hd).1
        omega
      subst hk
      have : d = c := by simpa using hd.symm
      subst this
      exact ac_wf_le (hv v hv') (Nat.le_succ _)
end
end
section
/-! ===== BEGIN words of one list among another's, by their places ===== -/
theorem goodIn_r {big : List Cond} (ws : List Cond) (ps : List Nat) (hp : ws = ps.filterMap (fun i => big[i]?)) (h : ws.all goodWord = true) : GoodIn big ws := by
  intro w hw
  have h1 := List.all_eq_true.mp h w hw
  rw [hp] at hw
  obtain ⟨i, -, hi⟩ := List.mem_filterMap.mp hw
  have hm : w ∈ big := by first | exact List.mem_of_getElem? hi | exact List.getElem?_mem hi
  exact ⟨hm, good_of_word h1⟩
theorem goodIn_app {big a b : List Cond} (ha : GoodIn big a) (hb : GoodIn big b) : GoodIn big (a ++ b) := fun w h => (List.mem_append.mp h).elim (ha w) (hb w)
theorem goodIn_ca {big a b : List Cond} {c : Cond} (ha : GoodIn big (c :: a)) (hb : GoodIn big b) : GoodIn big (c :: (a ++ b)) := fun w h => (List.mem_cons.mp h).elim (fun e => ha w (List.mem_cons.mpr (Or.inl e))) (fun h => (List.mem_append.mp h).elim (fun h => ha w (List.mem_cons.mpr (Or.inr h))) (hb w))
theorem goodIn_sub {big ws : List Cond} (hm : ∀ w ∈ ws, w ∈ big) (h : ws.all goodWord = true) : GoodIn big ws := fun w hw => ⟨hm w hw, good_of_word (List.all_eq_true.mp h w hw)⟩
/-! ===== END ===== -/

/-! ===== BEGIN exceptions that leave a method, and their catching by the caller (launches without stack traces) ===== -/
section VXA
/-! The laws vx_back, vx_callV, vx_callS, vx_callSW, vx_throw0, vx_throwS follow proofs of the library, with one case more: JvmDerived/Free/Laws.lean (Back.of_free), Shelf42/LK1.lean (callV, callS), Shelf/KitTraced.lean (throwNew0V, throwNewS). -/
/-- where a method has thrown q: the class by its name, the cell, what was written, the world -/
def vx_T (XC : String → State → State → Prop) (st : State) (q : Addr) (t : State) (mc ms : Nat) (free : Addr → Prop) : Prop :=
  ∃ (E : String) (ce : Cell) (L : List Loc), XC E st t ∧ t.heap[q]? = some ce ∧ ce.vm = .none ∧ st.vm.findClass E = some ce.cls ∧ st.WarmedH t.vm ∧ st.sameButNew ({ t with vm := st.vm } : State) L mc ms ∧ ∀ z ∈ L, free z.base
def vx_Q (Qc : Array Value → State → Outcome → State → Prop) (XC : String → State → State → Prop) (mc ms : Nat) (free : Addr → Prop) : Array Value → State → Outcome → State → Prop := fun a st o t =>
  (Qc a st o t ∧ ∃ L, FrameEnd st o t L mc ms ∧ ∀ q ∈ L, free q.base) ∨ ∃ q, o = .threw q ∧ vx_T XC st q t mc ms free
/-- a callee that returns or throws -/
def vx_Met (l : Launch) (y : MethodName) (ws : List Cond) (rm : Room) (Pc : Array Value → State → Prop) (Qc : Array Value → State → Outcome → State → Prop) (XC : String → State → State → Prop) (mc ms : Nat) (free : Addr → Prop) : Prop :=
  MetFree l y (headSpec ws rm) Pc (fun _ _ _ _ _ => True) (vx_Q Qc XC mc ms free)
def vx_Post (XC : String → State → State → Prop) (mc ms : Nat) (free : Addr → Prop) : Pt → Array Value → Addr → Pt → Prop := fun A a q B =>
  ∃ (g : JFrame) (mk : MethodId) (t : State) (L : List Loc) (E : String) (ce : Cell), B.U.heap = t.heap ∧ B.U.vm = t.vm ∧ XC E (A.U.calling g mk a) t ∧ t.heap[q]? = some ce ∧ ce.vm = .none ∧ A.U.vm.findClass E = some ce.cls ∧ B.locs = A.locs ++ L ∧ (∀ z ∈ L, free z.base) ∧ B.cells = A.cells + mc ∧ B.slots = A.slots + ms
def vx_Back (l : Launch) (R : Room) (p : Program) (e : Env) (below : List Frame) (s : State) (sargs : Array Value) (y : MethodName) (len W9 : Nat)
    (Pre : Pt → Array Value → Prop) (Post : Pt → Array Value → Option Value → Pt → Prop) (PostX : Pt → Array Value → Addr → Pt → Prop) : Prop :=
  ∀ (m : MethodId) (meth : Method) (c : Code) (A : Pt) (g : JFrame) (ig : Instr) (mk : MethodId) (a : Array Value),
    Stand p l e R s m sargs below meth c A.U A.locs A.cells A.slots → g.method = m → g.locals.size = c.maxLocals → decode c.code g.pc = .ok (ig, len) →
    2 * g.monitorRoom + (g.stack.map fun v => v.category).sum ≤ W9 → A.U.methodNamed? y = some mk → Pre A a →
    (∃ (v : Option Value) (B : Pt), Stand p l e R s m sargs below meth c B.U B.locs B.cells B.slots ∧ Post A a v B ∧
      Steps p.tables e below (doInvoke e (A.U.setTop g) [] mk a).1 (B.U.setTop { g with pc := g.pc + len, stack := v.toList ++ g.stack })) ∨
    (∃ (q : Addr) (B : Pt), Stand p l e R s m sargs below meth c B.U B.locs B.cells B.slots ∧ PostX A a q B ∧
      Steps p.tables e below (doInvoke e (A.U.setTop g) [] mk a).1 ((B.U.setTop g).pushFrame (.throwing q)))
section Payer
variable {l : Launch} {R : Room} {p : Program} {e : Env} {below : List Frame} {s : State} {sargs : Array Value} {y : MethodName} {len W9 : Nat}
theorem vx_back {ws : List Cond} {rm : Room} {Pc : Array Value → State → Prop} {Qc : Array Value → State → Outcome → State → Prop} {XC : String → State → State → Prop} {mc ms : Nat} {free : Addr → Prop} {bytes : ByteArray} {maxL : Nat} {ret : Option FieldType}
    (hM : vx_Met l y ws rm Pc Qc XC mc ms free) (hblind : FrameBlind Pc) (hrc : rm.cells = mc) (hrs : rm.slots = ms)
    (hframes : rm.frames + 1 ≤ R.frames) (hlocals : W9 + (maxL + 11) + rm.locals ≤ R.locals)
    (hws : ∀ w ∈ ws, ∀ a' U, s.WarmedH U.vm → w.before a' U = true) (hcode : Cond.code y bytes maxL ret ∈ ws) (hinit : ∀ a' U, s.WarmedH U.vm → (Cond.initialized y.cls).before a' U = true) :
    vx_Back l R p e below s sargs y len W9 (PreOf R mc ms Pc) (PostOf Qc mc ms free) (vx_Post XC mc ms free) := by
  intro m meth c A g ig mk a X hg hsize hdg hW hn hp
  have h1 : (headSpec ws rm).pre.before a A.U = true := atoms_intro fun w hw => hws w hw _ _ X.warmed
  have h2 : (Cond.code y bytes maxL ret).before a A.U = true := hws _ hcode _ _ X.warmed
  have h3 : (Cond.initialized y.cls).before a A.U = true := hinit _ _ X.warmed
  have h4 : A.cells + (headSpec ws rm).room.cells ≤ R.cells := by rw [show (headSpec ws rm).room.cells = mc from hrc]; exact hp.1
  have h5 : A.slots + (headSpec ws rm).room.slots ≤ R.slots := by rw [show (headSpec ws rm).room.slots = ms from hrs]; exact hp.2.1
  have hPc : Pc a (A.U.calling g mk a) := hblind _ _ _ _ hp.2.2
  obtain ⟨U, Ls, c0, s0⟩ := A
  dsimp only [Pt.U, Pt.locs, Pt.cells, Pt.slots] at h1 h2 h3 h4 h5 X hn hPc ⊢
  obtain ⟨methY, cY, hmY, hcY, -, hlY, -, -, -, -⟩ := Cond.code_spec hn h2
  obtain ⟨kY, hkY, -⟩ := className_of_methodNamed hn
  have hinitY : kY.init = .initialized := Cond.initialized_spec (findClass_of_methodNamed hn) hkY h3
  have h : At U g.method c below := by rw [hg]; exact X.here
  have hlocals9 : W9 + (maxL + 11) + (headSpec ws rm).room.locals ≤ R.locals := hlocals
  have happ : (headSpec ws rm).appliesLoose y e.platform (U.calling g mk a) = true :=
    Spec.appliesLoose_calling (g := g) h hdg hn hkY hinitY
      (X.room_calling (g := g) (R' := (headSpec ws rm).room) hsize hmY hcY hframes (by rw [hlY]; omega) h4 h5) h1
  obtain ⟨mid, hmid⟩ := h.above
  have hfr : (U.setTop g).frames = (.java g :: mid) ++ below := by rw [State.frames_setTop' g h.top, hmid]; rfl
  obtain ⟨o, s₂, hsteps, -, hend, hq⟩ := Steps.callFree hM p X.admits X.cas X.clock (acts := []) hfr happ hPc trivial
  have hq' : vx_Q Qc XC mc ms free a (U.calling g mk a) o s₂ := hq
  rw [State.frames_setTop' g h.top] at hend
  obtain ⟨g₀, hg0⟩ := Option.isSome_iff_exists.mp h.top
  obtain ⟨r, hr⟩ := State.topJava?_eq_some.mp hg0
  have hr' : (({ U with heap := s₂.heap, slotsUsed := s₂.slotsUsed } : State).setVm s₂.vm).frames = .java g₀ :: r := hr
  rcases hq' with ⟨hqc, L, hfe, hL⟩ | ⟨q, rfl, E, ce, L, hx, hce, hcv, hcl, hW₂, hsm, hL⟩
  · obtain ⟨⟨v, rfl⟩, hW₂, e2, q2, q3, q4, q5, q6⟩ := id hfe
    have e3 : s₂ = ({ (U.calling g mk a).setFrames s₂.frames with heap := s₂.heap, slotsUsed := s₂.slotsUsed } : State).setVm s₂.vm := by
      have : s₂ = ({ s₂ with vm := (U.calling g mk a).vm } : State).setVm s₂.vm := rfl
      rw [e2] at this
      exact this
    obtain ⟨c₂, i₂, len₂, hc₂, hd₂, hf₂⟩ := hend
    have hW' : U.WarmedH s₂.vm := hW₂
    have hcc : c₂ = c := by
      have h1 : s₂.code? g.method = U.code? g.method := by
        rw [State.code?_eq, State.code?_eq, hW'.alike.method?]
      exact Option.some.inj (hc₂.symm.trans (h1.trans h.code))
    subst hcc
    have hlen : len₂ = len := by rw [hdg] at hd₂; cases hd₂; rfl
    subst hlen
    have hs₂ : s₂ = (({ U with heap := s₂.heap, slotsUsed := s₂.slotsUsed } : State).setVm s₂.vm).setTop { g with pc := g.pc + len₂, stack := v.toList ++ g.stack } := by
      refine e3.trans ?_
      rw [hf₂, State.calling_eq h.top, State.setFrames_setFrames, State.setTop_of_frames _ hr', hr]
      rfl
    have hsame : U.sameButNew ({ U with heap := s₂.heap, slotsUsed := s₂.slotsUsed } : State) L mc ms := by
      refine ⟨?_, q2, q3, q4, q5, q6⟩
      obtain ⟨t, ht, -⟩ := State.frames_cons hr
      show ({ U with heap := s₂.heap, slotsUsed := s₂.slotsUsed } : State) = { U.setFrames U.frames with heap := s₂.heap, slotsUsed := s₂.slotsUsed }
      rw [State.setFrames_self ht]
    subst hg
    refine Or.inl ⟨v, ⟨(({ U with heap := s₂.heap, slotsUsed := s₂.slotsUsed } : State).setVm s₂.vm), Ls ++ L, c0 + mc, s0 + ms⟩,
      ⟨X.admits, X.cas, X.clock, X.frames, X.room, X.hears, X.method, X.code, (X.here.setHeapUsed s₂.heap s₂.slotsUsed).setVm hW'.alike, X.tail, State.WarmedH.trans X.warmed hW', X.limits, X.bytes, X.same.trans (hsame.setVm s.vm)⟩,
      ⟨g, mk, s₂, L, rfl, rfl, hqc, rfl, hL, rfl, rfl⟩, ?_⟩
    show Steps p.tables e below _ ((({ U with heap := s₂.heap, slotsUsed := s₂.slotsUsed } : State).setVm s₂.vm).setTop { g with pc := g.pc + len₂, stack := v.toList ++ g.stack })
    rw [← hs₂]
    exact hsteps
  · obtain ⟨e2, q2, q3, q4, q5, q6⟩ := id hsm
    have e3 : s₂ = ({ (U.calling g mk a).setFrames s₂.frames with heap := s₂.heap, slotsUsed := s₂.slotsUsed } : State).setVm s₂.vm := by
      have : s₂ = ({ s₂ with vm := (U.calling g mk a).vm } : State).setVm s₂.vm := rfl
      rw [e2] at this
      exact this
    have hf₂ : s₂.frames = .throwing q :: .java g :: U.frames.tail := hend
    have hW' : U.WarmedH s₂.vm := hW₂
    have hs₂ : s₂ = ((({ U with heap := s₂.heap, slotsUsed := s₂.slotsUsed } : State).setVm s₂.vm).setTop g).pushFrame (.throwing q) := by
      refine e3.trans ?_
      rw [hf₂, State.calling_eq h.top, State.setFrames_setFrames, State.pushFrame, State.frames_setTop _ hr', State.setTop_of_frames _ hr', State.setFrames_setFrames, hr]
      rfl
    have hsame : U.sameButNew ({ U with heap := s₂.heap, slotsUsed := s₂.slotsUsed } : State) L mc ms := by
      refine ⟨?_, q2, q3, q4, q5, q6⟩
      obtain ⟨t, ht, -⟩ := State.frames_cons hr
      show ({ U with heap := s₂.heap, slotsUsed := s₂.slotsUsed } : State) = { U.setFrames U.frames with heap := s₂.heap, slotsUsed := s₂.slotsUsed }
      rw [State.setFrames_self ht]
    subst hg
    refine Or.inr ⟨q, ⟨(({ U with heap := s₂.heap, slotsUsed := s₂.slotsUsed } : State).setVm s₂.vm), Ls ++ L, c0 + mc, s0 + ms⟩,
      ⟨X.admits, X.cas, X.clock, X.frames, X.room, X.hears, X.method, X.code, (X.here.setHeapUsed s₂.heap s₂.slotsUsed).setVm hW'.alike, X.tail, State.WarmedH.trans X.warmed hW', X.limits, X.bytes, X.same.trans (hsame.setVm s.vm)⟩,
      ⟨g, mk, s₂, L, E, ce, rfl, rfl, hx, hce, hcv, hcl, rfl, hL, rfl, rfl⟩, ?_⟩
    show Steps p.tables e below _ (((({ U with heap := s₂.heap, slotsUsed := s₂.slotsUsed } : State).setVm s₂.vm).setTop g).pushFrame (.throwing q))
    rw [← hs₂]
    exact hsteps
end Payer
section Calls
variable {p : Program} {l : Launch} {e : Env} {R : Room} {s : State} {m : MethodId} {args : Array Value} {below : List Frame} {meth : Method} {c : Code} {T : State} {locs : List Loc} {cells slots : Nat}
theorem vx_callV (X : Stand p l e R s m args below meth c T locs cells slots) (hexec : p.tables.exec = Jvm.exec) {own C : String} {index : Nat} {y : MethodName} {bytes : ByteArray} {maxL : Nat} {ret : Option FieldType}
    (hown : s.vm.findClass own = some m.cls) (hlink : (Cond.methodLink own index y).before args s = true) (hinst : (Cond.instanceMethod y).before args s = true) (hsel : (Cond.selects C y y).before args s = true)
    (hcode : (Cond.code y bytes maxL ret).before args s = true) (hy : y.cls ≠ "java/lang/invoke/MethodHandle" ∧ y.cls ≠ "java/lang/invoke/VarHandle")
    {W9 : Nat} {Pre : Pt → Array Value → Prop} {Post : Pt → Array Value → Option Value → Pt → Prop} {PostX : Pt → Array Value → Addr → Pt → Prop} (hK : vx_Back l R p e below s args y 3 W9 Pre Post PostX)
    {b : Addr} {cellB : Cell} (hcell : T.heap[b]? = some cellB) (hobj : cellB.vm.isStatics = false) (hcls : s.vm.findClass C = some cellB.cls)
    {g : JFrame} (hg : g.method = m) (hsize : g.locals.size = c.maxLocals) {argsL rest : List Value} (hlen : ∀ sig, parseMethodDescriptor y.desc = some sig → argsL.length = sig.parameters.length)
    (hstack : g.stack = argsL.reverse ++ .ref b :: rest) (hW : 2 * g.monitorRoom + (rest.map fun v => v.category).sum ≤ W9) (hdg : decode c.code g.pc = .ok (.invokevirtual index, 3))
    (hpre : ∀ vm₁, s.WarmedH vm₁ → Pre ⟨T.setVm vm₁, locs, cells, slots⟩ (Value.ref b :: argsL).toArray) :
    (∃ (v : Option Value) (vm₁ : Vm) (B : Pt), s.WarmedH vm₁ ∧ Stand p l e R s m args below meth c B.U B.locs B.cells B.slots ∧ Post ⟨T.setVm vm₁, locs, cells, slots⟩ (Value.ref b :: argsL).toArray v B ∧
      ∀ target, Steps p.tables e below (B.U.setTop { g with pc := g.pc + 3, stack := v.toList ++ rest }) target → Steps p.tables e below (T.setTop g) target) ∨
    (∃ (q : Addr) (vm₁ : Vm) (B : Pt), s.WarmedH vm₁ ∧ Stand p l e R s m args below meth c B.U B.locs B.cells B.slots ∧ PostX ⟨T.setVm vm₁, locs, cells, slots⟩ (Value.ref b :: argsL).toArray q B ∧
      Steps p.tables e below (T.setTop g) ((B.U.setTop { g with stack := rest }).pushFrame (.throwing q))) := by
  obtain ⟨mk, methM, hnamed, hmethM, hstM, habM⟩ := Cond.instanceMethod_spec hinst
  obtain ⟨methM', cM, hmethM', -, -, -, -, -, -, hsigM⟩ := Cond.code_spec hnamed hcode
  cases hmethM.symm.trans hmethM'
  obtain ⟨c2, r2, m2, q1, q2, q3, q4, kP, hkP, hkPi⟩ := Cond.selects_spec hsel
  cases hcls.symm.trans q1
  cases (State.methodFound?_of_named hnamed hy).symm.trans q2
  cases hnamed.symm.trans q3
  have hselP : selectMethod e.platform s.vm cellB.cls mk = .method mk := by rw [Launch.admits_selectMethod X.admits]; exact q4
  obtain ⟨vm₁, X₁, hstep₁⟩ := X.invokevirtual hexec hown hlink hnamed hmethM hstM hkP hkPi hy (a := b) (cell := cellB) hcell
    (fun z h => by rw [h] at hobj; cases hobj) hselP hmethM habM hkP hkPi (g := g) hg (argsL := argsL) (rest := rest) (hlen _ hsigM) hstack hdg
  rcases hK m meth c ⟨T.setVm vm₁, locs, cells, slots⟩ { g with stack := rest } (.invokevirtual index) mk (Value.ref b :: argsL).toArray X₁ hg hsize hdg hW (X₁.named hnamed) (hpre vm₁ X₁.warmed) with ⟨v, B, X', hpost, hsteps⟩ | ⟨q, B, X', hpost, hsteps⟩
  · exact Or.inl ⟨v, vm₁, B, X₁.warmed, X', hpost, fun target h => hstep₁ _ fun acts => by rw [doInvoke_state]; exact hsteps.trans h⟩
  · exact Or.inr ⟨q, vm₁, B, X₁.warmed, X', hpost, hstep₁ _ fun acts => by rw [doInvoke_state]; exact hsteps⟩
theorem vx_callS (X : Stand p l e R s m args below meth c T locs cells slots) (hexec : p.tables.exec = Jvm.exec) {own : String} {index : Nat} {y : MethodName} {bytes : ByteArray} {maxL : Nat} {ret : Option FieldType}
    (hown : s.vm.findClass own = some m.cls) (hlink : (Cond.methodLink own index y).before args s = true) (hstat : (Cond.static y).before args s = true) (hinit : (Cond.initialized y.cls).before args s = true)
    (hcode : (Cond.code y bytes maxL ret).before args s = true) (hy : y.cls ≠ "java/lang/invoke/MethodHandle" ∧ y.cls ≠ "java/lang/invoke/VarHandle")
    {W9 : Nat} {Pre : Pt → Array Value → Prop} {Post : Pt → Array Value → Option Value → Pt → Prop} {PostX : Pt → Array Value → Addr → Pt → Prop} (hK : vx_Back l R p e below s args y 3 W9 Pre Post PostX)
    {g : JFrame} (hg : g.method = m) (hsize : g.locals.size = c.maxLocals) {argsL rest : List Value} (hlen : ∀ sig, parseMethodDescriptor y.desc = some sig → argsL.length = sig.parameters.length)
    (hstack : g.stack = argsL.reverse ++ rest) (hW : 2 * g.monitorRoom + (rest.map fun v => v.category).sum ≤ W9) (hdg : decode c.code g.pc = .ok (.invokestatic index, 3))
    (hpre : ∀ vm₁, s.WarmedH vm₁ → Pre ⟨T.setVm vm₁, locs, cells, slots⟩ argsL.toArray) :
    (∃ (v : Option Value) (vm₁ : Vm) (B : Pt), s.WarmedH vm₁ ∧ Stand p l e R s m args below meth c B.U B.locs B.cells B.slots ∧ Post ⟨T.setVm vm₁, locs, cells, slots⟩ argsL.toArray v B ∧
      ∀ target, Steps p.tables e below (B.U.setTop { g with pc := g.pc + 3, stack := v.toList ++ rest }) target → Steps p.tables e below (T.setTop g) target) ∨
    (∃ (q : Addr) (vm₁ : Vm) (B : Pt), s.WarmedH vm₁ ∧ Stand p l e R s m args below meth c B.U B.locs B.cells B.slots ∧ PostX ⟨T.setVm vm₁, locs, cells, slots⟩ argsL.toArray q B ∧
      Steps p.tables e below (T.setTop g) ((B.U.setTop { g with stack := rest }).pushFrame (.throwing q))) := by
  obtain ⟨mk, hnamed⟩ := Cond.code_named hcode
  obtain ⟨methM, cM, hmethM, -, -, -, -, -, -, hsigM⟩ := Cond.code_spec hnamed hcode
  have hstatic : methM.isStatic = true := Cond.static_spec hnamed hmethM hstat
  obtain ⟨kP, hkP, -⟩ := className_of_methodNamed hnamed
  have hinitP : kP.init = .initialized := Cond.initialized_spec (findClass_of_methodNamed hnamed) hkP hinit
  obtain ⟨vm₁, X₁, hstep₁⟩ := X.invokestatic hexec hown hlink hnamed hmethM hstatic hkP hinitP hy (g := g) hg (argsL := argsL) (rest := rest) (hlen _ hsigM) hstack hdg
  rcases hK m meth c ⟨T.setVm vm₁, locs, cells, slots⟩ { g with stack := rest } (.invokestatic index) mk argsL.toArray X₁ hg hsize hdg hW (X₁.named hnamed) (hpre vm₁ X₁.warmed) with ⟨v, B, X', hpost, hsteps⟩ | ⟨q, B, X', hpost, hsteps⟩
  · exact Or.inl ⟨v, vm₁, B, X₁.warmed, X', hpost, fun target h => hstep₁ _ fun acts => by rw [doInvoke_state]; exact hsteps.trans h⟩
  · exact Or.inr ⟨q, vm₁, B, X₁.warmed, X', hpost, hstep₁ _ fun acts => by rw [doInvoke_state]; exact hsteps⟩
end Calls
theorem vx_cls {s : State} {T : State} {vm₁ : Vm} {E : String} {k : ClassId} (hW : s.WarmedH vm₁) (h : (T.setVm vm₁).vm.findClass E = some k) : s.vm.findClass E = some k := by
  have h1 : vm₁.findClass E = some k := h
  rw [hW.alike.findClass] at h1
  exact h1
/-- the method's frame g, with q thrown over it -/
def vx_W (p : Program) (l : Launch) (e : Env) (R : Room) (s : State) (m : MethodId) (args : Array Value) (below : List Frame) (meth : Method) (c : Code) (H : Heap) (locs : List Loc) (cells slots : Nat) (Q : State → Prop) (g : JFrame) (q : Addr) : Prop :=
  ∀ T : State, T.heap = H → Stand p l e R s m args below meth c T locs cells slots → ∃ t, Steps p.tables e below ((T.setTop g).pushFrame (.throwing q)) t ∧ Q t
def vx_Run (p : Program) (l : Launch) (e : Env) (R : Room) (s : State) (m : MethodId) (args : Array Value) (below : List Frame) (meth : Method) (c : Code) (H : Heap) (locs : List Loc) (cells slots mc ms : Nat) (g : JFrame) (rest : List Value) (Qa : State → Outcome → State → Prop) (XC : String → State → State → Prop) (free : Addr → Prop) : Prop :=
  ∀ T : State, T.heap = H → Stand p l e R s m args below meth c T locs cells slots →
    (∃ (v : Option Value) (st₀ t T' : State) (L : List Loc), st₀.heap = H ∧ Stand p l e R s m args below meth c T' (locs ++ L) (cells + mc) (slots + ms) ∧ (∀ q ∈ L, free q.base) ∧ T'.heap = t.heap ∧ T'.vm = t.vm ∧ Qa st₀ (.returned v) t ∧
      Goes p e below T g T' { g with pc := g.pc + 3, stack := v.toList ++ rest }) ∨
    (∃ (q : Addr) (st₀ t T' : State) (L : List Loc) (E : String) (ce : Cell), st₀.heap = H ∧ Stand p l e R s m args below meth c T' (locs ++ L) (cells + mc) (slots + ms) ∧ (∀ z ∈ L, free z.base) ∧ T'.heap = t.heap ∧ T'.vm = t.vm ∧ XC E st₀ t ∧ t.heap[q]? = some ce ∧ ce.vm = .none ∧ s.vm.findClass E = some ce.cls ∧
      Steps p.tables e below (T.setTop g) ((T'.setTop { g with stack := rest }).pushFrame (.throwing q)))
def vx_X {S : Type} (px : S → Prop) (B : String → S → State → Prop) (A : Nat → Prop) : String → State → State → Prop := fun E st t => ∃ u : S, px u ∧ B E u t ∧ va_F A st t
section Runs
variable {p : Program} {l : Launch} {e : Env} {R : Room} {s : State} {m : MethodId} {args : Array Value} {below : List Frame} {meth : Method} {c : Code} {H : Heap} {locs : List Loc} {cells slots : Nat}
variable {y : MethodName} {bytes cc : ByteArray} {maxL nL mc ms n index : Nat} {ret : Option FieldType} {ws : List Cond} {rm : Room} {Pc : Array Value → State → Prop} {Qc : Array Value → State → Outcome → State → Prop} {XC : String → State → State → Prop} {free : Addr → Prop} {Ts : List Cond} {own C : String} {b : Addr} {As rest : List Value} {g : JFrame}
theorem vx_callBack (cb : CallB R s args own index y bytes maxL ret ws rm mc ms n) (hM : vx_Met l y ws rm Pc Qc XC mc ms free) (hbl : FrameBlind Pc) : vx_Back l R p e below s args y 3 8 (PreOf R mc ms Pc) (PostOf Qc mc ms free) (vx_Post XC mc ms free) := by
  obtain ⟨hrc, hrs, hfr, hlo, hws, hcw, -, hini, -⟩ := cb
  exact vx_back (bytes := bytes) (maxL := maxL) (ret := ret) hM hbl hrc hrs hfr hlo hws hcw (fun a' U hW => word_at hW (Or.inl (by first | rfl | simp [Cond.onTables, Cond.keeps, Cond.steady])) hini)
theorem vx_runV (S : CallFix p m c cc nL s args Ts own) (hM : vx_Met l y ws rm Pc Qc XC mc ms free) (cw : CallW R s args own C index y bytes maxL ret ws rm mc ms n) (hp : PreV s H C b Pc As)
    (hg : g.method = m) (hn : As.length = n) (hsize : g.locals.size = nL) (hstack : g.stack = As.reverse ++ .ref b :: rest) (hW : 2 * g.monitorRoom + (rest.map fun v => v.category).sum ≤ 8) (hdg : decode cc g.pc = .ok (.invokevirtual index, 3)) (hf : cells + mc ≤ R.cells ∧ slots + ms ≤ R.slots) :
    vx_Run p l e R s m args below meth c H locs cells slots mc ms g rest (Qc (Value.ref b :: As).toArray) XC free := by
  have hK : vx_Back l R p e below s args y 3 8 (PreOf R mc ms Pc) (PostOf Qc mc ms free) (vx_Post XC mc ms free) := vx_callBack cw.1 hM hp.1
  obtain ⟨⟨-, -, -, -, -, -, hcode, -, hy, hlen, hl⟩, hin, hse⟩ := cw
  obtain ⟨hx, hb, hml, ho, -⟩ := S
  obtain ⟨-, ⟨cellB, hcB, hoB, hclB⟩, hPc⟩ := hp
  intro T hT X
  rcases vx_callV X hx (C := C) (bytes := bytes) (maxL := maxL) (ret := ret) ho hl hin hse hcode hy hK (by rw [hT]; exact hcB) hoB hclB hg (hsize.trans hml.symm) (argsL := As) (rest := rest) (fun sig h => hn.trans (hlen sig h)) hstack hW (by rw [hb]; exact hdg)
    (fun vm₁ hW₁ => ⟨hf.1, hf.2, hPc (T.setVm vm₁) hT hW₁⟩) with ⟨v, vm₁, ⟨U', l2, c2, s2⟩, hW₁, X', ⟨g', mk, t, L, e1, e2, hq, h1, hL, h2, h3⟩, st⟩ | ⟨q, vm₁, ⟨U', l2, c2, s2⟩, hW₁, X', ⟨g', mk, t, L, E, ce, e1, e2, hq, hce, hcv, hcl, h1, hL, h2, h3⟩, st⟩
  · dsimp only [Pt.U, Pt.locs, Pt.cells, Pt.slots] at X' e1 e2 h1 h2 h3 st
    subst h1; subst h2; subst h3
    exact Or.inl ⟨v, (T.setVm vm₁).calling g' mk (Value.ref b :: As).toArray, t, U', L, hT, X', hL, e1, e2, hq, st⟩
  · dsimp only [Pt.U, Pt.locs, Pt.cells, Pt.slots] at X' e1 e2 h1 h2 h3 st hcl
    subst h1; subst h2; subst h3
    exact Or.inr ⟨q, (T.setVm vm₁).calling g' mk (Value.ref b :: As).toArray, t, U', L, E, ce, hT, X', hL, e1, e2, hq, hce, hcv, vx_cls hW₁ hcl, st⟩
theorem vx_runS (S : CallFix p m c cc nL s args Ts own) (hM : vx_Met l y ws rm Pc Qc XC mc ms free) (cw : CallB R s args own index y bytes maxL ret ws rm mc ms n ∧ (Cond.static y).before args s = true) (hp : PreS s H Pc As)
    (hg : g.method = m) (hn : As.length = n) (hsize : g.locals.size = nL) (hstack : g.stack = As.reverse ++ rest) (hW : 2 * g.monitorRoom + (rest.map fun v => v.category).sum ≤ 8) (hdg : decode cc g.pc = .ok (.invokestatic index, 3)) (hf : cells + mc ≤ R.cells ∧ slots + ms ≤ R.slots) :
    vx_Run p l e R s m args below meth c H locs cells slots mc ms g rest (Qc As.toArray) XC free := by
  have hK : vx_Back l R p e below s args y 3 8 (PreOf R mc ms Pc) (PostOf Qc mc ms free) (vx_Post XC mc ms free) := vx_callBack cw.1 hM hp.1
  obtain ⟨⟨-, -, -, -, -, -, hcode, hini, hy, hlen, hl⟩, hstt⟩ := cw
  obtain ⟨hx, hb, hml, ho, -⟩ := S
  intro T hT X
  rcases vx_callS X hx (bytes := bytes) (maxL := maxL) (ret := ret) ho hl hstt hini hcode hy hK hg (hsize.trans hml.symm) (argsL := As) (rest := rest) (fun sig h => hn.trans (hlen sig h)) hstack hW (by rw [hb]; exact hdg)
    (fun vm₁ hW₁ => ⟨hf.1, hf.2, hp.2 (T.setVm vm₁) hT hW₁⟩) with ⟨v, vm₁, ⟨U', l2, c2, s2⟩, hW₁, X', ⟨g', mk, t, L, e1, e2, hq, h1, hL, h2, h3⟩, st⟩ | ⟨q, vm₁, ⟨U', l2, c2, s2⟩, hW₁, X', ⟨g', mk, t, L, E, ce, e1, e2, hq, hce, hcv, hcl, h1, hL, h2, h3⟩, st⟩
  · dsimp only [Pt.U, Pt.locs, Pt.cells, Pt.slots] at X' e1 e2 h1 h2 h3 st
    subst h1; subst h2; subst h3
    exact Or.inl ⟨v, (T.setVm vm₁).calling g' mk As.toArray, t, U', L, hT, X', hL, e1, e2, hq, st⟩
  · dsimp only [Pt.U, Pt.locs, Pt.cells, Pt.slots] at X' e1 e2 h1 h2 h3 st hcl
    subst h1; subst h2; subst h3
    exact Or.inr ⟨q, (T.setVm vm₁).calling g' mk As.toArray, t, U', L, E, ce, hT, X', hL, e1, e2, hq, hce, hcv, vx_cls hW₁ hcl, st⟩
end Runs
section Rows
variable {p : Program} {l : Launch} {e : Env} {R : Room} {s : State} {m : MethodId} {args : Array Value} {below : List Frame} {meth : Method} {c : Code} {H : Heap} {locs : List Loc} {cells slots : Nat} {Q : State → Prop}
variable {mc ms : Nat} {free : Addr → Prop} {A0 A1 : Nat → Prop} {H0 : Heap} {a : Array Value} {pc : Nat} {ls : Array Slot} {st0 rest : List Value}
theorem vx_keep {st₀ t T' : State} {L : List Loc} (h0 : st₀.heap = H) (e1 : T'.heap = t.heap) (hS : va_S A0 H0 H locs) (hA : ∀ q, q < H.size → A1 q → A0 q) (hf : ∀ q, free q → A0 q) (hL : ∀ q ∈ L, free q.base) (hF : va_F A1 st₀ t) :
    H.size ≤ T'.heap.size ∧ (∀ q : Nat, q < H.size → ¬ A1 q → T'.heap[q]? = H[q]?) ∧ va_S A0 H0 T'.heap (locs ++ L) := by
  obtain ⟨hz, hk⟩ := hF
  rw [h0] at hz hk
  exact ⟨by rw [e1]; exact hz, fun q h1 h2 => by rw [e1]; exact hk q h1 h2,
    ⟨Nat.le_trans hS.1 (by rw [e1]; exact hz), fun q h1 h2 => by rw [e1, hk q (Nat.lt_of_lt_of_le h1 hS.1) (fun z => h2 (hA q (Nat.lt_of_lt_of_le h1 hS.1) z))]; exact hS.2.1 q h1 h2, fun q hq => by
      rcases List.mem_append.mp hq with h | h
      · exact hS.2.2 q h
      · exact hf _ (hL q h)⟩⟩
theorem vx_calli {S SX : Type} {post : Int32 → S → Prop} {px : SX → Prop} {B : S → State → Prop} {BX : String → SX → State → Prop} {AX : Nat → Prop} (hr : vx_Run p l e R s m args below meth c H locs cells slots mc ms (F0 m pc ls st0) rest (va_Qi post B A1 a) (vx_X px BX AX) free) (hS : va_S A0 H0 H locs) (hA : ∀ q, q < H.size → A1 q → A0 q) (hf : ∀ q, free q → A0 q) (hAX : ∀ q, q < H.size → AX q → A0 q)
    (kx : ∀ (E : String) (ce : Cell) (q9 : Addr) (u : SX) (t : State) (H1 : Heap) (locs1 : List Loc), t.heap = H1 → s.vm.Alike t.vm → px u → BX E u t → H.size ≤ H1.size → (∀ q : Nat, q < H.size → ¬ AX q → H1[q]? = H[q]?) → va_S A0 H0 H1 locs1 → H1[q9]? = some ce → ce.vm = .none → s.vm.findClass E = some ce.cls → vx_W p l e R s m args below meth c H1 locs1 (cells + mc) (slots + ms) Q (F0 m pc ls rest) q9)
    (kk : ∀ (r : Int32) (u : S) (t : State) (H1 : Heap) (locs1 : List Loc), t.heap = H1 → s.vm.Alike t.vm → post r u → B u t → H.size ≤ H1.size → (∀ q : Nat, q < H.size → ¬ A1 q → H1[q]? = H[q]?) → va_S A0 H0 H1 locs1 → W p l e R s m args below meth c H1 locs1 (cells + mc) (slots + ms) Q (F0 m (pc + 3) ls (.int r :: rest))) : W p l e R s m args below meth c H locs cells slots Q (F0 m pc ls st0) := by
  intro T hT X
  rcases hr T hT X with ⟨v, st₀, t, T', L, h0, X', hL, e1, e2, ⟨⟨r, u, hv, hp, hb⟩, hF⟩, st⟩ | ⟨q, st₀, t, T', L, E, ce, h0, X', hL, e1, e2, ⟨u, hp, hb, hF⟩, hce, hcv, hcl, st⟩
  · cases hv
    obtain ⟨k1, k2, k3⟩ := vx_keep h0 e1 hS hA hf hL hF
    obtain ⟨t2, a1, b1⟩ := kk r u t T'.heap (locs ++ L) e1.symm (by rw [← e2]; exact X'.warmed.alike) hp hb k1 k2 k3 T' rfl X'
    exact ⟨t2, st t2 a1, b1⟩
  · obtain ⟨k1, k2, k3⟩ := vx_keep h0 e1 hS hAX hf hL hF
    obtain ⟨t2, a1, b1⟩ := kx E ce q u t T'.heap (locs ++ L) e1.symm (by rw [← e2]; exact X'.warmed.alike) hp hb k1 k2 k3 (by rw [e1]; exact hce) hcv hcl T' rfl X'
    exact ⟨t2, st.trans a1, b1⟩
theorem vx_calll {S SX : Type} {post : Int64 → S → Prop} {px : SX → Prop} {B : S → State → Prop} {BX : String → SX → State → Prop} {AX : Nat → Prop} (hr : vx_Run p l e R s m args below meth c H locs cells slots mc ms (F0 m pc ls st0) rest (va_Ql post B A1 a) (vx_X px BX AX) free) (hS : va_S A0 H0 H locs) (hA : ∀ q, q < H.size → A1 q → A0 q) (hf : ∀ q, free q → A0 q) (hAX : ∀ q, q < H.size → AX q → A0 q)
    (kx : ∀ (E : String) (ce : Cell) (q9 : Addr) (u : SX) (t : State) (H1 : Heap) (locs1 : List Loc), t.heap = H1 → s.vm.Alike t.vm → px u → BX E u t → H.size ≤ H1.size → (∀ q : Nat, q < H.size → ¬ AX q → H1[q]? = H[q]?) → va_S A0 H0 H1 locs1 → H1[q9]? = some ce → ce.vm = .none → s.vm.findClass E = some ce.cls → vx_W p l e R s m args below meth c H1 locs1 (cells + mc) (slots + ms) Q (F0 m pc ls rest) q9)
    (kk : ∀ (r : Int64) (u : S) (t : State) (H1 : Heap) (locs1 : List Loc), t.heap = H1 → s.vm.Alike t.vm → post r u → B u t → H.size ≤ H1.size → (∀ q : Nat, q < H.size → ¬ A1 q → H1[q]? = H[q]?) → va_S A0 H0 H1 locs1 → W p l e R s m args below meth c H1 locs1 (cells + mc) (slots + ms) Q (F0 m (pc + 3) ls (.long r :: rest))) : W p l e R s m args below meth c H locs cells slots Q (F0 m pc ls st0) := by
  intro T hT X
  rcases hr T hT X with ⟨v, st₀, t, T', L, h0, X', hL, e1, e2, ⟨⟨r, u, hv, hp, hb⟩, hF⟩, st⟩ | ⟨q, st₀, t, T', L, E, ce, h0, X', hL, e1, e2, ⟨u, hp, hb, hF⟩, hce, hcv, hcl, st⟩
  · cases hv
    obtain ⟨k1, k2, k3⟩ := vx_keep h0 e1 hS hA hf hL hF
    obtain ⟨t2, a1, b1⟩ := kk r u t T'.heap (locs ++ L) e1.symm (by rw [← e2]; exact X'.warmed.alike) hp hb k1 k2 k3 T' rfl X'
    exact ⟨t2, st t2 a1, b1⟩
  · obtain ⟨k1, k2, k3⟩ := vx_keep h0 e1 hS hAX hf hL hF
    obtain ⟨t2, a1, b1⟩ := kx E ce q u t T'.heap (locs ++ L) e1.symm (by rw [← e2]; exact X'.warmed.alike) hp hb k1 k2 k3 (by rw [e1]; exact hce) hcv hcl T' rfl X'
    exact ⟨t2, st.trans a1, b1⟩
theorem vx_callf {S SX : Type} {post : UInt32 → S → Prop} {px : SX → Prop} {B : S → State → Prop} {BX : String → SX → State → Prop} {AX : Nat → Prop} (hr : vx_Run p l e R s m args below meth c H locs cells slots mc ms (F0 m pc ls st0) rest (va_Qf post B A1 a) (vx_X px BX AX) free) (hS : va_S A0 H0 H locs) (hA : ∀ q, q < H.size → A1 q → A0 q) (hf : ∀ q, free q → A0 q) (hAX : ∀ q, q < H.size → AX q → A0 q)
    (kx : ∀ (E : String) (ce : Cell) (q9 : Addr) (u : SX) (t : State) (H1 : Heap) (locs1 : List Loc), t.heap = H1 → s.vm.Alike t.vm → px u → BX E u t → H.size ≤ H1.size → (∀ q : Nat, q < H.size → ¬ AX q → H1[q]? = H[q]?) → va_S A0 H0 H1 locs1 → H1[q9]? = some ce → ce.vm = .none → s.vm.findClass E = some ce.cls → vx_W p l e R s m args below meth c H1 locs1 (cells + mc) (slots + ms) Q (F0 m pc ls rest) q9)
    (kk : ∀ (r : UInt32) (u : S) (t : State) (H1 : Heap) (locs1 : List Loc), t.heap = H1 → s.vm.Alike t.vm → post r u → B u t → H.size ≤ H1.size → (∀ q : Nat, q < H.size → ¬ A1 q → H1[q]? = H[q]?) → va_S A0 H0 H1 locs1 → W p l e R s m args below meth c H1 locs1 (cells + mc) (slots + ms) Q (F0 m (pc + 3) ls (.float r :: rest))) : W p l e R s m args below meth c H locs cells slots Q (F0 m pc ls st0) := by
  intro T hT X
  rcases hr T hT X with ⟨v, st₀, t, T', L, h0, X', hL, e1, e2, ⟨⟨r, u, hv, hp, hb⟩, hF⟩, st⟩ | ⟨q, st₀, t, T', L, E, ce, h0, X', hL, e1, e2, ⟨u, hp, hb, hF⟩, hce, hcv, hcl, st⟩
  · cases hv
    obtain ⟨k1, k2, k3⟩ := vx_keep h0 e1 hS hA hf hL hF
    obtain ⟨t2, a1, b1⟩ := kk r u t T'.heap (locs ++ L) e1.symm (by rw [← e2]; exact X'.warmed.alike) hp hb k1 k2 k3 T' rfl X'
    exact ⟨t2, st t2 a1, b1⟩
  · obtain ⟨k1, k2, k3⟩ := vx_keep h0 e1 hS hAX hf hL hF
    obtain ⟨t2, a1, b1⟩ := kx E ce q u t T'.heap (locs ++ L) e1.symm (by rw [← e2]; exact X'.warmed.alike) hp hb k1 k2 k3 (by rw [e1]; exact hce) hcv hcl T' rfl X'
    exact ⟨t2, st.trans a1, b1⟩
theorem vx_calld {S SX : Type} {post : UInt64 → S → Prop} {px : SX → Prop} {B : S → State → Prop} {BX : String → SX → State → Prop} {AX : Nat → Prop} (hr : vx_Run p l e R s m args below meth c H locs cells slots mc ms (F0 m pc ls st0) rest (va_Qd post B A1 a) (vx_X px BX AX) free) (hS : va_S A0 H0 H locs) (hA : ∀ q, q < H.size → A1 q → A0 q) (hf : ∀ q, free q → A0 q) (hAX : ∀ q, q < H.size → AX q → A0 q)
    (kx : ∀ (E : String) (ce : Cell) (q9 : Addr) (u : SX) (t : State) (H1 : Heap) (locs1 : List Loc), t.heap = H1 → s.vm.Alike t.vm → px u → BX E u t → H.size ≤ H1.size → (∀ q : Nat, q < H.size → ¬ AX q → H1[q]? = H[q]?) → va_S A0 H0 H1 locs1 → H1[q9]? = some ce → ce.vm = .none → s.vm.findClass E = some ce.cls → vx_W p l e R s m args below meth c H1 locs1 (cells + mc) (slots + ms) Q (F0 m pc ls rest) q9)
    (kk : ∀ (r : UInt64) (u : S) (t : State) (H1 : Heap) (locs1 : List Loc), t.heap = H1 → s.vm.Alike t.vm → post r u → B u t → H.size ≤ H1.size → (∀ q : Nat, q < H.size → ¬ A1 q → H1[q]? = H[q]?) → va_S A0 H0 H1 locs1 → W p l e R s m args below meth c H1 locs1 (cells + mc) (slots + ms) Q (F0 m (pc + 3) ls (.double r :: rest))) : W p l e R s m args below meth c H locs cells slots Q (F0 m pc ls st0) := by
  intro T hT X
  rcases hr T hT X with ⟨v, st₀, t, T', L, h0, X', hL, e1, e2, ⟨⟨r, u, hv, hp, hb⟩, hF⟩, st⟩ | ⟨q, st₀, t, T', L, E, ce, h0, X', hL, e1, e2, ⟨u, hp, hb, hF⟩, hce, hcv, hcl, st⟩
  · cases hv
    obtain ⟨k1, k2, k3⟩ := vx_keep h0 e1 hS hA hf hL hF
    obtain ⟨t2, a1, b1⟩ := kk r u t T'.heap (locs ++ L) e1.symm (by rw [← e2]; exact X'.warmed.alike) hp hb k1 k2 k3 T' rfl X'
    exact ⟨t2, st t2 a1, b1⟩
  · obtain ⟨k1, k2, k3⟩ := vx_keep h0 e1 hS hAX hf hL hF
    obtain ⟨t2, a1, b1⟩ := kx E ce q u t T'.heap (locs ++ L) e1.symm (by rw [← e2]; exact X'.warmed.alike) hp hb k1 k2 k3 (by rw [e1]; exact hce) hcv hcl T' rfl X'
    exact ⟨t2, st.trans a1, b1⟩
theorem vx_callv {S SX : Type} {post : S → Prop} {px : SX → Prop} {B : S → State → Prop} {BX : String → SX → State → Prop} {AX : Nat → Prop} (hr : vx_Run p l e R s m args below meth c H locs cells slots mc ms (F0 m pc ls st0) rest (va_Qv post B A1 a) (vx_X px BX AX) free) (hS : va_S A0 H0 H locs) (hA : ∀ q, q < H.size → A1 q → A0 q) (hf : ∀ q, free q → A0 q) (hAX : ∀ q, q < H.size → AX q → A0 q)
    (kx : ∀ (E : String) (ce : Cell) (q9 : Addr) (u : SX) (t : State) (H1 : Heap) (locs1 : List Loc), t.heap = H1 → s.vm.Alike t.vm → px u → BX E u t → H.size ≤ H1.size → (∀ q : Nat, q < H.size → ¬ AX q → H1[q]? = H[q]?) → va_S A0 H0 H1 locs1 → H1[q9]? = some ce → ce.vm = .none → s.vm.findClass E = some ce.cls → vx_W p l e R s m args below meth c H1 locs1 (cells + mc) (slots + ms) Q (F0 m pc ls rest) q9)
    (kk : ∀ (u : S) (t : State) (H1 : Heap) (locs1 : List Loc), t.heap = H1 → s.vm.Alike t.vm → post u → B u t → H.size ≤ H1.size → (∀ q : Nat, q < H.size → ¬ A1 q → H1[q]? = H[q]?) → va_S A0 H0 H1 locs1 → W p l e R s m args below meth c H1 locs1 (cells + mc) (slots + ms) Q (F0 m (pc + 3) ls (rest))) : W p l e R s m args below meth c H locs cells slots Q (F0 m pc ls st0) := by
  intro T hT X
  rcases hr T hT X with ⟨v, st₀, t, T', L, h0, X', hL, e1, e2, ⟨⟨u, hv, hp, hb⟩, hF⟩, st⟩ | ⟨q, st₀, t, T', L, E, ce, h0, X', hL, e1, e2, ⟨u, hp, hb, hF⟩, hce, hcv, hcl, st⟩
  · cases hv
    obtain ⟨k1, k2, k3⟩ := vx_keep h0 e1 hS hA hf hL hF
    obtain ⟨t2, a1, b1⟩ := kk u t T'.heap (locs ++ L) e1.symm (by rw [← e2]; exact X'.warmed.alike) hp hb k1 k2 k3 T' rfl X'
    exact ⟨t2, st t2 a1, b1⟩
  · obtain ⟨k1, k2, k3⟩ := vx_keep h0 e1 hS hAX hf hL hF
    obtain ⟨t2, a1, b1⟩ := kx E ce q u t T'.heap (locs ++ L) e1.symm (by rw [← e2]; exact X'.warmed.alike) hp hb k1 k2 k3 (by rw [e1]; exact hce) hcv hcl T' rfl X'
    exact ⟨t2, st.trans a1, b1⟩
/-- caught by the row x of this method's table; the rows ahead don't take it -/
theorem vx_catch {own name : String} {E : String} {ce : Cell} {q : Addr} (hown : s.vm.findClass own = some m.cls) (pre : List ExceptionTableEntry) (x : ExceptionTableEntry) (suf : List ExceptionTableEntry) (hsplit : c.exceptionTable.toList = pre ++ x :: suf)
    (hpass : ∀ z ∈ pre, covers z pc = false ∨ (z.catchType ≠ 0 ∧ ∃ nm : String, (Cond.classLink own z.catchType nm).before args s = true ∧ va_Nc E nm s)) (hx : covers x pc = true) (h0 : x.catchType ≠ 0)
    (hlink : (Cond.classLink own x.catchType name).before args s = true) (hcast : (Cond.castable E name).before args s = true) (hcell : H[q]? = some ce) (hv : ce.vm = .none) (hcl : s.vm.findClass E = some ce.cls)
    (kk : W p l e R s m args below meth c H locs cells slots Q (F0 m x.handlerPc ls [.ref q])) : vx_W p l e R s m args below meth c H locs cells slots Q (F0 m pc ls rest) q := by
  intro T hT X
  have hpl : e.platform.magicAccessors = ({} : Platform).magicAccessors := by rw [X.admits.platform]
  obtain ⟨c3, c4, hc3, hc4, hasg⟩ := Cond.castable_spec hcast
  cases Option.some.inj (hc3.symm.trans hcl)
  obtain ⟨c5, hc5, hcl5⟩ := Cond.classLink_spec hown hlink e.platform hpl
  cases Option.some.inj (hc4.symm.trans hc5)
  obtain ⟨vm', X', st⟩ := X.thenCaughtThrough q (g := F0 m pc ls rest) rfl (Steps.refl _) (by rw [hT]; exact hcell) (by rw [hv]; rfl) (by obtain ⟨k9, h9, -⟩ := Vm.findClass_spec hcl; exact ⟨k9, h9⟩) pre x suf hsplit
    (fun z hz => by
      rcases hpass z hz with h | ⟨hz0, nm, hl1, hn1⟩
      · exact Or.inl h
      · obtain ⟨c6, hc6, hcl6⟩ := Cond.classLink_spec hown hl1 e.platform hpl
        obtain ⟨a8, b8, h1, h2, h3⟩ := hn1
        cases Option.some.inj (h1.symm.trans hcl)
        cases Option.some.inj (h2.symm.trans hc6)
        exact Or.inr ⟨hz0, _, hcl6, h3⟩) hx (Or.inr ⟨h0, c4, hcl5, hasg⟩)
  obtain ⟨t, a1, b1⟩ := kk (T.setVm vm') hT X'
  exact ⟨t, st.trans a1, b1⟩
end Rows
section Ends
variable {p : Program} {l : Launch} {e : Env} {R : Room} {s : State} {m : MethodId} {args : Array Value} {below : List Frame} {meth : Method} {c : Code} {H : Heap} {locs : List Loc} {cells slots : Nat} {Q : State → Prop}
variable {mc ms : Nat} {free : Addr → Prop} {A0 A1 : Nat → Prop} {H0 : Heap} {a : Array Value} {ls : Array Slot} {st0 rest : List Value}
variable {Qc : Array Value → State → Outcome → State → Prop} {XC : String → State → State → Prop}
/-- what a body that may throw owes at its end -/
def vx_MQ (below : List Frame) (Qc : Array Value → State → Outcome → State → Prop) (XC : String → State → State → Prop) (a : Array Value) (s : State) (mc ms : Nat) (free : Addr → Prop) : State → Prop := fun t =>
  ∃ o, t.status = .running ∧ Ended t below o ∧ vx_Q Qc XC mc ms free a s o t
theorem vx_ret {g : JFrame} {mc ms : Nat} (k : W p l e R s m args below meth c H locs cells slots (MQ below Qc args s mc ms free) g) : W p l e R s m args below meth c H locs cells slots (vx_MQ below Qc XC args s mc ms free) g := by
  intro T hT X
  obtain ⟨t, a1, o, b1, b2, b3, b4⟩ := k T hT X
  exact ⟨t, a1, o, b1, b2, Or.inl ⟨b3, b4⟩⟩
/-- not caught here: it goes on to the caller -/
theorem vx_widen {g : JFrame} {q : Addr} {k n : Nat} (h1 : cells ≤ k) (h2 : slots ≤ n) (kk : vx_W p l e R s m args below meth c H locs k n Q g q) : vx_W p l e R s m args below meth c H locs cells slots Q g q := fun T hT X => kk T hT (stand_widen X h1 h2)
theorem vx_out {pc : Nat} {E : String} {ce : Cell} {q : Addr} {mc ms : Nat} (hout : ∀ x ∈ c.exceptionTable.toList, covers x pc = false) (hlocks : meth.locks = false) (hcell : H[q]? = some ce) (hv : ce.vm = .none) (hcl : s.vm.findClass E = some ce.cls)
    (hx : ∀ t : State, t.heap = H → s.vm.Alike t.vm → XC E s t) (hf : ∀ z ∈ locs, free z.base) (hc : cells ≤ mc) (hs : slots ≤ ms) :
    vx_W p l e R s m args below meth c H locs cells slots (vx_MQ below Qc XC args s mc ms free) (F0 m pc ls rest) q := by
  intro T hT X
  obtain ⟨st1, hrun, hend, hW, hsm⟩ := X.leaveThrown q (g := F0 m pc ls rest) rfl rfl rfl hout hlocks
  have hcell9 : (T.setFrames (.throwing q :: below)).heap[q]? = some ce := by
    show T.heap[q]? = some ce
    rw [hT]; exact hcell
  exact ⟨_, st1, .threw q, hrun, hend, Or.inr ⟨q, rfl, E, ce, locs, hx _ hT hW.alike, hcell9, hv, hcl, hW, hsm.mono hc hs, hf⟩⟩
theorem vx_frame {U : State} {k n : Nat} (h : s.sameButNew ({ U with vm := s.vm } : State) locs k n) : s.heap.size ≤ U.heap.size ∧ ∀ q : Nat, q < s.heap.size → (∀ z ∈ locs, z.base ≠ q) → U.heap[q]? = s.heap[q]? := by
  obtain ⟨-, h2, -, -, -, h6⟩ := h
  refine ⟨h2, fun q hq hz => ?_⟩
  obtain ⟨c9, e1, e2, e3, e4⟩ := h6 q _ (Array.getElem?_eq_getElem hq)
  have hs : c9.slots = (s.heap[q]).slots := Array.ext_getElem? fun i => e4 i fun hm => hz _ hm rfl
  have h9 : c9 = s.heap[q] := by
    rw [hs] at e2
    exact e2
  have e5 : U.heap[q]? = some c9 := e1
  rw [e5, h9, Array.getElem?_eq_getElem hq]
/-- the words of a throw but the four that speak of the heap -/
def vx_no (w : Cond) : Bool := decide (w ≠ .isRef (.static Bundle.tN "UNASSIGNED_STACK" Bundle.steD)) && decide (w ≠ .isRef (.static Bundle.tN "SUPPRESSED_SENTINEL" Bundle.listD)) && decide (w ≠ .laysStatic Bundle.tN "UNASSIGNED_STACK" Bundle.steD) && decide (w ≠ .laysStatic Bundle.tN "SUPPRESSED_SENTINEL" Bundle.listD)
def vx_at0 (own : String) (ic : Nat) (X : String) (names : List String) : List Cond := (Bundle.ownAtoms0 own ic X names).filter vx_no
def vx_atS (own : String) (ic : Nat) (X : String) (names : List String) : List Cond := (Bundle.ownAtoms own ic X names).filter vx_no
/-- a word that the tables alone decide, or a good one -/
def vx_ot (w : Cond) : Bool := w.onTables || goodWord w
theorem vx_ot_at {args a' : Array Value} {s U : State} {w : Cond} (hW : s.WarmedH U.vm) (hvm : s.vm = U.vm) (hg : vx_ot w = true) (h : w.before args s = true) : w.before a' U = true := by
  simp only [vx_ot, Bool.or_eq_true] at hg
  rcases hg with hg | hg
  · exact va_tabs hg hvm h
  · exact word_at hW (good_of_word hg) h
/-- a list's words: the good ones out of the method's own list, the others by premises of their own -/
theorem vx_hat {args : Array Value} {s : State} {L B : List Cond} (h1 : ∀ w ∈ L.filter goodWord, w.before args s = true) (h2 : ∀ w ∈ L.filter (fun w => !goodWord w), w ∈ B) (h3 : ∀ w ∈ B, w.before args s = true) : ∀ w ∈ L, w.before args s = true := by
  intro w hw
  by_cases g : goodWord w = true
  · exact h1 w (List.mem_filter.mpr ⟨hw, g⟩)
  · refine h3 w (h2 w (List.mem_filter.mpr ⟨hw, ?_⟩))
    show (!goodWord w) = true
    cases hgw : goodWord w
    · rfl
    · exact absurd hgw g
theorem vx_c {args : Array Value} {s : State} {w : Cond} {B : List Cond} (h : w.before args s = true) (t : ∀ w ∈ B, w.before args s = true) : ∀ w' ∈ w :: B, w'.before args s = true := fun w' h' => (List.mem_cons.mp h').elim (fun e => by rw [e]; exact h) (t w')
theorem vx_n {args : Array Value} {s : State} : ∀ w ∈ ([] : List Cond), w.before args s = true := fun _ h => nomatch h
theorem vx_own {args : Array Value} {s : State} {L : List Cond} (h1 : ∀ w ∈ L.filter vx_no, w.before args s = true)
    (hU : (Cond.isRef (.static Bundle.tN "UNASSIGNED_STACK" Bundle.steD)).before args s = true) (hN : (Cond.isRef (.static Bundle.tN "SUPPRESSED_SENTINEL" Bundle.listD)).before args s = true)
    (lU : (Cond.laysStatic Bundle.tN "UNASSIGNED_STACK" Bundle.steD).before args s = true) (lN : (Cond.laysStatic Bundle.tN "SUPPRESSED_SENTINEL" Bundle.listD).before args s = true) : ∀ w ∈ L, w.before args s = true := by
  intro w hw
  by_cases e1 : w = .isRef (.static Bundle.tN "UNASSIGNED_STACK" Bundle.steD)
  · rw [e1]; exact hU
  · by_cases e2 : w = .isRef (.static Bundle.tN "SUPPRESSED_SENTINEL" Bundle.listD)
    · rw [e2]; exact hN
    · by_cases e3 : w = .laysStatic Bundle.tN "UNASSIGNED_STACK" Bundle.steD
      · rw [e3]; exact lU
      · by_cases e4 : w = .laysStatic Bundle.tN "SUPPRESSED_SENTINEL" Bundle.listD
        · rw [e4]; exact lN
        · exact h1 w (List.mem_filter.mpr ⟨hw, by unfold vx_no; rw [decide_eq_true e1, decide_eq_true e2, decide_eq_true e3, decide_eq_true e4]; rfl⟩)
/-- where a static field lies, its class's statics cell in H -/
def vx_L (C n d : String) (A : Nat → Prop) (U : State) (H : Heap) : Prop := ∃ (c : ClassId) (k : Class) (i : Nat) (f : Field) (a : Nat) (cell : Cell), U.vm.findClass C = some c ∧ U.fieldFound? C n d = some (c, k, i, f) ∧ f.isStatic = true ∧ k.statics = some a ∧ H[a]? = some cell ∧ cell.vm.isStatics = true ∧ cell.cls = c ∧ f.slot < cell.slots.size ∧ k.staticTypes[f.slot]? = some f.type ∧ ¬ A a
theorem vx_L.moved {C n d : String} {A : Nat → Prop} {u U : State} {H : Heap} (hvm : u.vm.Alike U.vm) (h : vx_L C n d A u H) : vx_L C n d A U H := by
  obtain ⟨c, k, i, f, a, cell, h1, h2, h3, h4, h5, h6, h7, h8, h9, h10⟩ := h
  obtain ⟨k', hi', he⟩ := State.fieldFound?_setVm hvm h2
  exact ⟨c, k', i, f, a, cell, by rw [hvm.findClass]; exact h1, hi', h3, by rw [he]; exact h4, h5, h6, h7, h8, by rw [he]; exact h9, h10⟩
theorem vx_L.kept {C n d : String} {A : Nat → Prop} {U : State} {H H1 : Heap} (h : vx_L C n d A U H) (hq : ∀ a : Nat, a < H.size → ¬ A a → H1[a]? = H[a]?) : vx_L C n d A U H1 := by
  obtain ⟨c, k, i, f, a, cell, h1, h2, h3, h4, h5, h6, h7, h8, h9, h10⟩ := h
  exact ⟨c, k, i, f, a, cell, h1, h2, h3, h4, by rw [hq a (Array.getElem?_eq_some_iff.mp h5).1 h10]; exact h5, h6, h7, h8, h9, h10⟩
theorem vx_L.narrow {C n d : String} {A B : Nat → Prop} {U : State} {H : Heap} (h : vx_L C n d A U H) (hAB : ∀ q, B q → A q) : vx_L C n d B U H := by
  obtain ⟨c, k, i, f, a, cell, h1, h2, h3, h4, h5, h6, h7, h8, h9, h10⟩ := h
  exact ⟨c, k, i, f, a, cell, h1, h2, h3, h4, h5, h6, h7, h8, h9, fun z => h10 (hAB _ z)⟩
theorem vx_L.word {C n d : String} {A : Nat → Prop} {s : State} {args : Array Value} (h : vx_L C n d A s s.heap) : (Cond.laysStatic C n d).before args s = true := by
  obtain ⟨c, k, i, f, a, cell, h1, h2, h3, h4, h5, h6, h7, h8, h9, -⟩ := h
  show (Cond.laysStatic C n d).holds args s none s [] = true
  exact Cond.laysStatic_of h1 h2 h3 h4 h5 h6 h7 h8 h9
/-- .. and what it holds: null or some reference -/
def vx_Zq (C n d : String) (A : Nat → Prop) (U : State) (H : Heap) : Prop := va_Zq C n d A U H ∧ vx_L C n d A U H
theorem vx_Zq.moved {C n d : String} {A : Nat → Prop} {u U : State} {H : Heap} (hvm : u.vm.Alike U.vm) (h : vx_Zq C n d A u H) : vx_Zq C n d A U H := ⟨va_Zq.moved hvm h.1, vx_L.moved hvm h.2⟩
theorem vx_Zq.kept {C n d : String} {A : Nat → Prop} {U : State} {H H1 : Heap} (h : vx_Zq C n d A U H) (hq : ∀ a : Nat, a < H.size → ¬ A a → H1[a]? = H[a]?) : vx_Zq C n d A U H1 := ⟨va_Zq.kept h.1 hq, vx_L.kept h.2 hq⟩
theorem vx_Zq.narrow {C n d : String} {A B : Nat → Prop} {U : State} {H : Heap} (h : vx_Zq C n d A U H) (hAB : ∀ q, B q → A q) : vx_Zq C n d B U H := ⟨va_Zq.narrow h.1 hAB, vx_L.narrow h.2 hAB⟩
theorem vx_Zqof {args : Array Value} {s : State} {C n d : String} {A : Nat → Prop} (hl : (Cond.laysStatic C n d).before args s = true) (hini : (Cond.initialized C).before args s = true) (h : (Cond.isRef (.static C n d)).before args s = true) (hA : ∀ a : Nat, a < s.heap.size → ¬ A a) : vx_Zq C n d A s s.heap := by
  refine ⟨va_Zqof hl hini h hA, ?_⟩
  obtain ⟨c, k, i, f, a, cell, h1, h2, h3, h4, h5, h6, h7, h8, h9⟩ := Cond.laysStatic_spec hl
  exact ⟨c, k, i, f, a, cell, h1, h2, h3, h4, h5, h6, h7, h8, h9, hA a (Array.getElem?_eq_some_iff.mp h5).1⟩
theorem vx_isRef {C n d : String} {v : Value} {A : Nat → Prop} {s : State} {args : Array Value} (h : va_Z C n d v A s s.heap) (hv : v.isRef = true) : (Cond.isRef (.static C n d)).before args s = true := by
  obtain ⟨cf, kf, fi, f, a, cell, h1, h2, h3, h4, h5, h6, h7, -⟩ := h
  have he : (Term.static C n d).eval args s none [] s = some v := by
    simp [Term.eval, State.fieldNamed?, h1, h2, h4, h5, h6, h7]
  simp only [Cond.before, Cond.holds, Cond.value, he]
  cases v <;> simp_all [Value.isRef]
theorem vx_isRefq {C n d : String} {A : Nat → Prop} {s : State} {args : Array Value} (h : va_Zq C n d A s s.heap) : (Cond.isRef (.static C n d)).before args s = true := by
  rcases h with h | ⟨t, h⟩
  · exact vx_isRef h rfl
  · exact vx_isRef h rfl
/-- the same frame, seen from here: as if the method were called anew in this heap -/
theorem vx_rebase {T : State} (X : Stand p l e R s m args below meth c T locs cells slots) {R' : Room} (hf : R'.frames ≤ R.frames) (hl : R'.locals ≤ R.locals) (hc : cells + R'.cells ≤ R.cells) (hs : slots + R'.slots ≤ R.slots) :
    Stand p l e R' ((T.setVm s.vm).setFrames (.invoking m args :: below)) m args below meth c T [] 0 0 := by
  have htop : (T.setVm s.vm).topJava?.isSome := X.here.top
  have hF : ((T.setVm s.vm).setFrames (.invoking m args :: below)).frames = .invoking m args :: below := State.frames_setFrames _ (State.cur_lt_of_top htop)
  obtain ⟨g₀, hg0⟩ := Option.isSome_iff_exists.mp htop
  obtain ⟨r, hr⟩ := State.topJava?_eq_some.mp hg0
  have hl9 : e.platform.stackLimits (T.setVm s.vm).me = e.platform.stackLimits s.me := X.limits
  have hb9 : (T.setVm s.vm).me.stackBytes = s.me.stackBytes := X.bytes
  refine ⟨X.admits, X.cas, X.clock, hF, ?_, X.hears, X.method, X.code, X.here, X.tail, X.warmed, ?_, ?_, ?_⟩
  · have h := X.room
    have hU : ((T.setVm s.vm).setFrames (.invoking m args :: below)).localsInUse = s.localsInUse := by
      rw [State.localsInUse_invoking hF (meth := meth) (c := c) X.method X.code, State.localsInUse_invoking X.frames X.method X.code]
    simp only [State.hasRoom, Bool.and_eq_true, decide_eq_true_eq] at h ⊢
    obtain ⟨⟨⟨⟨h1, h2, h3, h4, h5, h6⟩, h7⟩, h8⟩, h9⟩ := h
    rw [X.frames, List.length_cons] at h2 h3
    have q1 := X.heapSize
    have q2 := X.used
    simp only [hF, hU, List.length_cons, State.stackLimits_setFrames, State.stackBytes_setFrames, hl9, hb9]
    refine ⟨⟨⟨⟨by omega, by omega, by omega, by omega, by omega, h6⟩, ?_⟩, ?_⟩, X.book⟩
    · show T.heap.size + R'.cells ≤ e.platform.maxCells
      omega
    · show T.slotsUsed + R'.slots ≤ e.platform.maxSlots
      omega
  · rw [State.stackLimits_setFrames]; rfl
  · rw [State.stackBytes_setFrames]; rfl
  · refine ⟨?_, Nat.le_refl _, Nat.le_refl _, ?_, ?_, fun a c9 h9 => ⟨c9, h9, rfl, rfl, fun _ _ => rfl⟩⟩
    · obtain ⟨t, ht, -⟩ := State.frames_cons hr
      show T.setVm s.vm = { ((T.setVm s.vm).setFrames (.invoking m args :: below)).setFrames (T.setVm s.vm).frames with heap := T.heap, slotsUsed := T.slotsUsed }
      rw [State.setFrames_setFrames, State.setFrames_self ht]
      rfl
    · show T.slotsUsed = T.slotsUsed + ((T.heap.toList.drop T.heap.size).map (·.slots.size)).sum
      rw [List.drop_eq_nil_of_le (Nat.le_of_eq Array.length_toList)]
      rfl
    · show ((T.heap.toList.drop T.heap.size).map (·.slots.size)).sum ≤ 0
      rw [List.drop_eq_nil_of_le (Nat.le_of_eq Array.length_toList)]
      exact Nat.le_refl _
/-- 'throw new E()': new; dup; invokespecial; athrow -/
theorem vx_throw0 {cc : ByteArray} {pc : Nat} (hexec : p.tables.exec = Jvm.exec) (hb : c.code = cc) (hl : l.stackTraces = false) {own cls : String} {names : List String} {ik ic mc ms : Nat} {A : Nat → Prop}
    (hown : s.vm.findClass own = some m.cls) (hcls : Bundle.fit cls = true) (hnames : ∀ n ∈ names, Bundle.fit n = true)
    (hk : (Cond.classLink own ik cls).before args s = true) (hini : (Cond.initialized cls).before args s = true) (hat : ∀ w ∈ vx_at0 own ic cls names, w.before args s = true)
    (hgood : ∀ w ∈ Cond.classLink own ik cls :: Cond.initialized cls :: vx_at0 own ic cls names, vx_ot w = true)
    (hU : vx_Zq Bundle.tN "UNASSIGNED_STACK" Bundle.steD A s s.heap) (hN : vx_Zq Bundle.tN "SUPPRESSED_SENTINEL" Bundle.listD A s s.heap) (hS : va_S A s.heap H locs) (hsize : ls.size = c.maxLocals)
    (d0 : decode cc pc = .ok (.new ik, 3)) (d3 : decode cc (pc + 3) = .ok (.dup, 1)) (d4 : decode cc (pc + 4) = .ok (.invokespecial ic, 3)) (d7 : decode cc (pc + 7) = .ok (.athrow, 1))
    (hout : ∀ x ∈ c.exceptionTable.toList, covers x (pc + 7) = false)
    (hRframes : names.length + 3 < R.frames) (hRlocals : (rest.map fun v => v.category).sum + (13 * (names.length + 1) + 42) ≤ R.locals) (hRcells : cells + 1 ≤ R.cells) (hRslots : slots + 6 ≤ R.slots) (hlocks : meth.locks = false)
    (hx : ∀ t : State, s.vm.Alike t.vm → H.size ≤ t.heap.size → (∀ q : Nat, q < H.size → t.heap[q]? = H[q]?) → XC cls s t)
    (hf : ∀ z ∈ locs, free z.base) (hc : cells + 1 ≤ mc) (hs : slots + 6 ≤ ms) :
    W p l e R s m args below meth c H locs cells slots (vx_MQ below Qc XC args s mc ms free) (F0 m pc ls rest) := by
  intro T hT X
  have htr : e.platform.stackTraces = false := (show e.platform.stackTraces = l.stackTraces by rw [X.admits.platform]).trans hl
  have Y := vx_rebase X (R' := { frames := R.frames, locals := R.locals, cells := 1, slots := 6 }) (Nat.le_refl _) (Nat.le_refl _) hRcells hRslots
  obtain ⟨s', hA⟩ : ∃ z, z = (T.setVm s.vm).setFrames (.invoking m args :: below) := ⟨_, rfl⟩
  rw [← hA] at Y
  have hvm : s'.vm = s.vm := by rw [hA]; rfl
  have hhp : s'.heap = H := by rw [hA]; exact hT
  have hW0 : s.WarmedH s'.vm := by rw [hvm]; exact State.WarmedH.refl s
  have hat' : ∀ w ∈ vx_at0 own ic cls names, w.before args s' = true := fun w hw => vx_ot_at hW0 hvm.symm (hgood w (List.mem_cons_of_mem _ (List.mem_cons_of_mem _ hw))) (hat w hw)
  have hk' : (Cond.classLink own ik cls).before args s' = true := vx_ot_at hW0 hvm.symm (hgood _ List.mem_cons_self) hk
  have hini' : (Cond.initialized cls).before args s' = true := vx_ot_at hW0 hvm.symm (hgood _ (List.mem_cons_of_mem _ List.mem_cons_self)) hini
  have hU' : vx_Zq Bundle.tN "UNASSIGNED_STACK" Bundle.steD A s' s'.heap := by rw [hhp]; exact vx_Zq.moved hW0.alike (hU.kept hS.2.1)
  have hN' : vx_Zq Bundle.tN "SUPPRESSED_SENTINEL" Bundle.listD A s' s'.heap := by rw [hhp]; exact vx_Zq.moved hW0.alike (hN.kept hS.2.1)
  have h : ∀ w ∈ Bundle.ownAtoms0 own ic cls names, w.before args s' = true := vx_own hat' (vx_isRefq hU'.1) (vx_isRefq hN'.1) hU'.2.word hN'.2.word
  have hown' : s'.vm.findClass own = some m.cls := by rw [hvm]; exact hown
  have hins : (Cond.instantiable cls 6).before args s' = true := h _ (by simp [Bundle.ownAtoms0])
  obtain ⟨vm₁, cX, kX, hfX, hkX, -, -, X₁, st1⟩ := Y.newCold hexec (own := own) (C := cls) (index := ik) (n := 6) hown' hk' hins hini'
    (g := F0 m pc ls rest) rfl (by rw [hb]; exact d0) (Nat.le_refl _) (Nat.le_refl _)
  generalize hT1 : (T.setVm vm₁).pushCell { cls := cX, slots := kX.instanceTypes.map defaultValue, vm := .none } = T1 at X₁ st1
  have hcat : (Value.ref T.heap.size).category = 1 := rfl
  have hcellA : T1.heap[T.heap.size]? = some (freshCell cX kX) := by rw [← hT1]; exact State.heap_pushCell_size _ _
  have d3' : decode c.code (pc + 3) = .ok (.dup, 1) := by rw [hb]; exact d3
  obtain ⟨U, hsteps, hrun, hend, hW, hsame, ce, hce, hO⟩ := X₁.ctorThrow0 hexec htr (own := own) (cls := cls) (names := names) (ic := ic) hown' hcls hnames h (fun x hx => nomatch hx) hfX hkX hcellA (by rw [hhp, hT]; exact Nat.le_refl _)
    (g := { method := m, pc := pc + 4, locals := ls, stack := .ref T.heap.size :: .ref T.heap.size :: rest, locked := none }) rfl hsize rfl rfl (rest := rest) rfl
    (by rw [hb]; exact d4) (by rw [hb]; exact d7) hout hRframes (by simp only [List.map_cons, List.sum_cons, hcat]; omega) hlocks
  obtain ⟨f1, f2⟩ := vx_frame hsame
  rw [hhp] at f1 f2
  have hWs : s.WarmedH U.vm := State.WarmedH.trans hW0 hW
  have hcl : s.vm.findClass cls = some ce.cls := by
    have h9 := hO.cls
    rw [hvm] at h9
    exact h9
  have hall : s.sameButNew ({ U with vm := s.vm } : State) locs mc ms := by
    subst hA
    obtain ⟨e1, e2⟩ := hsame
    rw [State.setFrames_setFrames] at e1
    have h2 : (T.setVm s.vm).sameButNew ({ U with vm := s.vm } : State) [] (0 + 1) (0 + 6) := ⟨e1, e2⟩
    have h3 := X.same.trans h2
    rw [List.append_nil] at h3
    exact h3.mono hc hs
  refine ⟨U, ?_, .threw T.heap.size, hrun, hend, Or.inr ⟨T.heap.size, rfl, cls, ce, locs, hx U hWs.alike f1 (fun q hq => f2 q hq (fun z hz => nomatch hz)), hce, hO.vm, hcl, hWs, hall, hf⟩⟩
  refine st1 _ ?_
  show Steps p.tables e below (T1.setTop { method := m, pc := pc + 3, locals := ls, stack := .ref T.heap.size :: rest, locked := none }) _
  jvm_step X₁.here [X₁.here.top, hexec, d3', Value.category]
  exact hsteps
/-- 'throw new E("text")': new; dup; ldc; invokespecial; athrow -/
theorem vx_throwS {cc : ByteArray} {pc : Nat} (hexec : p.tables.exec = Jvm.exec) (hb : c.code = cc) (hl : l.stackTraces = false) {own cls text : String} {names : List String} {ik is ic mc ms sa : Nat} {A : Nat → Prop}
    (hown : s.vm.findClass own = some m.cls) (hcls : Bundle.fit cls = true) (hnames : ∀ n ∈ names, Bundle.fit n = true)
    (hk : (Cond.classLink own ik cls).before args s = true) (hini : (Cond.initialized cls).before args s = true) (hstr : vk_R own is text sa s) (hat : ∀ w ∈ vx_atS own ic cls names, w.before args s = true)
    (hgood : ∀ w ∈ Cond.classLink own ik cls :: Cond.initialized cls :: vx_atS own ic cls names, vx_ot w = true)
    (hU : vx_Zq Bundle.tN "UNASSIGNED_STACK" Bundle.steD A s s.heap) (hN : vx_Zq Bundle.tN "SUPPRESSED_SENTINEL" Bundle.listD A s s.heap) (hS : va_S A s.heap H locs) (hsize : ls.size = c.maxLocals)
    (d0 : decode cc pc = .ok (.new ik, 3)) (d3 : decode cc (pc + 3) = .ok (.dup, 1)) (d4 : decode cc (pc + 4) = .ok (.ldc is, 2)) (d6 : decode cc (pc + 6) = .ok (.invokespecial ic, 3)) (d9 : decode cc (pc + 9) = .ok (.athrow, 1))
    (hout : ∀ x ∈ c.exceptionTable.toList, covers x (pc + 9) = false)
    (hRframes : names.length + 3 < R.frames) (hRlocals : (rest.map fun v => v.category).sum + (13 * (names.length + 1) + 43) ≤ R.locals) (hRcells : cells + 1 ≤ R.cells) (hRslots : slots + 6 ≤ R.slots) (hlocks : meth.locks = false)
    (hx : ∀ t : State, s.vm.Alike t.vm → H.size ≤ t.heap.size → (∀ q : Nat, q < H.size → t.heap[q]? = H[q]?) → XC cls s t)
    (hf : ∀ z ∈ locs, free z.base) (hc : cells + 1 ≤ mc) (hs : slots + 6 ≤ ms) :
    W p l e R s m args below meth c H locs cells slots (vx_MQ below Qc XC args s mc ms free) (F0 m pc ls rest) := by
  intro T hT X
  have htr : e.platform.stackTraces = false := (show e.platform.stackTraces = l.stackTraces by rw [X.admits.platform]).trans hl
  have Y := vx_rebase X (R' := { frames := R.frames, locals := R.locals, cells := 1, slots := 6 }) (Nat.le_refl _) (Nat.le_refl _) hRcells hRslots
  obtain ⟨s', hA⟩ : ∃ z, z = (T.setVm s.vm).setFrames (.invoking m args :: below) := ⟨_, rfl⟩
  rw [← hA] at Y
  have hvm : s'.vm = s.vm := by rw [hA]; rfl
  have hhp : s'.heap = H := by rw [hA]; exact hT
  have hW0 : s.WarmedH s'.vm := by rw [hvm]; exact State.WarmedH.refl s
  have hat' : ∀ w ∈ vx_atS own ic cls names, w.before args s' = true := fun w hw => vx_ot_at hW0 hvm.symm (hgood w (List.mem_cons_of_mem _ (List.mem_cons_of_mem _ hw))) (hat w hw)
  have hk' : (Cond.classLink own ik cls).before args s' = true := vx_ot_at hW0 hvm.symm (hgood _ List.mem_cons_self) hk
  have hini' : (Cond.initialized cls).before args s' = true := vx_ot_at hW0 hvm.symm (hgood _ (List.mem_cons_of_mem _ List.mem_cons_self)) hini
  have hU' : vx_Zq Bundle.tN "UNASSIGNED_STACK" Bundle.steD A s' s'.heap := by rw [hhp]; exact vx_Zq.moved hW0.alike (hU.kept hS.2.1)
  have hN' : vx_Zq Bundle.tN "SUPPRESSED_SENTINEL" Bundle.listD A s' s'.heap := by rw [hhp]; exact vx_Zq.moved hW0.alike (hN.kept hS.2.1)
  have h : ∀ w ∈ Bundle.ownAtoms own ic cls names, w.before args s' = true := vx_own hat' (vx_isRefq hU'.1) (vx_isRefq hN'.1) hU'.2.word hN'.2.word
  have hown' : s'.vm.findClass own = some m.cls := by rw [hvm]; exact hown
  have hins : (Cond.instantiable cls 6).before args s' = true := h _ (by simp [Bundle.ownAtoms])
  obtain ⟨vm₁, cX, kX, hfX, hkX, -, -, X₁, st1⟩ := Y.newCold hexec (own := own) (C := cls) (index := ik) (n := 6) hown' hk' hins hini'
    (g := F0 m pc ls rest) rfl (by rw [hb]; exact d0) (Nat.le_refl _) (Nat.le_refl _)
  generalize hT1 : (T.setVm vm₁).pushCell { cls := cX, slots := kX.instanceTypes.map defaultValue, vm := .none } = T1 at X₁ st1
  have hcat : (Value.ref T.heap.size).category = 1 := rfl
  have hcellA : T1.heap[T.heap.size]? = some (freshCell cX kX) := by rw [← hT1]; exact State.heap_pushCell_size _ _
  have d3' : decode c.code (pc + 3) = .ok (.dup, 1) := by rw [hb]; exact d3
  have d4' : decode c.code (pc + 4) = .ok (.ldc is, 2) := by rw [hb]; exact d4
  have hstr' : vk_R own is text sa s' := vk_R.warm hW0 hstr
  obtain ⟨U, hsteps, hrun, hend, hW, hsame, ce, hce, hO⟩ := X₁.ctorThrowS hexec htr (own := own) (cls := cls) (names := names) (ic := ic) hown' hcls hnames h (fun x hx => nomatch hx) hfX hkX hcellA (by rw [hhp, hT]; exact Nat.le_refl _) (msg := .ref sa) rfl
    (g := { method := m, pc := pc + 6, locals := ls, stack := .ref sa :: .ref T.heap.size :: .ref T.heap.size :: rest, locked := none }) rfl hsize rfl rfl (rest := rest) rfl
    (by rw [hb]; exact d6) (by rw [hb]; exact d9) hout hRframes (by simp only [List.map_cons, List.sum_cons, hcat]; omega) hlocks
  obtain ⟨f1, f2⟩ := vx_frame hsame
  rw [hhp] at f1 f2
  have hWs : s.WarmedH U.vm := State.WarmedH.trans hW0 hW
  have hcl : s.vm.findClass cls = some ce.cls := by
    have h9 := hO.cls
    rw [hvm] at h9
    exact h9
  have hall : s.sameButNew ({ U with vm := s.vm } : State) locs mc ms := by
    subst hA
    obtain ⟨e1, e2⟩ := hsame
    rw [State.setFrames_setFrames] at e1
    have h2 : (T.setVm s.vm).sameButNew ({ U with vm := s.vm } : State) [] (0 + 1) (0 + 6) := ⟨e1, e2⟩
    have h3 := X.same.trans h2
    rw [List.append_nil] at h3
    exact h3.mono hc hs
  refine ⟨U, ?_, .threw T.heap.size, hrun, hend, Or.inr ⟨T.heap.size, rfl, cls, ce, locs, hx U hWs.alike f1 (fun q hq => f2 q hq (fun z hz => nomatch hz)), hce, hO.vm, hcl, hWs, hall, hf⟩⟩
  refine st1 _ ?_
  show Steps p.tables e below (T1.setTop { method := m, pc := pc + 3, locals := ls, stack := .ref T.heap.size :: rest, locked := none }) _
  jvm_step X₁.here [X₁.here.top, hexec, d3', Value.category]
  exact X₁.ldcString hexec (own := own) (text := text) (index := is) (a := sa) hown' hstr'.1 hstr'.2
    (g := { method := m, pc := pc + 4, locals := ls, stack := .ref T.heap.size :: .ref T.heap.size :: rest, locked := none }) rfl d4' _ hsteps
/-- 'throw new E("text")', the text by a wide index -/
theorem vx_throwSW {cc : ByteArray} {pc : Nat} (hexec : p.tables.exec = Jvm.exec) (hb : c.code = cc) (hl : l.stackTraces = false) {own cls text : String} {names : List String} {ik is ic mc ms sa : Nat} {A : Nat → Prop}
    (hown : s.vm.findClass own = some m.cls) (hcls : Bundle.fit cls = true) (hnames : ∀ n ∈ names, Bundle.fit n = true)
    (hk : (Cond.classLink own ik cls).before args s = true) (hini : (Cond.initialized cls).before args s = true) (hstr : vk_R own is text sa s) (hat : ∀ w ∈ vx_atS own ic cls names, w.before args s = true)
    (hgood : ∀ w ∈ Cond.classLink own ik cls :: Cond.initialized cls :: vx_atS own ic cls names, vx_ot w = true)
    (hU : vx_Zq Bundle.tN "UNASSIGNED_STACK" Bundle.steD A s s.heap) (hN : vx_Zq Bundle.tN "SUPPRESSED_SENTINEL" Bundle.listD A s s.heap) (hS : va_S A s.heap H locs) (hsize : ls.size = c.maxLocals)
    (d0 : decode cc pc = .ok (.new ik, 3)) (d3 : decode cc (pc + 3) = .ok (.dup, 1)) (d4 : decode cc (pc + 4) = .ok (.ldc_w is, 3)) (d7 : decode cc (pc + 7) = .ok (.invokespecial ic, 3)) (d10 : decode cc (pc + 10) = .ok (.athrow, 1))
    (hout : ∀ x ∈ c.exceptionTable.toList, covers x (pc + 10) = false)
    (hRframes : names.length + 3 < R.frames) (hRlocals : (rest.map fun v => v.category).sum + (13 * (names.length + 1) + 43) ≤ R.locals) (hRcells : cells + 1 ≤ R.cells) (hRslots : slots + 6 ≤ R.slots) (hlocks : meth.locks = false)
    (hx : ∀ t : State, s.vm.Alike t.vm → H.size ≤ t.heap.size → (∀ q : Nat, q < H.size → t.heap[q]? = H[q]?) → XC cls s t)
    (hf : ∀ z ∈ locs, free z.base) (hc : cells + 1 ≤ mc) (hs : slots + 6 ≤ ms) :
    W p l e R s m args below meth c H locs cells slots (vx_MQ below Qc XC args s mc ms free) (F0 m pc ls rest) := by
  intro T hT X
  have htr : e.platform.stackTraces = false := (show e.platform.stackTraces = l.stackTraces by rw [X.admits.platform]).trans hl
  have Y := vx_rebase X (R' := { frames := R.frames, locals := R.locals, cells := 1, slots := 6 }) (Nat.le_refl _) (Nat.le_refl _) hRcells hRslots
  obtain ⟨s', hA⟩ : ∃ z, z = (T.setVm s.vm).setFrames (.invoking m args :: below) := ⟨_, rfl⟩
  rw [← hA] at Y
  have hvm : s'.vm = s.vm := by rw [hA]; rfl
  have hhp : s'.heap = H := by rw [hA]; exact hT
  have hW0 : s.WarmedH s'.vm := by rw [hvm]; exact State.WarmedH.refl s
  have hat' : ∀ w ∈ vx_atS own ic cls names, w.before args s' = true := fun w hw => vx_ot_at hW0 hvm.symm (hgood w (List.mem_cons_of_mem _ (List.mem_cons_of_mem _ hw))) (hat w hw)
  have hk' : (Cond.classLink own ik cls).before args s' = true := vx_ot_at hW0 hvm.symm (hgood _ List.mem_cons_self) hk
  have hini' : (Cond.initialized cls).before args s' = true := vx_ot_at hW0 hvm.symm (hgood _ (List.mem_cons_of_mem _ List.mem_cons_self)) hini
  have hU' : vx_Zq Bundle.tN "UNASSIGNED_STACK" Bundle.steD A s' s'.heap := by rw [hhp]; exact vx_Zq.moved hW0.alike (hU.kept hS.2.1)
  have hN' : vx_Zq Bundle.tN "SUPPRESSED_SENTINEL" Bundle.listD A s' s'.heap := by rw [hhp]; exact vx_Zq.moved hW0.alike (hN.kept hS.2.1)
  have h : ∀ w ∈ Bundle.ownAtoms own ic cls names, w.before args s' = true := vx_own hat' (vx_isRefq hU'.1) (vx_isRefq hN'.1) hU'.2.word hN'.2.word
  have hown' : s'.vm.findClass own = some m.cls := by rw [hvm]; exact hown
  have hins : (Cond.instantiable cls 6).before args s' = true := h _ (by simp [Bundle.ownAtoms])
  obtain ⟨vm₁, cX, kX, hfX, hkX, -, -, X₁, st1⟩ := Y.newCold hexec (own := own) (C := cls) (index := ik) (n := 6) hown' hk' hins hini'
    (g := F0 m pc ls rest) rfl (by rw [hb]; exact d0) (Nat.le_refl _) (Nat.le_refl _)
  generalize hT1 : (T.setVm vm₁).pushCell { cls := cX, slots := kX.instanceTypes.map defaultValue, vm := .none } = T1 at X₁ st1
  have hcat : (Value.ref T.heap.size).category = 1 := rfl
  have hcellA : T1.heap[T.heap.size]? = some (freshCell cX kX) := by rw [← hT1]; exact State.heap_pushCell_size _ _
  have d3' : decode c.code (pc + 3) = .ok (.dup, 1) := by rw [hb]; exact d3
  have d4' : decode c.code (pc + 4) = .ok (.ldc_w is, 3) := by rw [hb]; exact d4
  have hstr' : vk_R own is text sa s' := vk_R.warm hW0 hstr
  obtain ⟨U, hsteps, hrun, hend, hW, hsame, ce, hce, hO⟩ := X₁.ctorThrowS hexec htr (own := own) (cls := cls) (names := names) (ic := ic) hown' hcls hnames h (fun x hx => nomatch hx) hfX hkX hcellA (by rw [hhp, hT]; exact Nat.le_refl _) (msg := .ref sa) rfl
    (g := { method := m, pc := pc + 7, locals := ls, stack := .ref sa :: .ref T.heap.size :: .ref T.heap.size :: rest, locked := none }) rfl hsize rfl rfl (rest := rest) rfl
    (by rw [hb]; exact d7) (by rw [hb]; exact d10) hout hRframes (by simp only [List.map_cons, List.sum_cons, hcat]; omega) hlocks
  obtain ⟨f1, f2⟩ := vx_frame hsame
  rw [hhp] at f1 f2
  have hWs : s.WarmedH U.vm := State.WarmedH.trans hW0 hW
  have hcl : s.vm.findClass cls = some ce.cls := by
    have h9 := hO.cls
    rw [hvm] at h9
    exact h9
  have hall : s.sameButNew ({ U with vm := s.vm } : State) locs mc ms := by
    subst hA
    obtain ⟨e1, e2⟩ := hsame
    rw [State.setFrames_setFrames] at e1
    have h2 : (T.setVm s.vm).sameButNew ({ U with vm := s.vm } : State) [] (0 + 1) (0 + 6) := ⟨e1, e2⟩
    have h3 := X.same.trans h2
    rw [List.append_nil] at h3
    exact h3.mono hc hs
  refine ⟨U, ?_, .threw T.heap.size, hrun, hend, Or.inr ⟨T.heap.size, rfl, cls, ce, locs, hx U hWs.alike f1 (fun q hq => f2 q hq (fun z hz => nomatch hz)), hce, hO.vm, hcl, hWs, hall, hf⟩⟩
  refine st1 _ ?_
  show Steps p.tables e below (T1.setTop { method := m, pc := pc + 3, locals := ls, stack := .ref T.heap.size :: rest, locked := none }) _
  jvm_step X₁.here [X₁.here.top, hexec, d3', Value.category]
  exact X₁.ldcStringW hexec (own := own) (text := text) (index := is) (a := sa) hown' hstr'.1 hstr'.2
    (g := { method := m, pc := pc + 4, locals := ls, stack := .ref T.heap.size :: .ref T.heap.size :: rest, locked := none }) rfl d4' _ hsteps
end Ends
section Bodies
variable {l : Launch}
theorem vx_ofW {y : MethodName} {ws ws' : List Cond} {rm : Room} {Pc : Array Value → State → Prop} {Qc : Array Value → State → Outcome → State → Prop} {XC : String → State → State → Prop} {mc ms : Nat} {free : Addr → Prop} {cc : ByteArray} {maxL : Nat} {ret : Option FieldType}
    (hy : plainName y.cls = true) (hw : ws = Cond.code y cc maxL ret :: ws')
    (body : ∀ p e s m args below meth c s₁, BodyLoose p l y (headSpec ws rm) cc maxL ret e s m args below meth c s₁ → c.maxLocals = maxL → (∀ x ∈ c.exceptionTable.toList, False) → Pc args s →
      W p l e (headSpec ws rm).room s m args below meth c s.heap [] 0 0 (vx_MQ below Qc XC args s mc ms free) (entryFrame m args maxL)) : vx_Met l y ws rm Pc Qc XC mc ms free := by
  refine MetFree.of_bodyS (code := cc) (maxLocals := maxL) (ret := ret) hy ?_ ?_
  · intro args s m h hn
    obtain ⟨meth, c, h1, h2, h3, h4, h5, h6, -, -⟩ := Cond.code_spec hn (atoms_spec (ws := ws) h _ (by rw [hw]; exact List.mem_cons_self))
    exact ⟨meth, c, h1, h2, h3, h4, h5, h6⟩
  · intro p e s m args below meth c s₁ B hml hP _
    have hh0 : s₁.heap = s.heap := by rw [B.state]; rfl
    have ht : ∀ x ∈ c.exceptionTable.toList, False := by
      obtain ⟨meth9, c9, h1, h2, -, -, -, -, h7, -⟩ := Cond.code_spec B.named (atoms_spec (ws := ws) B.pre _ (by rw [hw]; exact List.mem_cons_self))
      cases Option.some.inj (h1.symm.trans B.method)
      cases Option.some.inj (h2.symm.trans (Stand.of_body B).code)
      intro x hx
      rw [Array.isEmpty_iff.mp h7] at hx
      cases hx
    obtain ⟨t, a1, o, b1, b2, b3⟩ := body p e s m args below meth c s₁ B hml ht hP s₁ hh0 (Stand.of_body B)
    exact ⟨t, o, a1, b1, b2, b3⟩
/-- the table of a body with handlers -/
theorem vx_table {p : Program} {x y : MethodName} {S : Spec} {cc bytes : ByteArray} {maxL maxL' : Nat} {ret ret' : Option FieldType} {e : Env} {s s₁ : State} {m : MethodId} {args : Array Value} {below : List Frame} {meth : Method} {c : Code} {hh : List (Nat × Nat × Nat × Nat)}
    (B : BodyLoose p l y S cc maxL ret e s m args below meth c s₁) (h : (Cond.codeWith y bytes maxL' ret' hh).before args s = true) : c.exceptionTable.toList = tableOf hh := by
  obtain ⟨m9, meth9, c9, hn9, h1, h2, -, -, h6, -⟩ := Cond.codeWith_spec h
  cases Option.some.inj (hn9.symm.trans B.named)
  cases Option.some.inj (h1.symm.trans B.method)
  cases Option.some.inj (h2.symm.trans (Stand.of_body B).code)
  rw [← h6, table_eq]
end Bodies
end VXA
/-! ===== END ===== -/
/-! ===== BEGIN a static call of a method with an exception table ===== -/
section VXS
variable {p : Program} {l : Launch} {e : Env} {R : Room} {s : State} {m : MethodId} {args : Array Value} {below : List Frame} {meth : Method} {c : Code} {T : State} {H : Heap} {locs : List Loc} {cells slots : Nat}
abbrev vx_CSW (R : Room) (s : State) (args : Array Value) (own : String) (index : Nat) (y : MethodName) (bytes : ByteArray) (maxL : Nat) (ret : Option FieldType) (hh : List (Nat × Nat × Nat × Nat)) (ws : List Cond) (rm : Room) (mc ms n : Nat) : Prop :=
  (rm.cells = mc ∧ rm.slots = ms ∧ rm.frames + 1 ≤ R.frames ∧ 8 + (maxL + 11) + rm.locals ≤ R.locals ∧ (∀ w ∈ ws, ∀ (a' : Array Value) (U : State), s.WarmedH U.vm → w.before a' U = true) ∧ Cond.codeWith y bytes maxL ret hh ∈ ws) ∧
  (Cond.codeWith y bytes maxL ret hh).before args s = true ∧ (Cond.initialized y.cls).before args s = true ∧ (y.cls ≠ "java/lang/invoke/MethodHandle" ∧ y.cls ≠ "java/lang/invoke/VarHandle") ∧
  (∀ sig, parseMethodDescriptor y.desc = some sig → n = sig.parameters.length) ∧ (Cond.methodLink own index y).before args s = true ∧ (Cond.static y).before args s = true
theorem vx_cwSW {own : String} {index maxL mc ms : Nat} {y : MethodName} {bytes : ByteArray} {ret : Option FieldType} {hh : List (Nat × Nat × Nat × Nat)} {Ts ws ws' : List Cond} {rm : Room} (n : Nat) (ht : ∀ w ∈ Ts, w.before args s = true) (hT : GoodIn Ts (va_wsS own index y ws)) (hw : ws = Cond.codeWith y bytes maxL ret hh :: ws') (hrc : rm.cells = mc) (hrs : rm.slots = ms)
    (hd : y.cls ≠ "java/lang/invoke/MethodHandle" ∧ y.cls ≠ "java/lang/invoke/VarHandle" ∧ (parseMethodDescriptor y.desc).map (fun d => d.parameters.length) = some n) (hR : rm.frames + 1 ≤ R.frames ∧ 8 + (maxL + 11) + rm.locals ≤ R.locals) :
    vx_CSW R s args own index y bytes maxL ret hh ws rm mc ms n := by
  have ok : ∀ w ∈ va_wsS own index y ws, w.before args s = true := fun w h => ht w (hT w h).1
  have hG : GoodIn Ts ws := fun w h => hT w (by unfold va_wsS; exact List.mem_append_right _ h)
  have hc : Cond.codeWith y bytes maxL ret hh ∈ ws := by rw [hw]; exact List.mem_cons_self
  refine ⟨⟨hrc, hrs, hR.1, hR.2, pay_in ht hG, hc⟩, ht _ (hG _ hc).1, ok _ (by simp [va_wsS]), ⟨hd.1, hd.2.1⟩, fun sig h => ?_, ok _ (by simp [va_wsS]), ok _ (by simp [va_wsS])⟩
  have h2 := hd.2.2
  rw [h] at h2
  exact (Option.some.inj h2).symm
theorem vx_callSW (X : Stand p l e R s m args below meth c T locs cells slots) (hexec : p.tables.exec = Jvm.exec) {own : String} {index : Nat} {y : MethodName} {bytes : ByteArray} {maxL : Nat} {ret : Option FieldType} {hh : List (Nat × Nat × Nat × Nat)}
    (hown : s.vm.findClass own = some m.cls) (hlink : (Cond.methodLink own index y).before args s = true) (hstat : (Cond.static y).before args s = true) (hinit : (Cond.initialized y.cls).before args s = true)
    (hcode : (Cond.codeWith y bytes maxL ret hh).before args s = true) (hy : y.cls ≠ "java/lang/invoke/MethodHandle" ∧ y.cls ≠ "java/lang/invoke/VarHandle")
    {W9 : Nat} {Pre : Pt → Array Value → Prop} {Post : Pt → Array Value → Option Value → Pt → Prop} (hK : Back l R p e below s args y 3 W9 Pre Post)
    {g : JFrame} (hg : g.method = m) (hsize : g.locals.size = c.maxLocals) {argsL rest : List Value} (hlen : ∀ sig, parseMethodDescriptor y.desc = some sig → argsL.length = sig.parameters.length)
    (hstack : g.stack = argsL.reverse ++ rest) (hW : 2 * g.monitorRoom + (rest.map fun v => v.category).sum ≤ W9) (hdg : decode c.code g.pc = .ok (.invokestatic index, 3))
    (hpre : ∀ vm₁, s.WarmedH vm₁ → Pre ⟨T.setVm vm₁, locs, cells, slots⟩ argsL.toArray) :
    ∃ (v : Option Value) (vm₁ : Vm) (B : Pt), s.WarmedH vm₁ ∧ Stand p l e R s m args below meth c B.U B.locs B.cells B.slots ∧ Post ⟨T.setVm vm₁, locs, cells, slots⟩ argsL.toArray v B ∧
      ∀ target, Steps p.tables e below (B.U.setTop { g with pc := g.pc + 3, stack := v.toList ++ rest }) target → Steps p.tables e below (T.setTop g) target := by
  obtain ⟨mk, methM, cM, hnamed, hmethM, -, -, -, -, -, -, hsigM⟩ := Cond.codeWith_spec hcode
  have hstatic : methM.isStatic = true := Cond.static_spec hnamed hmethM hstat
  obtain ⟨kP, hkP, -⟩ := className_of_methodNamed hnamed
  have hinitP : kP.init = .initialized := Cond.initialized_spec (findClass_of_methodNamed hnamed) hkP hinit
  obtain ⟨vm₁, X₁, hstep₁⟩ := X.invokestatic hexec hown hlink hnamed hmethM hstatic hkP hinitP hy (g := g) hg (argsL := argsL) (rest := rest) (hlen _ hsigM) hstack hdg
  obtain ⟨v, B, X', hpost, hsteps⟩ := hK m meth c ⟨T.setVm vm₁, locs, cells, slots⟩ { g with stack := rest } (.invokestatic index) mk argsL.toArray X₁ hg hsize hdg hW (X₁.named hnamed) (hpre vm₁ X₁.warmed)
  exact ⟨v, vm₁, B, X₁.warmed, X', hpost, fun target h => hstep₁ _ fun acts => by rw [doInvoke_state]; exact hsteps.trans h⟩
theorem vx_runSW {y : MethodName} {bytes cc : ByteArray} {maxL nL mc ms n index : Nat} {ret : Option FieldType} {hh : List (Nat × Nat × Nat × Nat)} {ws : List Cond} {rm : Room} {Pc : Array Value → State → Prop} {Qc : Array Value → State → Outcome → State → Prop} {free : Addr → Prop} {Ts : List Cond} {own : String} {As rest : List Value} {g : JFrame}
    (S : CallFix p m c cc nL s args Ts own) (hM : Met l y ws rm Pc Qc mc ms free) (cw : vx_CSW R s args own index y bytes maxL ret hh ws rm mc ms n) (hp : PreS s H Pc As)
    (hg : g.method = m) (hn : As.length = n) (hsize : g.locals.size = nL) (hstack : g.stack = As.reverse ++ rest) (hW : 2 * g.monitorRoom + (rest.map fun v => v.category).sum ≤ 8) (hdg : decode cc g.pc = .ok (.invokestatic index, 3)) (hf : cells + mc ≤ R.cells ∧ slots + ms ≤ R.slots) :
    va_Run p l e R s m args below meth c H locs cells slots mc ms g rest (Qc As.toArray) (free) := by
  obtain ⟨⟨hrc, hrs, hfr, hlo, hws, hcw⟩, hcode, hini, hy, hlen, hl, hstt⟩ := cw
  have hK : Back l R p e below s args y 3 8 (PreOf R mc ms Pc) (PostOf Qc mc ms free) := va_backW (hh := hh) (bytes := bytes) (maxL := maxL) (ret := ret) hM hp.1 hrc hrs hfr hlo hws hcw (fun a' U hW => word_at hW (Or.inl (by first | rfl | simp [Cond.onTables, Cond.keeps, Cond.steady])) hini)
  obtain ⟨hx, hb, hml, ho, -⟩ := S
  intro T hT X
  obtain ⟨v, vm₁, ⟨U', l2, c2, s2⟩, hW₁, X', ⟨g', mk, t, L, e1, e2, hq, h1, hL, h2, h3⟩, st⟩ := vx_callSW X hx (hh := hh) (bytes := bytes) (maxL := maxL) (ret := ret) ho hl hstt hini hcode hy hK hg (hsize.trans hml.symm) (argsL := As) (rest := rest) (fun sig h => hn.trans (hlen sig h)) hstack hW (by rw [hb]; exact hdg)
    (fun vm₁ hW₁ => ⟨hf.1, hf.2, hp.2 (T.setVm vm₁) hT hW₁⟩)
  dsimp only [Pt.U, Pt.locs, Pt.cells, Pt.slots] at X' e1 e2 h1 h2 h3 st
  subst h1; subst h2; subst h3
  exact ⟨v, (T.setVm vm₁).calling g' mk As.toArray, t, U', L, hT, X', hL, e1, e2, hq, st⟩
/-- not caught here, past rows that name other classes: it goes on to the caller -/
theorem vx_outP {p : Program} {l : Launch} {e : Env} {R : Room} {s : State} {m : MethodId} {args : Array Value} {below : List Frame} {meth : Method} {c : Code} {H : Heap} {locs : List Loc} {cells slots : Nat} {free : Addr → Prop} {ls : Array Slot} {rest : List Value} {Qc : Array Value → State → Outcome → State → Prop} {XC : String → State → State → Prop}
    {pc : Nat} {own E : String} {ce : Cell} {q : Addr} {mc ms : Nat} (hown : s.vm.findClass own = some m.cls) (hlocks : meth.locks = false)
    (hpass : ∀ z ∈ c.exceptionTable.toList, covers z pc = false ∨ (z.catchType ≠ 0 ∧ ∃ nm : String, (Cond.classLink own z.catchType nm).before args s = true ∧ va_Nc E nm s)) (hcell : H[q]? = some ce) (hv : ce.vm = .none) (hcl : s.vm.findClass E = some ce.cls)
    (hx : ∀ t : State, t.heap = H → s.vm.Alike t.vm → XC E s t) (hf : ∀ z ∈ locs, free z.base) (hc : cells ≤ mc) (hs : slots ≤ ms) :
    vx_W p l e R s m args below meth c H locs cells slots (vx_MQ below Qc XC args s mc ms free) (F0 m pc ls rest) q := by
  intro T hT X
  have hpl : e.platform.magicAccessors = ({} : Platform).magicAccessors := by rw [X.admits.platform]
  obtain ⟨vm', hW', X', st⟩ := X.outThrough hlocks q (g := F0 m pc ls rest) rfl rfl rfl (cell := ce) (by rw [hT]; exact hcell) (by rw [hv]; rfl)
    (by obtain ⟨k9, h9, -⟩ := Vm.findClass_spec hcl; exact ⟨k9, h9⟩) (fun z hz => by
      rcases hpass z hz with h | ⟨hz0, nm, hl1, hn1⟩
      · exact Or.inl h
      · obtain ⟨c6, hc6, hcl6⟩ := Cond.classLink_spec hown hl1 e.platform hpl
        obtain ⟨a8, b8, h1, h2, h3⟩ := hn1
        cases Option.some.inj (h1.symm.trans hcl)
        cases Option.some.inj (h2.symm.trans hc6)
        exact Or.inr ⟨hz0, _, hcl6, h3⟩)
  obtain ⟨g₀, hfr⟩ := X'.frames_eq
  have hcell9 : ((T.setVm vm').setFrames (.throwing q :: below)).heap[q]? = some ce := by
    show T.heap[q]? = some ce
    rw [hT]; exact hcell
  have hend : Ended ((T.setVm vm').setFrames (.throwing q :: below)) below (.threw q) := State.frames_setFrames _ (State.cur_lt_of_frames hfr)
  refine ⟨(T.setVm vm').setFrames (.throwing q :: below), ?_, .threw q, X'.here.running, hend, Or.inr ⟨q, rfl, E, ce, locs, hx _ hT (X'.ends _).1.alike, hcell9, hv, hcl, (X'.ends _).1, (X'.ends _).2.mono hc hs, hf⟩⟩
  rw [X.pushThrowing_eq]
  exact st
/-- a thing of a world lies in the heap -/
theorem vx_lt {D : va_G} {cl : List vw_C} {ws : va_W} {H1 : Heap} (h : va_P D cl ws H1) {k : Nat} {q : Nat × va_E} (hk : ws[k]? = some q) : q.1 < H1.size := (h k q hk).lt
end VXS
/-! ===== END ===== -/
/-! ===== BEGIN methods with a table of their own: called by a name, returning or throwing ===== -/
section VXH
/-! vx_backW, vx_callVX, vx_callSX, vx_callVW, vx_runVW, vx_runVX, vx_runSX, vx_ofWH follow the same proofs as their sisters above (Free/Laws.lean, Shelf42/LK1.lean); vx_outP calls Shelf42/NT130.lean (outThrough). -/
section
variable {l : Launch} {R : Room} {p : Program} {e : Env} {below : List Frame} {s : State} {sargs : Array Value} {y : MethodName} {len W9 : Nat}
theorem vx_backW {ws : List Cond} {rm : Room} {Pc : Array Value → State → Prop} {Qc : Array Value → State → Outcome → State → Prop} {XC : String → State → State → Prop} {mc ms : Nat} {free : Addr → Prop} {bytes : ByteArray} {maxL : Nat} {ret : Option FieldType} {hh : List (Nat × Nat × Nat × Nat)}
    (hM : vx_Met l y ws rm Pc Qc XC mc ms free) (hblind : FrameBlind Pc) (hrc : rm.cells = mc) (hrs : rm.slots = ms)
    (hframes : rm.frames + 1 ≤ R.frames) (hlocals : W9 + (maxL + 11) + rm.locals ≤ R.locals)
    (hws : ∀ w ∈ ws, ∀ a' U, s.WarmedH U.vm → w.before a' U = true) (hcode : Cond.codeWith y bytes maxL ret hh ∈ ws) (hinit : ∀ a' U, s.WarmedH U.vm → (Cond.initialized y.cls).before a' U = true) :
    vx_Back l R p e below s sargs y len W9 (PreOf R mc ms Pc) (PostOf Qc mc ms free) (vx_Post XC mc ms free) := by
  intro m meth c A g ig mk a X hg hsize hdg hW hn hp
  have h1 : (headSpec ws rm).pre.before a A.U = true := atoms_intro fun w hw => hws w hw _ _ X.warmed
  have h2 : (Cond.codeWith y bytes maxL ret hh).before a A.U = true := hws _ hcode _ _ X.warmed
  have h3 : (Cond.initialized y.cls).before a A.U = true := hinit _ _ X.warmed
  have h4 : A.cells + (headSpec ws rm).room.cells ≤ R.cells := by rw [show (headSpec ws rm).room.cells = mc from hrc]; exact hp.1
  have h5 : A.slots + (headSpec ws rm).room.slots ≤ R.slots := by rw [show (headSpec ws rm).room.slots = ms from hrs]; exact hp.2.1
  have hPc : Pc a (A.U.calling g mk a) := hblind _ _ _ _ hp.2.2
  obtain ⟨U, Ls, c0, s0⟩ := A
  dsimp only [Pt.U, Pt.locs, Pt.cells, Pt.slots] at h1 h2 h3 h4 h5 X hn hPc ⊢
  obtain ⟨m9, methY, cY, hn9, hmY, hcY, -, hlY, -⟩ := Cond.codeWith_spec h2
  cases Option.some.inj (hn9.symm.trans hn)
  obtain ⟨kY, hkY, -⟩ := className_of_methodNamed hn
  have hinitY : kY.init = .initialized := Cond.initialized_spec (findClass_of_methodNamed hn) hkY h3
  have h : At U g.method c below := by rw [hg]; exact X.here
  have hlocals9 : W9 + (maxL + 11) + (headSpec ws rm).room.locals ≤ R.locals := hlocals
  have happ : (headSpec ws rm).appliesLoose y e.platform (U.calling g mk a) = true :=
    Spec.appliesLoose_calling (g := g) h hdg hn hkY hinitY
      (X.room_calling (g := g) (R' := (headSpec ws rm).room) hsize hmY hcY hframes (by rw [hlY]; omega) h4 h5) h1
  obtain ⟨mid, hmid⟩ := h.above
  have hfr : (U.setTop g).frames = (.java g :: mid) ++ below := by rw [State.frames_setTop' g h.top, hmid]; rfl
  obtain ⟨o, s₂, hsteps, -, hend, hq⟩ := Steps.callFree hM p X.admits X.cas X.clock (acts := []) hfr happ hPc trivial
  have hq' : vx_Q Qc XC mc ms free a (U.calling g mk a) o s₂ := hq
  rw [State.frames_setTop' g h.top] at hend
  obtain ⟨g₀, hg0⟩ := Option.isSome_iff_exists.mp h.top
  obtain ⟨r, hr⟩ := State.topJava?_eq_some.mp hg0
  have hr' : (({ U with heap := s₂.heap, slotsUsed := s₂.slotsUsed } : State).setVm s₂.vm).frames = .java g₀ :: r := hr
  rcases hq' with ⟨hqc, L, hfe, hL⟩ | ⟨q, rfl, E, ce, L, hx, hce, hcv, hcl, hW₂, hsm, hL⟩
  · obtain ⟨⟨v, rfl⟩, hW₂, e2, q2, q3, q4, q5, q6⟩ := id hfe
    have e3 : s₂ = ({ (U.calling g mk a).setFrames s₂.frames with heap := s₂.heap, slotsUsed := s₂.slotsUsed } : State).setVm s₂.vm := by
      have : s₂ = ({ s₂ with vm := (U.calling g mk a).vm } : State).setVm s₂.vm := rfl
      rw [e2] at this
      exact this
    obtain ⟨c₂, i₂, len₂, hc₂, hd₂, hf₂⟩ := hend
    have hW' : U.WarmedH s₂.vm := hW₂
    have hcc : c₂ = c := by
      have h1 : s₂.code? g.method = U.code? g.method := by
        rw [State.code?_eq, State.code?_eq, hW'.alike.method?]
      exact Option.some.inj (hc₂.symm.trans (h1.trans h.code))
    subst hcc
    have hlen : len₂ = len := by rw [hdg] at hd₂; cases hd₂; rfl
    subst hlen
    have hs₂ : s₂ = (({ U with heap := s₂.heap, slotsUsed := s₂.slotsUsed } : State).setVm s₂.vm).setTop { g with pc := g.pc + len₂, stack := v.toList ++ g.stack } := by
      refine e3.trans ?_
      rw [hf₂, State.calling_eq h.top, State.setFrames_setFrames, State.setTop_of_frames _ hr', hr]
      rfl
    have hsame : U.sameButNew ({ U with heap := s₂.heap, slotsUsed := s₂.slotsUsed } : State) L mc ms := by
      refine ⟨?_, q2, q3, q4, q5, q6⟩
      obtain ⟨t, ht, -⟩ := State.frames_cons hr
      show ({ U with heap := s₂.heap, slotsUsed := s₂.slotsUsed } : State) = { U.setFrames U.frames with heap := s₂.heap, slotsUsed := s₂.slotsUsed }
      rw [State.setFrames_self ht]
    subst hg
    refine Or.inl ⟨v, ⟨(({ U with heap := s₂.heap, slotsUsed := s₂.slotsUsed } : State).setVm s₂.vm), Ls ++ L, c0 + mc, s0 + ms⟩,
      ⟨X.admits, X.cas, X.clock, X.frames, X.room, X.hears, X.method, X.code, (X.here.setHeapUsed s₂.heap s₂.slotsUsed).setVm hW'.alike, X.tail, State.WarmedH.trans X.warmed hW', X.limits, X.bytes, X.same.trans (hsame.setVm s.vm)⟩,
      ⟨g, mk, s₂, L, rfl, rfl, hqc, rfl, hL, rfl, rfl⟩, ?_⟩
    show Steps p.tables e below _ ((({ U with heap := s₂.heap, slotsUsed := s₂.slotsUsed } : State).setVm s₂.vm).setTop { g with pc := g.pc + len₂, stack := v.toList ++ g.stack })
    rw [← hs₂]
    exact hsteps
  · obtain ⟨e2, q2, q3, q4, q5, q6⟩ := id hsm
    have e3 : s₂ = ({ (U.calling g mk a).setFrames s₂.frames with heap := s₂.heap, slotsUsed := s₂.slotsUsed } : State).setVm s₂.vm := by
      have : s₂ = ({ s₂ with vm := (U.calling g mk a).vm } : State).setVm s₂.vm := rfl
      rw [e2] at this
      exact this
    have hf₂ : s₂.frames = .throwing q :: .java g :: U.frames.tail := hend
    have hW' : U.WarmedH s₂.vm := hW₂
    have hs₂ : s₂ = ((({ U with heap := s₂.heap, slotsUsed := s₂.slotsUsed } : State).setVm s₂.vm).setTop g).pushFrame (.throwing q) := by
      refine e3.trans ?_
      rw [hf₂, State.calling_eq h.top, State.setFrames_setFrames, State.pushFrame, State.frames_setTop _ hr', State.setTop_of_frames _ hr', State.setFrames_setFrames, hr]
      rfl
    have hsame : U.sameButNew ({ U with heap := s₂.heap, slotsUsed := s₂.slotsUsed } : State) L mc ms := by
      refine ⟨?_, q2, q3, q4, q5, q6⟩
      obtain ⟨t, ht, -⟩ := State.frames_cons hr
      show ({ U with heap := s₂.heap, slotsUsed := s₂.slotsUsed } : State) = { U.setFrames U.frames with heap := s₂.heap, slotsUsed := s₂.slotsUsed }
      rw [State.setFrames_self ht]
    subst hg
    refine Or.inr ⟨q, ⟨(({ U with heap := s₂.heap, slotsUsed := s₂.slotsUsed } : State).setVm s₂.vm), Ls ++ L, c0 + mc, s0 + ms⟩,
      ⟨X.admits, X.cas, X.clock, X.frames, X.room, X.hears, X.method, X.code, (X.here.setHeapUsed s₂.heap s₂.slotsUsed).setVm hW'.alike, X.tail, State.WarmedH.trans X.warmed hW', X.limits, X.bytes, X.same.trans (hsame.setVm s.vm)⟩,
      ⟨g, mk, s₂, L, E, ce, rfl, rfl, hx, hce, hcv, hcl, rfl, hL, rfl, rfl⟩, ?_⟩
    show Steps p.tables e below _ (((({ U with heap := s₂.heap, slotsUsed := s₂.slotsUsed } : State).setVm s₂.vm).setTop g).pushFrame (.throwing q))
    rw [← hs₂]
    exact hsteps
end
variable {p : Program} {l : Launch} {e : Env} {R : Room} {s : State} {m : MethodId} {args : Array Value} {below : List Frame} {meth : Method} {c : Code} {T : State} {H : Heap} {locs : List Loc} {cells slots : Nat}
theorem vx_callVX (X : Stand p l e R s m args below meth c T locs cells slots) (hexec : p.tables.exec = Jvm.exec) {own C : String} {index : Nat} {y : MethodName} {bytes : ByteArray} {maxL : Nat} {ret : Option FieldType} {hh : List (Nat × Nat × Nat × Nat)}
    (hown : s.vm.findClass own = some m.cls) (hlink : (Cond.methodLink own index y).before args s = true) (hinst : (Cond.instanceMethod y).before args s = true) (hsel : (Cond.selects C y y).before args s = true)
    (hcode : (Cond.codeWith y bytes maxL ret hh).before args s = true) (hy : y.cls ≠ "java/lang/invoke/MethodHandle" ∧ y.cls ≠ "java/lang/invoke/VarHandle")
    {W9 : Nat} {Pre : Pt → Array Value → Prop} {Post : Pt → Array Value → Option Value → Pt → Prop} {PostX : Pt → Array Value → Addr → Pt → Prop} (hK : vx_Back l R p e below s args y 3 W9 Pre Post PostX)
    {b : Addr} {cellB : Cell} (hcell : T.heap[b]? = some cellB) (hobj : cellB.vm.isStatics = false) (hcls : s.vm.findClass C = some cellB.cls)
    {g : JFrame} (hg : g.method = m) (hsize : g.locals.size = c.maxLocals) {argsL rest : List Value} (hlen : ∀ sig, parseMethodDescriptor y.desc = some sig → argsL.length = sig.parameters.length)
    (hstack : g.stack = argsL.reverse ++ .ref b :: rest) (hW : 2 * g.monitorRoom + (rest.map fun v => v.category).sum ≤ W9) (hdg : decode c.code g.pc = .ok (.invokevirtual index, 3))
    (hpre : ∀ vm₁, s.WarmedH vm₁ → Pre ⟨T.setVm vm₁, locs, cells, slots⟩ (Value.ref b :: argsL).toArray) :
    (∃ (v : Option Value) (vm₁ : Vm) (B : Pt), s.WarmedH vm₁ ∧ Stand p l e R s m args below meth c B.U B.locs B.cells B.slots ∧ Post ⟨T.setVm vm₁, locs, cells, slots⟩ (Value.ref b :: argsL).toArray v B ∧
      ∀ target, Steps p.tables e below (B.U.setTop { g with pc := g.pc + 3, stack := v.toList ++ rest }) target → Steps p.tables e below (T.setTop g) target) ∨
    (∃ (q : Addr) (vm₁ : Vm) (B : Pt), s.WarmedH vm₁ ∧ Stand p l e R s m args below meth c B.U B.locs B.cells B.slots ∧ PostX ⟨T.setVm vm₁, locs, cells, slots⟩ (Value.ref b :: argsL).toArray q B ∧
      Steps p.tables e below (T.setTop g) ((B.U.setTop { g with stack := rest }).pushFrame (.throwing q))) := by
  obtain ⟨mk, methM, hnamed, hmethM, hstM, habM⟩ := Cond.instanceMethod_spec hinst
  obtain ⟨m8, methM', cM, hn8, hmethM', -, -, -, -, -, -, hsigM⟩ := Cond.codeWith_spec hcode
  cases Option.some.inj (hn8.symm.trans hnamed)
  cases hmethM.symm.trans hmethM'
  obtain ⟨c2, r2, m2, q1, q2, q3, q4, kP, hkP, hkPi⟩ := Cond.selects_spec hsel
  cases hcls.symm.trans q1
  cases (State.methodFound?_of_named hnamed hy).symm.trans q2
  cases hnamed.symm.trans q3
  have hselP : selectMethod e.platform s.vm cellB.cls mk = .method mk := by rw [Launch.admits_selectMethod X.admits]; exact q4
  obtain ⟨vm₁, X₁, hstep₁⟩ := X.invokevirtual hexec hown hlink hnamed hmethM hstM hkP hkPi hy (a := b) (cell := cellB) hcell
    (fun z h => by rw [h] at hobj; cases hobj) hselP hmethM habM hkP hkPi (g := g) hg (argsL := argsL) (rest := rest) (hlen _ hsigM) hstack hdg
  rcases hK m meth c ⟨T.setVm vm₁, locs, cells, slots⟩ { g with stack := rest } (.invokevirtual index) mk (Value.ref b :: argsL).toArray X₁ hg hsize hdg hW (X₁.named hnamed) (hpre vm₁ X₁.warmed) with ⟨v, B, X', hpost, hsteps⟩ | ⟨q, B, X', hpost, hsteps⟩
  · exact Or.inl ⟨v, vm₁, B, X₁.warmed, X', hpost, fun target h => hstep₁ _ fun acts => by rw [doInvoke_state]; exact hsteps.trans h⟩
  · exact Or.inr ⟨q, vm₁, B, X₁.warmed, X', hpost, hstep₁ _ fun acts => by rw [doInvoke_state]; exact hsteps⟩
theorem vx_callSX (X : Stand p l e R s m args below meth c T locs cells slots) (hexec : p.tables.exec = Jvm.exec) {own : String} {index : Nat} {y : MethodName} {bytes : ByteArray} {maxL : Nat} {ret : Option FieldType} {hh : List (Nat × Nat × Nat × Nat)}
    (hown : s.vm.findClass own = some m.cls) (hlink : (Cond.methodLink own index y).before args s = true) (hstat : (Cond.static y).before args s = true) (hinit : (Cond.initialized y.cls).before args s = true)
    (hcode : (Cond.codeWith y bytes maxL ret hh).before args s = true) (hy : y.cls ≠ "java/lang/invoke/MethodHandle" ∧ y.cls ≠ "java/lang/invoke/VarHandle")
    {W9 : Nat} {Pre : Pt → Array Value → Prop} {Post : Pt → Array Value → Option Value → Pt → Prop} {PostX : Pt → Array Value → Addr → Pt → Prop} (hK : vx_Back l R p e below s args y 3 W9 Pre Post PostX)
    {g : JFrame} (hg : g.method = m) (hsize : g.locals.size = c.maxLocals) {argsL rest : List Value} (hlen : ∀ sig, parseMethodDescriptor y.desc = some sig → argsL.length = sig.parameters.length)
    (hstack : g.stack = argsL.reverse ++ rest) (hW : 2 * g.monitorRoom + (rest.map fun v => v.category).sum ≤ W9) (hdg : decode c.code g.pc = .ok (.invokestatic index, 3))
    (hpre : ∀ vm₁, s.WarmedH vm₁ → Pre ⟨T.setVm vm₁, locs, cells, slots⟩ argsL.toArray) :
    (∃ (v : Option Value) (vm₁ : Vm) (B : Pt), s.WarmedH vm₁ ∧ Stand p l e R s m args below meth c B.U B.locs B.cells B.slots ∧ Post ⟨T.setVm vm₁, locs, cells, slots⟩ argsL.toArray v B ∧
      ∀ target, Steps p.tables e below (B.U.setTop { g with pc := g.pc + 3, stack := v.toList ++ rest }) target → Steps p.tables e below (T.setTop g) target) ∨
    (∃ (q : Addr) (vm₁ : Vm) (B : Pt), s.WarmedH vm₁ ∧ Stand p l e R s m args below meth c B.U B.locs B.cells B.slots ∧ PostX ⟨T.setVm vm₁, locs, cells, slots⟩ argsL.toArray q B ∧
      Steps p.tables e below (T.setTop g) ((B.U.setTop { g with stack := rest }).pushFrame (.throwing q))) := by
  obtain ⟨mk, methM, cM, hnamed, hmethM, -, -, -, -, -, -, hsigM⟩ := Cond.codeWith_spec hcode
  have hstatic : methM.isStatic = true := Cond.static_spec hnamed hmethM hstat
  obtain ⟨kP, hkP, -⟩ := className_of_methodNamed hnamed
  have hinitP : kP.init = .initialized := Cond.initialized_spec (findClass_of_methodNamed hnamed) hkP hinit
  obtain ⟨vm₁, X₁, hstep₁⟩ := X.invokestatic hexec hown hlink hnamed hmethM hstatic hkP hinitP hy (g := g) hg (argsL := argsL) (rest := rest) (hlen _ hsigM) hstack hdg
  rcases hK m meth c ⟨T.setVm vm₁, locs, cells, slots⟩ { g with stack := rest } (.invokestatic index) mk argsL.toArray X₁ hg hsize hdg hW (X₁.named hnamed) (hpre vm₁ X₁.warmed) with ⟨v, B, X', hpost, hsteps⟩ | ⟨q, B, X', hpost, hsteps⟩
  · exact Or.inl ⟨v, vm₁, B, X₁.warmed, X', hpost, fun target h => hstep₁ _ fun acts => by rw [doInvoke_state]; exact hsteps.trans h⟩
  · exact Or.inr ⟨q, vm₁, B, X₁.warmed, X', hpost, hstep₁ _ fun acts => by rw [doInvoke_state]; exact hsteps⟩
theorem vx_callVW (X : Stand p l e R s m args below meth c T locs cells slots) (hexec : p.tables.exec = Jvm.exec) {own C : String} {index : Nat} {y : MethodName} {bytes : ByteArray} {maxL : Nat} {ret : Option FieldType} {hh : List (Nat × Nat × Nat × Nat)}
    (hown : s.vm.findClass own = some m.cls) (hlink : (Cond.methodLink own index y).before args s = true) (hinst : (Cond.instanceMethod y).before args s = true) (hsel : (Cond.selects C y y).before args s = true)
    (hcode : (Cond.codeWith y bytes maxL ret hh).before args s = true) (hy : y.cls ≠ "java/lang/invoke/MethodHandle" ∧ y.cls ≠ "java/lang/invoke/VarHandle")
    {W9 : Nat} {Pre : Pt → Array Value → Prop} {Post : Pt → Array Value → Option Value → Pt → Prop} (hK : Back l R p e below s args y 3 W9 Pre Post)
    {b : Addr} {cellB : Cell} (hcell : T.heap[b]? = some cellB) (hobj : cellB.vm.isStatics = false) (hcls : s.vm.findClass C = some cellB.cls)
    {g : JFrame} (hg : g.method = m) (hsize : g.locals.size = c.maxLocals) {argsL rest : List Value} (hlen : ∀ sig, parseMethodDescriptor y.desc = some sig → argsL.length = sig.parameters.length)
    (hstack : g.stack = argsL.reverse ++ .ref b :: rest) (hW : 2 * g.monitorRoom + (rest.map fun v => v.category).sum ≤ W9) (hdg : decode c.code g.pc = .ok (.invokevirtual index, 3))
    (hpre : ∀ vm₁, s.WarmedH vm₁ → Pre ⟨T.setVm vm₁, locs, cells, slots⟩ (Value.ref b :: argsL).toArray) :
    ∃ (v : Option Value) (vm₁ : Vm) (B : Pt), s.WarmedH vm₁ ∧ Stand p l e R s m args below meth c B.U B.locs B.cells B.slots ∧ Post ⟨T.setVm vm₁, locs, cells, slots⟩ (Value.ref b :: argsL).toArray v B ∧
      ∀ target, Steps p.tables e below (B.U.setTop { g with pc := g.pc + 3, stack := v.toList ++ rest }) target → Steps p.tables e below (T.setTop g) target := by
  obtain ⟨mk, methM, hnamed, hmethM, hstM, habM⟩ := Cond.instanceMethod_spec hinst
  obtain ⟨m8, methM', cM, hn8, hmethM', -, -, -, -, -, -, hsigM⟩ := Cond.codeWith_spec hcode
  cases Option.some.inj (hn8.symm.trans hnamed)
  cases hmethM.symm.trans hmethM'
  obtain ⟨c2, r2, m2, q1, q2, q3, q4, kP, hkP, hkPi⟩ := Cond.selects_spec hsel
  cases hcls.symm.trans q1
  cases (State.methodFound?_of_named hnamed hy).symm.trans q2
  cases hnamed.symm.trans q3
  have hselP : selectMethod e.platform s.vm cellB.cls mk = .method mk := by rw [Launch.admits_selectMethod X.admits]; exact q4
  obtain ⟨vm₁, X₁, hstep₁⟩ := X.invokevirtual hexec hown hlink hnamed hmethM hstM hkP hkPi hy (a := b) (cell := cellB) hcell
    (fun z h => by rw [h] at hobj; cases hobj) hselP hmethM habM hkP hkPi (g := g) hg (argsL := argsL) (rest := rest) (hlen _ hsigM) hstack hdg
  obtain ⟨v, B, X', hpost, hsteps⟩ := hK m meth c ⟨T.setVm vm₁, locs, cells, slots⟩ { g with stack := rest } (.invokevirtual index) mk (Value.ref b :: argsL).toArray X₁ hg hsize hdg hW (X₁.named hnamed) (hpre vm₁ X₁.warmed)
  exact ⟨v, vm₁, B, X₁.warmed, X', hpost, fun target h => hstep₁ _ fun acts => by rw [doInvoke_state]; exact hsteps.trans h⟩
abbrev vx_CVW (R : Room) (s : State) (args : Array Value) (own C : String) (index : Nat) (y : MethodName) (bytes : ByteArray) (maxL : Nat) (ret : Option FieldType) (hh : List (Nat × Nat × Nat × Nat)) (ws : List Cond) (rm : Room) (mc ms n : Nat) : Prop :=
  (rm.cells = mc ∧ rm.slots = ms ∧ rm.frames + 1 ≤ R.frames ∧ 8 + (maxL + 11) + rm.locals ≤ R.locals ∧ (∀ w ∈ ws, ∀ (a' : Array Value) (U : State), s.WarmedH U.vm → w.before a' U = true) ∧ Cond.codeWith y bytes maxL ret hh ∈ ws) ∧
  (Cond.codeWith y bytes maxL ret hh).before args s = true ∧ (Cond.initialized y.cls).before args s = true ∧ (y.cls ≠ "java/lang/invoke/MethodHandle" ∧ y.cls ≠ "java/lang/invoke/VarHandle") ∧
  (∀ sig, parseMethodDescriptor y.desc = some sig → n = sig.parameters.length) ∧ (Cond.methodLink own index y).before args s = true ∧ (Cond.instanceMethod y).before args s = true ∧ (Cond.selects C y y).before args s = true
theorem vx_cwVW {own C : String} {index maxL mc ms : Nat} {y : MethodName} {bytes : ByteArray} {ret : Option FieldType} {hh : List (Nat × Nat × Nat × Nat)} {Ts ws ws' : List Cond} {rm : Room} (n : Nat) (ht : ∀ w ∈ Ts, w.before args s = true) (hT : GoodIn Ts (wsV own index C y ws)) (hw : ws = Cond.codeWith y bytes maxL ret hh :: ws') (hrc : rm.cells = mc) (hrs : rm.slots = ms)
    (hd : y.cls = C ∧ y.cls ≠ "java/lang/invoke/MethodHandle" ∧ y.cls ≠ "java/lang/invoke/VarHandle" ∧ (parseMethodDescriptor y.desc).map (fun d => d.parameters.length) = some n) (hR : rm.frames + 1 ≤ R.frames ∧ 8 + (maxL + 11) + rm.locals ≤ R.locals) :
    vx_CVW R s args own C index y bytes maxL ret hh ws rm mc ms n := by
  obtain ⟨hC, hd⟩ := hd
  subst hC
  have ok : ∀ w ∈ wsV own index y.cls y ws, w.before args s = true := fun w h => ht w (hT w h).1
  have hG : GoodIn Ts ws := fun w h => hT w (by unfold wsV; exact List.mem_append_right _ h)
  have hc : Cond.codeWith y bytes maxL ret hh ∈ ws := by rw [hw]; exact List.mem_cons_self
  refine ⟨⟨hrc, hrs, hR.1, hR.2, pay_in ht hG, hc⟩, ht _ (hG _ hc).1, ok _ (by simp [wsV]), ⟨hd.1, hd.2.1⟩, fun sig h => ?_, ok _ (by simp [wsV]), ok _ (by simp [wsV]), ok _ (by simp [wsV])⟩
  have h2 := hd.2.2
  rw [h] at h2
  exact (Option.some.inj h2).symm
theorem vx_runVW {y : MethodName} {bytes cc : ByteArray} {maxL nL mc ms n index : Nat} {ret : Option FieldType} {hh : List (Nat × Nat × Nat × Nat)} {ws : List Cond} {rm : Room} {Pc : Array Value → State → Prop} {Qc : Array Value → State → Outcome → State → Prop} {free : Addr → Prop} {Ts : List Cond} {own C : String} {b : Addr} {As rest : List Value} {g : JFrame}
    (S : CallFix p m c cc nL s args Ts own) (hM : Met l y ws rm Pc Qc mc ms free) (cw : vx_CVW R s args own C index y bytes maxL ret hh ws rm mc ms n) (hp : PreV s H C b Pc As)
    (hg : g.method = m) (hn : As.length = n) (hsize : g.locals.size = nL) (hstack : g.stack = As.reverse ++ .ref b :: rest) (hW : 2 * g.monitorRoom + (rest.map fun v => v.category).sum ≤ 8) (hdg : decode cc g.pc = .ok (.invokevirtual index, 3)) (hf : cells + mc ≤ R.cells ∧ slots + ms ≤ R.slots) :
    va_Run p l e R s m args below meth c H locs cells slots mc ms g rest (Qc (Value.ref b :: As).toArray) free := by
  obtain ⟨⟨hrc, hrs, hfr, hlo, hws, hcw⟩, hcode, hini, hy, hlen, hl, hin, hse⟩ := cw
  have hK : Back l R p e below s args y 3 8 (PreOf R mc ms Pc) (PostOf Qc mc ms free) := va_backW (hh := hh) (bytes := bytes) (maxL := maxL) (ret := ret) hM hp.1 hrc hrs hfr hlo hws hcw (fun a' U hW => word_at hW (Or.inl (by first | rfl | simp [Cond.onTables, Cond.keeps, Cond.steady])) hini)
  obtain ⟨hx, hb, hml, ho, -⟩ := S
  obtain ⟨-, ⟨cellB, hcB, hoB, hclB⟩, hPc⟩ := hp
  intro T hT X
  obtain ⟨v, vm₁, ⟨U', l2, c2, s2⟩, hW₁, X', ⟨g', mk, t, L, e1, e2, hq, h1, hL, h2, h3⟩, st⟩ := vx_callVW X hx (C := C) (hh := hh) (bytes := bytes) (maxL := maxL) (ret := ret) ho hl hin hse hcode hy hK (by rw [hT]; exact hcB) hoB hclB hg (hsize.trans hml.symm) (argsL := As) (rest := rest) (fun sig h => hn.trans (hlen sig h)) hstack hW (by rw [hb]; exact hdg)
    (fun vm₁ hW₁ => ⟨hf.1, hf.2, hPc (T.setVm vm₁) hT hW₁⟩)
  dsimp only [Pt.U, Pt.locs, Pt.cells, Pt.slots] at X' e1 e2 h1 h2 h3 st
  subst h1; subst h2; subst h3
  exact ⟨v, (T.setVm vm₁).calling g' mk (Value.ref b :: As).toArray, t, U', L, hT, X', hL, e1, e2, hq, st⟩
section
variable {y : MethodName} {bytes cc : ByteArray} {maxL nL mc ms n index : Nat} {ret : Option FieldType} {ws : List Cond} {rm : Room} {Pc : Array Value → State → Prop} {Qc : Array Value → State → Outcome → State → Prop} {XC : String → State → State → Prop} {free : Addr → Prop} {Ts : List Cond} {own C : String} {b : Addr} {As rest : List Value} {g : JFrame}
theorem vx_runVX {hh : List (Nat × Nat × Nat × Nat)} (S : CallFix p m c cc nL s args Ts own) (hM : vx_Met l y ws rm Pc Qc XC mc ms free) (cw : vx_CVW R s args own C index y bytes maxL ret hh ws rm mc ms n) (hp : PreV s H C b Pc As)
    (hg : g.method = m) (hn : As.length = n) (hsize : g.locals.size = nL) (hstack : g.stack = As.reverse ++ .ref b :: rest) (hW : 2 * g.monitorRoom + (rest.map fun v => v.category).sum ≤ 8) (hdg : decode cc g.pc = .ok (.invokevirtual index, 3)) (hf : cells + mc ≤ R.cells ∧ slots + ms ≤ R.slots) :
    vx_Run p l e R s m args below meth c H locs cells slots mc ms g rest (Qc (Value.ref b :: As).toArray) XC free := by
  obtain ⟨⟨hrc, hrs, hfr, hlo, hws, hcw⟩, hcode, hini, hy, hlen, hl, hin, hse⟩ := cw
  have hK : vx_Back l R p e below s args y 3 8 (PreOf R mc ms Pc) (PostOf Qc mc ms free) (vx_Post XC mc ms free) := vx_backW (hh := hh) (bytes := bytes) (maxL := maxL) (ret := ret) hM hp.1 hrc hrs hfr hlo hws hcw (fun a' U hW => word_at hW (Or.inl (by first | rfl | simp [Cond.onTables, Cond.keeps, Cond.steady])) hini)
  obtain ⟨hx, hb, hml, ho, -⟩ := S
  obtain ⟨-, ⟨cellB, hcB, hoB, hclB⟩, hPc⟩ := hp
  intro T hT X
  rcases vx_callVX X hx (C := C) (hh := hh) (bytes := bytes) (maxL := maxL) (ret := ret) ho hl hin hse hcode hy hK (by rw [hT]; exact hcB) hoB hclB hg (hsize.trans hml.symm) (argsL := As) (rest := rest) (fun sig h => hn.trans (hlen sig h)) hstack hW (by rw [hb]; exact hdg)
    (fun vm₁ hW₁ => ⟨hf.1, hf.2, hPc (T.setVm vm₁) hT hW₁⟩) with ⟨v, vm₁, ⟨U', l2, c2, s2⟩, hW₁, X', ⟨g', mk, t, L, e1, e2, hq, h1, hL, h2, h3⟩, st⟩ | ⟨q, vm₁, ⟨U', l2, c2, s2⟩, hW₁, X', ⟨g', mk, t, L, E, ce, e1, e2, hq, hce, hcv, hcl, h1, hL, h2, h3⟩, st⟩
  · dsimp only [Pt.U, Pt.locs, Pt.cells, Pt.slots] at X' e1 e2 h1 h2 h3 st
    subst h1; subst h2; subst h3
    exact Or.inl ⟨v, (T.setVm vm₁).calling g' mk (Value.ref b :: As).toArray, t, U', L, hT, X', hL, e1, e2, hq, st⟩
  · dsimp only [Pt.U, Pt.locs, Pt.cells, Pt.slots] at X' e1 e2 h1 h2 h3 st hcl
    subst h1; subst h2; subst h3
    exact Or.inr ⟨q, (T.setVm vm₁).calling g' mk (Value.ref b :: As).toArray, t, U', L, E, ce, hT, X', hL, e1, e2, hq, hce, hcv, vx_cls hW₁ hcl, st⟩
theorem vx_runSX {hh : List (Nat × Nat × Nat × Nat)} (S : CallFix p m c cc nL s args Ts own) (hM : vx_Met l y ws rm Pc Qc XC mc ms free) (cw : vx_CSW R s args own index y bytes maxL ret hh ws rm mc ms n) (hp : PreS s H Pc As)
    (hg : g.method = m) (hn : As.length = n) (hsize : g.locals.size = nL) (hstack : g.stack = As.reverse ++ rest) (hW : 2 * g.monitorRoom + (rest.map fun v => v.category).sum ≤ 8) (hdg : decode cc g.pc = .ok (.invokestatic index, 3)) (hf : cells + mc ≤ R.cells ∧ slots + ms ≤ R.slots) :
    vx_Run p l e R s m args below meth c H locs cells slots mc ms g rest (Qc As.toArray) XC free := by
  obtain ⟨⟨hrc, hrs, hfr, hlo, hws, hcw⟩, hcode, hini, hy, hlen, hl, hstt⟩ := cw
  have hK : vx_Back l R p e below s args y 3 8 (PreOf R mc ms Pc) (PostOf Qc mc ms free) (vx_Post XC mc ms free) := vx_backW (hh := hh) (bytes := bytes) (maxL := maxL) (ret := ret) hM hp.1 hrc hrs hfr hlo hws hcw (fun a' U hW => word_at hW (Or.inl (by first | rfl | simp [Cond.onTables, Cond.keeps, Cond.steady])) hini)
  obtain ⟨hx, hb, hml, ho, -⟩ := S
  intro T hT X
  rcases vx_callSX X hx (hh := hh) (bytes := bytes) (maxL := maxL) (ret := ret) ho hl hstt hini hcode hy hK hg (hsize.trans hml.symm) (argsL := As) (rest := rest) (fun sig h => hn.trans (hlen sig h)) hstack hW (by rw [hb]; exact hdg)
    (fun vm₁ hW₁ => ⟨hf.1, hf.2, hp.2 (T.setVm vm₁) hT hW₁⟩) with ⟨v, vm₁, ⟨U', l2, c2, s2⟩, hW₁, X', ⟨g', mk, t, L, e1, e2, hq, h1, hL, h2, h3⟩, st⟩ | ⟨q, vm₁, ⟨U', l2, c2, s2⟩, hW₁, X', ⟨g', mk, t, L, E, ce, e1, e2, hq, hce, hcv, hcl, h1, hL, h2, h3⟩, st⟩
  · dsimp only [Pt.U, Pt.locs, Pt.cells, Pt.slots] at X' e1 e2 h1 h2 h3 st
    subst h1; subst h2; subst h3
    exact Or.inl ⟨v, (T.setVm vm₁).calling g' mk As.toArray, t, U', L, hT, X', hL, e1, e2, hq, st⟩
  · dsimp only [Pt.U, Pt.locs, Pt.cells, Pt.slots] at X' e1 e2 h1 h2 h3 st hcl
    subst h1; subst h2; subst h3
    exact Or.inr ⟨q, (T.setVm vm₁).calling g' mk As.toArray, t, U', L, E, ce, hT, X', hL, e1, e2, hq, hce, hcv, vx_cls hW₁ hcl, st⟩
end
end VXH
theorem vx_ofWH {l : Launch} {y : MethodName} {ws ws' : List Cond} {rm : Room} {Pc : Array Value → State → Prop} {Qc : Array Value → State → Outcome → State → Prop} {XC : String → State → State → Prop} {mc ms : Nat} {free : Addr → Prop} {cc : ByteArray} {maxL : Nat} {ret : Option FieldType} {hh : List (Nat × Nat × Nat × Nat)}
    (hy : plainName y.cls = true) (hw : ws = Cond.codeWith y cc maxL ret hh :: ws')
    (body : ∀ p e s m args below meth c s₁, BodyLoose p l y (headSpec ws rm) cc maxL ret e s m args below meth c s₁ → c.maxLocals = maxL → Pc args s →
      W p l e (headSpec ws rm).room s m args below meth c s.heap [] 0 0 (vx_MQ below Qc XC args s mc ms free) (entryFrame m args maxL)) : vx_Met l y ws rm Pc Qc XC mc ms free := by
  refine MetFree.of_bodyS (code := cc) (maxLocals := maxL) (ret := ret) hy ?_ ?_
  · intro args s m h hn
    obtain ⟨m9, meth, c, hn9, h1, h2, h3, h4, -, h5, h6, -⟩ := Cond.codeWith_spec (atoms_spec (ws := ws) h _ (by rw [hw]; exact List.mem_cons_self))
    cases hn.symm.trans hn9
    exact ⟨meth, c, h1, h2, h3, h4, h5, h6⟩
  · intro p e s m args below meth c s₁ B hml hP _
    have hh0 : s₁.heap = s.heap := by rw [B.state]; rfl
    obtain ⟨t, a1, o, b1, b2, b3⟩ := body p e s m args below meth c s₁ B hml hP s₁ hh0 (Stand.of_body B)
    exact ⟨t, o, a1, b1, b2, b3⟩
/-! ===== END ===== -/
end
section
/-! the methods by their numbers: name, bytes, locals, answer, table, place of the word -/
abbrev aS : Type := MethodName × ByteArray × Nat × Option FieldType × List (Nat × Nat × Nat × Nat) × Nat
def q_Actor_init : aS := (⟨"ActorMachine$Actor", "<init>", "()V"⟩, prog_2_method_1_code, 1, none, [], 88)
def q_Actor_begin : aS := (⟨"ActorMachine$Actor", "begin", "(LActorMachine$Text;J)V"⟩, prog_2_method_2_code, 4, none, [], 465)
def q_Actor_finish : aS := (⟨"ActorMachine$Actor", "finish", "(I)V"⟩, prog_2_method_3_code, 2, none, [], 562)
def q_Evaluator_init : aS := (⟨"ActorMachine$Evaluator", "<init>", "()V"⟩, prog_3_method_1_code, 1, none, [], 200)
def q_Evaluator_begin : aS := (⟨"ActorMachine$Evaluator", "begin", "(IJ)V"⟩, prog_3_method_2_code, 5, none, [], 596)
def q_Evaluator_fits : aS := (⟨"ActorMachine$Evaluator", "fits", "(JI)Z"⟩, prog_3_method_3_code, 6, some (.boolean), [], 600)
def q_Evaluator_variableOf : aS := (⟨"ActorMachine$Evaluator", "variableOf", "(C)I"⟩, prog_3_method_10_code, 1, some (.int), [], 621)
def q_Evaluator_constant : aS := (⟨"ActorMachine$Evaluator", "constant", "(C)J"⟩, prog_3_method_9_code, 3, some (.long), [], 625)
def q_Evaluator_guardHolds : aS := (⟨"ActorMachine$Evaluator", "guardHolds", "()Z"⟩, prog_3_method_4_code, 6, some (.boolean), [], 630)
def q_Evaluator_evaluate : aS := (⟨"ActorMachine$Evaluator", "evaluate", "(I)J"⟩, prog_3_method_5_code, 4, some (.long), [], 634)
def q_Evaluator_evaluateTwo : aS := (⟨"ActorMachine$Evaluator", "evaluateTwo", "(CI)J"⟩, prog_3_method_6_code, 9, some (.long), [], 638)
def q_Evaluator_failed : aS := (⟨"ActorMachine$Evaluator", "failed", "(I)J"⟩, prog_3_method_8_code, 2, some (.long), [], 642)
def q_Evaluator_calculate : aS := (⟨"ActorMachine$Evaluator", "calculate", "(CJJ)J"⟩, prog_3_method_7_code, 9, some (.long), [], 646)
def q_Grammar_init : aS := (⟨"ActorMachine$Grammar", "<init>", "()V"⟩, prog_4_method_1_code, 1, none, [], 168)
def q_Grammar_placeOfFault : aS := (⟨"ActorMachine$Grammar", "placeOfFault", "(LActorMachine$Text;)I"⟩, prog_4_method_2_code, 4, some (.int), [], 372)
def q_Grammar_readPattern : aS := (⟨"ActorMachine$Grammar", "readPattern", "(I)Z"⟩, prog_4_method_3_code, 2, some (.boolean), [], 384)
def q_Grammar_readSimple : aS := (⟨"ActorMachine$Grammar", "readSimple", "()Z"⟩, prog_4_method_8_code, 1, some (.boolean), [], 396)
def q_Grammar_readVariable : aS := (⟨"ActorMachine$Grammar", "readVariable", "()Z"⟩, prog_4_method_9_code, 1, some (.boolean), [], 404)
def q_Grammar_readGuard : aS := (⟨"ActorMachine$Grammar", "readGuard", "()Z"⟩, prog_4_method_4_code, 1, some (.boolean), [], 408)
def q_Grammar_readExpression : aS := (⟨"ActorMachine$Grammar", "readExpression", "(I)Z"⟩, prog_4_method_7_code, 3, some (.boolean), [], 412)
def q_Grammar_readActions : aS := (⟨"ActorMachine$Grammar", "readActions", "()Z"⟩, prog_4_method_5_code, 2, some (.boolean), [], 416)
def q_Grammar_readAction : aS := (⟨"ActorMachine$Grammar", "readAction", "()Z"⟩, prog_4_method_6_code, 1, some (.boolean), [], 420)
def q_Reader_init : aS := (⟨"ActorMachine$Reader", "<init>", "()V"⟩, prog_5_method_1_code, 1, none, [], 174)
def q_Reader_open : aS := (⟨"ActorMachine$Reader", "open", "(LActorMachine$Text;)V"⟩, prog_5_method_2_code, 2, none, [], 376)
def q_Reader_isAtEnd : aS := (⟨"ActorMachine$Reader", "isAtEnd", "()Z"⟩, prog_5_method_3_code, 1, some (.boolean), [], 380)
def q_Reader_sign : aS := (⟨"ActorMachine$Reader", "sign", "()C"⟩, prog_5_method_4_code, 1, some (.char), [], 388)
def q_Reader_accept : aS := (⟨"ActorMachine$Reader", "accept", "(C)Z"⟩, prog_5_method_6_code, 3, some (.boolean), [], 392)
def q_Reader_acceptFrom : aS := (⟨"ActorMachine$Reader", "acceptFrom", "(CC)Z"⟩, prog_5_method_7_code, 4, some (.boolean), [], 400)
def q_Reader_next : aS := (⟨"ActorMachine$Reader", "next", "()C"⟩, prog_5_method_5_code, 1, some (.char), [], 604)
def q_Reader_skipPast : aS := (⟨"ActorMachine$Reader", "skipPast", "(C)V"⟩, prog_5_method_8_code, 3, none, [], 659)
def q_Row_init : aS := (⟨"ActorMachine$Row", "<init>", "(I)V"⟩, prog_6_method_1_code, 2, none, [], 96)
def q_Row_put : aS := (⟨"ActorMachine$Row", "put", "(J)V"⟩, prog_6_method_3_code, 3, none, [], 510)
def q_Row_at : aS := (⟨"ActorMachine$Row", "at", "(I)J"⟩, prog_6_method_2_code, 2, some (.long), [], 538)
def q_Row_take : aS := (⟨"ActorMachine$Row", "take", "(I)V"⟩, prog_6_method_4_code, 3, none, [], 547)
def q_Stepper_init : aS := (⟨"ActorMachine$Stepper", "<init>", "(LActorMachine$World;)V"⟩, prog_7_method_1_code, 2, none, [], 194)
def q_Stepper_find : aS := (⟨"ActorMachine$Stepper", "find", "(I)I"⟩, prog_7_method_2_code, 5, some (.int), [], 585)
def q_Stepper_findClause : aS := (⟨"ActorMachine$Stepper", "findClause", "(J)I"⟩, prog_7_method_3_code, 5, some (.int), [], 590)
def q_Stepper_perform : aS := (⟨"ActorMachine$Stepper", "perform", "(I)I"⟩, prog_7_method_4_code, 4, some (.int), [], 665)
def q_Stepper_act : aS := (⟨"ActorMachine$Stepper", "act", "(C)V"⟩, prog_7_method_5_code, 4, none, [], 672)
def q_Stepper_putUnderWay : aS := (⟨"ActorMachine$Stepper", "putUnderWay", "()V"⟩, prog_7_method_7_code, 6, none, [], 676)
def q_Stepper_makeLinked : aS := (⟨"ActorMachine$Stepper", "makeLinked", "()V"⟩, prog_7_method_8_code, 4, none, [], 689)
def q_Stepper_use : aS := (⟨"ActorMachine$Stepper", "use", "(CJ)V"⟩, prog_7_method_6_code, 4, none, [], 700)
def q_Term_ofLeaf : aS := (⟨"ActorMachine$Term", "ofLeaf", "(I)J"⟩, prog_8_method_2_code, 1, some (.long), [], 457)
def q_Term_pair : aS := (⟨"ActorMachine$Term", "pair", "(JJ)J"⟩, prog_8_method_12_code, 10, some (.long), [], 491)
def q_Term_countLeaves : aS := (⟨"ActorMachine$Term", "countLeaves", "(J)I"⟩, prog_8_method_10_code, 4, some (.int), [], 494)
def q_Term_shapeOf : aS := (⟨"ActorMachine$Term", "shapeOf", "(J)I"⟩, prog_8_method_6_code, 2, some (.int), [], 498)
def q_Term_build : aS := (⟨"ActorMachine$Term", "build", "(JI)J"⟩, prog_8_method_11_code, 3, some (.long), [], 506)
def q_Term_isSignal : aS := (⟨"ActorMachine$Term", "isSignal", "(J)Z"⟩, prog_8_method_4_code, 2, some (.boolean), [], 541)
def q_Term_leafAt : aS := (⟨"ActorMachine$Term", "leafAt", "(JI)I"⟩, prog_8_method_5_code, 4, some (.int), [], 550)
def q_Term_signal : aS := (⟨"ActorMachine$Term", "signal", "(I)J"⟩, prog_8_method_3_code, 1, some (.long), [], 566)
def q_Term_isPair : aS := (⟨"ActorMachine$Term", "isPair", "(J)Z"⟩, prog_8_method_7_code, 2, some (.boolean), [], 607)
def q_Term_left : aS := (⟨"ActorMachine$Term", "left", "(J)J"⟩, prog_8_method_14_code, 6, some (.long), [], 610)
def q_Term_countLeftLeaves : aS := (⟨"ActorMachine$Term", "countLeftLeaves", "(J)I"⟩, prog_8_method_13_code, 6, some (.int), [], 613)
def q_Term_right : aS := (⟨"ActorMachine$Term", "right", "(J)J"⟩, prog_8_method_15_code, 6, some (.long), [], 618)
def q_Term_isInt : aS := (⟨"ActorMachine$Term", "isInt", "(J)Z"⟩, prog_8_method_8_code, 2, some (.boolean), [], 649)
def q_Term_isActor : aS := (⟨"ActorMachine$Term", "isActor", "(J)Z"⟩, prog_8_method_9_code, 2, some (.boolean), [], 680)
def q_Text_init : aS := (⟨"ActorMachine$Text", "<init>", "()V"⟩, prog_9_method_1_code, 1, none, [], 69)
def q_Text_append : aS := (⟨"ActorMachine$Text", "append", "(C)V"⟩, prog_9_method_2_code, 2, none, [], 353)
def q_Text_countClauses : aS := (⟨"ActorMachine$Text", "countClauses", "()I"⟩, prog_9_method_4_code, 3, some (.int), [], 440)
def q_Text_copyFrom : aS := (⟨"ActorMachine$Text", "copyFrom", "(LActorMachine$Text;)V"⟩, prog_9_method_3_code, 2, none, [], 469)
def q_World_init : aS := (⟨"ActorMachine$World", "<init>", "()V"⟩, prog_10_method_1_code, 2, none, [], 62)
def q_World_make : aS := (⟨"ActorMachine$World", "make", "(IJ)I"⟩, prog_10_method_3_code, 5, some (.int), [], 461)
def q_World_way : aS := (⟨"ActorMachine$World", "way", "(II)LActorMachine$Row;"⟩, prog_10_method_2_code, 3, some (.object "ActorMachine$Row"), [], 484)
def q_World_end : aS := (⟨"ActorMachine$World", "end", "(II)V"⟩, prog_10_method_6_code, 5, none, [], 558)
def q_World_link : aS := (⟨"ActorMachine$World", "link", "(II)V"⟩, prog_10_method_5_code, 3, none, [], 696)
def q_World_countFree : aS := (⟨"ActorMachine$World", "countFree", "()I"⟩, prog_10_method_4_code, 3, some (.int), [], 743)
def q_AM_init : aS := (⟨"ActorMachine", "<init>", "()V"⟩, prog_1_method_1_code, 1, none, [], 54)
def q_AM_type : aS := (⟨"ActorMachine", "type", "(IJ)I"⟩, prog_1_method_2_code, 8, some (.int), [], 254)
def q_AM_needRange : aS := (⟨"ActorMachine", "needRange", "(III)V"⟩, prog_1_method_15_code, 3, none, [], 257)
def q_AM_countSigns : aS := (⟨"ActorMachine", "countSigns", "(J)I"⟩, prog_1_method_17_code, 5, some (.int), [], 330)
def q_AM_byteAt : aS := (⟨"ActorMachine", "byteAt", "(JI)I"⟩, prog_1_method_18_code, 3, some (.int), [], 333)
def q_AM_clear : aS := (⟨"ActorMachine", "clear", "(I)I"⟩, prog_1_method_3_code, 4, some (.int), [], 360)
def q_AM_check : aS := (⟨"ActorMachine", "check", "(I)I"⟩, prog_1_method_4_code, 3, some (.int), [], 368)
def q_AM_fault : aS := (⟨"ActorMachine", "fault", "(I)I"⟩, prog_1_method_5_code, 2, some (.int), [], 447)
def q_AM_spawn : aS := (⟨"ActorMachine", "spawn", "(II)I"⟩, prog_1_method_6_code, 4, some (.int), [], 454)
def q_AM_send : aS := (⟨"ActorMachine", "send", "(IIII)I"⟩, prog_1_method_7_code, 6, some (.int), [], 480)
def q_AM_outsideMessage : aS := (⟨"ActorMachine", "outsideMessage", "(III)J"⟩, prog_1_method_19_code, 3, some (.long), [], 488)
def q_AM_deliver : aS := (⟨"ActorMachine", "deliver", "(II)I"⟩, prog_1_method_8_code, 8, some (.int), [], 518)
def q_AM_receiveSignal : aS := (⟨"ActorMachine", "receiveSignal", "(III)I"⟩, prog_1_method_20_code, 7, some (.int), [], 554)
def q_AM_step : aS := (⟨"ActorMachine", "step", "(I)I"⟩, prog_1_method_9_code, 4, some (.int), [], 576)
def q_AM_needAlive : aS := (⟨"ActorMachine", "needAlive", "(I)V"⟩, prog_1_method_16_code, 2, none, [], 580)
def q_AM_kill : aS := (⟨"ActorMachine", "kill", "(I)I"⟩, prog_1_method_10_code, 3, some (.int), [], 725)
def q_AM_reap : aS := (⟨"ActorMachine", "reap", "(I)I"⟩, prog_1_method_11_code, 2, some (.int), [], 738)
def q_AM_leaf : aS := (⟨"ActorMachine", "leaf", "(III)I"⟩, prog_1_method_12_code, 4, some (.int), [], 750)
def q_AM_termOf : aS := (⟨"ActorMachine", "termOf", "(II)J"⟩, prog_1_method_21_code, 4, some (.long), [], 754)
def q_AM_shape : aS := (⟨"ActorMachine", "shape", "(II)I"⟩, prog_1_method_13_code, 5, some (.int), [], 761)
def q_AM_about : aS := (⟨"ActorMachine", "about", "(II)I"⟩, prog_1_method_14_code, 4, some (.int), [], 769)
def q_Md_init : aS := (⟨"ActorMachineModel", "<init>", "()V"⟩, prog_12_method_1_code, 2, none, [], 774)
def q_Md_thrown : aS := (⟨"ActorMachineModel", "thrown", "()I"⟩, prog_12_method_2_code, 1, some (.int), [], 847)
def q_Md_type : aS := (⟨"ActorMachineModel", "type", "(IJ)I"⟩, prog_12_method_42_code, 8, some (.int), [], 851)
def q_Md_in : aS := (⟨"ActorMachineModel", "in", "(III)Z"⟩, prog_12_method_3_code, 3, some (.boolean), [], 854)
def q_Md_fail : aS := (⟨"ActorMachineModel", "fail", "(I)I"⟩, prog_12_method_4_code, 2, some (.int), [], 858)
def q_Md_good : aS := (⟨"ActorMachineModel", "good", "(ZI)Z"⟩, prog_12_method_5_code, 3, some (.boolean), [], 862)
def q_Md_clear : aS := (⟨"ActorMachineModel", "clear", "(I)I"⟩, prog_12_method_43_code, 3, some (.int), [], 866)
def q_Md_check : aS := (⟨"ActorMachineModel", "check", "(I)I"⟩, prog_12_method_44_code, 2, some (.int), [], 870)
def q_Md_read : aS := (⟨"ActorMachineModel", "read", "(I)I"⟩, prog_12_method_26_code, 3, some (.int), [], 874)
def q_Md_stands : aS := (⟨"ActorMachineModel", "stands", "(I)Z"⟩, prog_12_method_25_code, 3, some (.boolean), [], 878)
def q_Md_piece : aS := (⟨"ActorMachineModel", "piece", "(I)Z"⟩, prog_12_method_23_code, 3, some (.boolean), [], 882)
def q_Md_isDigit : aS := (⟨"ActorMachineModel", "isDigit", "(I)Z"⟩, prog_12_method_21_code, 1, some (.boolean), [], 885)
def q_Md_isAtom : aS := (⟨"ActorMachineModel", "isAtom", "(I)Z"⟩, prog_12_method_19_code, 1, some (.boolean), [], 888)
def q_Md_variableOf : aS := (⟨"ActorMachineModel", "variableOf", "(I)I"⟩, prog_12_method_20_code, 1, some (.int), [], 891)
def q_Md_complete : aS := (⟨"ActorMachineModel", "complete", "()V"⟩, prog_12_method_22_code, 2, none, [], 895)
def q_Md_action : aS := (⟨"ActorMachineModel", "action", "(I)Z"⟩, prog_12_method_24_code, 2, some (.boolean), [], 899)
def q_Md_clauses : aS := (⟨"ActorMachineModel", "clauses", "(I)I"⟩, prog_12_method_27_code, 4, some (.int), [], 903)
def q_Md_fault : aS := (⟨"ActorMachineModel", "fault", "(I)I"⟩, prog_12_method_45_code, 2, some (.int), [], 907)
def q_Md_spawn : aS := (⟨"ActorMachineModel", "spawn", "(II)I"⟩, prog_12_method_46_code, 3, some (.int), [], 911)
def q_Md_free : aS := (⟨"ActorMachineModel", "free", "()I"⟩, prog_12_method_33_code, 2, some (.int), [], 915)
def q_Md_whole : aS := (⟨"ActorMachineModel", "whole", "(I)J"⟩, prog_12_method_7_code, 1, some (.long), [], 918)
def q_Md_leafTerm : aS := (⟨"ActorMachineModel", "leafTerm", "(I)J"⟩, prog_12_method_6_code, 1, some (.long), [], 921)
def q_Md_make : aS := (⟨"ActorMachineModel", "make", "(IJ)I"⟩, prog_12_method_34_code, 6, some (.int), [], 925)
def q_Md_send : aS := (⟨"ActorMachineModel", "send", "(IIII)I"⟩, prog_12_method_47_code, 6, some (.int), [], 929)
def q_Md_atom : aS := (⟨"ActorMachineModel", "atom", "(I)J"⟩, prog_12_method_8_code, 1, some (.long), [], 932)
def q_Md_actor : aS := (⟨"ActorMachineModel", "actor", "(I)J"⟩, prog_12_method_9_code, 1, some (.long), [], 935)
def q_Md_pair : aS := (⟨"ActorMachineModel", "pair", "(JJ)J"⟩, prog_12_method_16_code, 8, some (.long), [], 938)
def q_Md_leaves : aS := (⟨"ActorMachineModel", "leaves", "(J)I"⟩, prog_12_method_10_code, 2, some (.int), [], 941)
def q_Md_put : aS := (⟨"ActorMachineModel", "put", "(IIJ)V"⟩, prog_12_method_35_code, 6, none, [], 947)
def q_Md_deliver : aS := (⟨"ActorMachineModel", "deliver", "(II)I"⟩, prog_12_method_48_code, 12, some (.int), [], 951)
def q_Md_leafOf : aS := (⟨"ActorMachineModel", "leafOf", "(JI)I"⟩, prog_12_method_11_code, 3, some (.int), [], 956)
def q_Md_end : aS := (⟨"ActorMachineModel", "end", "(II)I"⟩, prog_12_method_37_code, 5, some (.int), [], 960)
def q_Md_link : aS := (⟨"ActorMachineModel", "link", "(IIZ)V"⟩, prog_12_method_36_code, 4, none, [], 964)
def q_Md_step : aS := (⟨"ActorMachineModel", "step", "(I)I"⟩, prog_12_method_49_code, 6, some (.int), [], 968)
def q_Md_takes : aS := (⟨"ActorMachineModel", "takes", "(IIJ)Z"⟩, prog_12_method_39_code, 10, some (.boolean), [], 972)
def q_Md_fits : aS := (⟨"ActorMachineModel", "fits", "(IJ)Z"⟩, prog_12_method_32_code, 12, some (.boolean), [], 976)
def q_Md_bit : aS := (⟨"ActorMachineModel", "bit", "(JI)I"⟩, prog_12_method_12_code, 3, some (.int), [], 979)
def q_Md_part : aS := (⟨"ActorMachineModel", "part", "(JII)J"⟩, prog_12_method_18_code, 8, some (.long), [], 982)
def q_Md_bits : aS := (⟨"ActorMachineModel", "bits", "(JI)I"⟩, prog_12_method_17_code, 5, some (.int), [], 985)
def q_Md_simple : aS := (⟨"ActorMachineModel", "simple", "(II)J"⟩, prog_12_method_29_code, 4, some (.long), [], 989)
def q_Md_number : aS := (⟨"ActorMachineModel", "number", "(I)I"⟩, prog_12_method_28_code, 2, some (.int), [], 993)
def q_Md_evaluate : aS := (⟨"ActorMachineModel", "evaluate", "(II)J"⟩, prog_12_method_31_code, 10, some (.long), [], 997)
def q_Md_combine : aS := (⟨"ActorMachineModel", "combine", "(IJJ)J"⟩, prog_12_method_30_code, 9, some (.long), [], 1001)
def q_Md_isInt : aS := (⟨"ActorMachineModel", "isInt", "(J)Z"⟩, prog_12_method_13_code, 2, some (.boolean), [], 1004)
def q_Md_take : aS := (⟨"ActorMachineModel", "take", "(II)V"⟩, prog_12_method_40_code, 4, none, [], 1008)
def q_Md_perform : aS := (⟨"ActorMachineModel", "perform", "(II)I"⟩, prog_12_method_41_code, 4, some (.int), [], 1012)
def q_Md_act : aS := (⟨"ActorMachineModel", "act", "(II)Z"⟩, prog_12_method_38_code, 9, some (.boolean), [], 1016)
def q_Md_actorOf : aS := (⟨"ActorMachineModel", "actorOf", "(J)I"⟩, prog_12_method_14_code, 2, some (.int), [], 1019)
def q_Md_kill : aS := (⟨"ActorMachineModel", "kill", "(I)I"⟩, prog_12_method_50_code, 2, some (.int), [], 1023)
def q_Md_reap : aS := (⟨"ActorMachineModel", "reap", "(I)I"⟩, prog_12_method_51_code, 4, some (.int), [], 1027)
def q_Md_leaf : aS := (⟨"ActorMachineModel", "leaf", "(III)I"⟩, prog_12_method_53_code, 6, some (.int), [], 1031)
def q_Md_term : aS := (⟨"ActorMachineModel", "term", "(II)J"⟩, prog_12_method_52_code, 3, some (.long), [], 1035)
def q_Md_told : aS := (⟨"ActorMachineModel", "told", "(I)I"⟩, prog_12_method_15_code, 1, some (.int), [], 1038)
def q_Md_shape : aS := (⟨"ActorMachineModel", "shape", "(II)I"⟩, prog_12_method_54_code, 10, some (.int), [], 1042)
def q_Md_about : aS := (⟨"ActorMachineModel", "about", "(II)I"⟩, prog_12_method_55_code, 6, some (.int), [], 1046)
def q_Lw_type : aS := (⟨"ActorMachineLaw", "type", "(LActorMachine;IJ[J)I"⟩, method_3_code, 6, some (.int), [(0, 11, 14, 13), (0, 11, 18, 15)], 248)
def q_Lw_clear : aS := (⟨"ActorMachineLaw", "clear", "(LActorMachine;I[J)I"⟩, method_4_code, 4, some (.int), [(0, 9, 12, 15)], 356)
def q_Lw_check : aS := (⟨"ActorMachineLaw", "check", "(LActorMachine;I[J)I"⟩, method_5_code, 4, some (.int), [(0, 9, 12, 15), (0, 9, 15, 24)], 363)
def q_Lw_fault : aS := (⟨"ActorMachineLaw", "fault", "(LActorMachine;I[J)I"⟩, method_6_code, 4, some (.int), [(0, 9, 12, 15)], 443)
def q_Lw_spawn : aS := (⟨"ActorMachineLaw", "spawn", "(LActorMachine;II[J)I"⟩, method_7_code, 5, some (.int), [(0, 10, 13, 13), (0, 10, 17, 15)], 450)
def q_Lw_send : aS := (⟨"ActorMachineLaw", "send", "(LActorMachine;IIII[J)I"⟩, method_8_code, 7, some (.int), [(0, 14, 17, 13), (0, 14, 21, 15)], 476)
def q_Lw_deliver : aS := (⟨"ActorMachineLaw", "deliver", "(LActorMachine;II[J)I"⟩, method_9_code, 5, some (.int), [(0, 10, 13, 13), (0, 10, 17, 15), (0, 10, 21, 40)], 513)
def q_Lw_step : aS := (⟨"ActorMachineLaw", "step", "(LActorMachine;I[J)I"⟩, method_10_code, 4, some (.int), [(0, 9, 12, 13), (0, 9, 15, 15), (0, 9, 18, 40), (0, 9, 21, 45), (0, 9, 24, 24)], 571)
def q_Lw_kill : aS := (⟨"ActorMachineLaw", "kill", "(LActorMachine;I[J)I"⟩, method_11_code, 4, some (.int), [(0, 9, 12, 13), (0, 9, 15, 15)], 721)
def q_Lw_reap : aS := (⟨"ActorMachineLaw", "reap", "(LActorMachine;I[J)I"⟩, method_12_code, 4, some (.int), [(0, 9, 12, 13), (0, 9, 15, 15)], 734)
def q_Lw_leaf : aS := (⟨"ActorMachineLaw", "leaf", "(LActorMachine;III[J)I"⟩, method_13_code, 6, some (.int), [(0, 12, 15, 15)], 746)
def q_Lw_shape : aS := (⟨"ActorMachineLaw", "shape", "(LActorMachine;II[J)I"⟩, method_14_code, 5, some (.int), [(0, 10, 13, 15)], 757)
def q_Lw_about : aS := (⟨"ActorMachineLaw", "about", "(LActorMachine;II[J)I"⟩, method_15_code, 5, some (.int), [(0, 10, 13, 15)], 765)
def q_Lw_law : aS := (⟨"ActorMachineLaw", "law", "([I)Z"⟩, code, 7, some (.boolean), [], 0)
def q_Integer_bitCount : aS := (⟨"java/lang/Integer", "bitCount", "(I)I"⟩, prog_17_method_49_code, 1, some (.int), [], 728)
def am_SL : List aS := [q_Actor_init, q_Actor_begin, q_Actor_finish, q_Evaluator_init, q_Evaluator_begin, q_Evaluator_fits, q_Evaluator_variableOf, q_Evaluator_constant, q_Evaluator_guardHolds, q_Evaluator_evaluate, q_Evaluator_evaluateTwo, q_Evaluator_failed, q_Evaluator_calculate, q_Grammar_init, q_Grammar_placeOfFault, q_Grammar_readPattern, q_Grammar_readSimple, q_Grammar_readVariable, q_Grammar_readGuard, q_Grammar_readExpression, q_Grammar_readActions, q_Grammar_readAction, q_Reader_init, q_Reader_open, q_Reader_isAtEnd, q_Reader_sign, q_Reader_accept, q_Reader_acceptFrom, q_Reader_next, q_Reader_skipPast, q_Row_init, q_Row_put, q_Row_at, q_Row_take, q_Stepper_init, q_Stepper_find, q_Stepper_findClause, q_Stepper_perform, q_Stepper_act, q_Stepper_putUnderWay, q_Stepper_makeLinked, q_Stepper_use, q_Term_ofLeaf, q_Term_pair, q_Term_countLeaves, q_Term_shapeOf, q_Term_build, q_Term_isSignal, q_Term_leafAt, q_Term_signal, q_Term_isPair, q_Term_left, q_Term_countLeftLeaves, q_Term_right, q_Term_isInt, q_Term_isActor, q_Text_init, q_Text_append, q_Text_countClauses, q_Text_copyFrom, q_World_init, q_World_make, q_World_way, q_World_end, q_World_link, q_World_countFree, q_AM_init, q_AM_type, q_AM_needRange, q_AM_countSigns, q_AM_byteAt, q_AM_clear, q_AM_check, q_AM_fault, q_AM_spawn, q_AM_send, q_AM_outsideMessage, q_AM_deliver, q_AM_receiveSignal, q_AM_step, q_AM_needAlive, q_AM_kill, q_AM_reap, q_AM_leaf, q_AM_termOf, q_AM_shape, q_AM_about, q_Md_init, q_Md_thrown, q_Md_type, q_Md_in, q_Md_fail, q_Md_good, q_Md_clear, q_Md_check, q_Md_read, q_Md_stands, q_Md_piece, q_Md_isDigit, q_Md_isAtom, q_Md_variableOf, q_Md_complete, q_Md_action, q_Md_clauses, q_Md_fault, q_Md_spawn, q_Md_free, q_Md_whole, q_Md_leafTerm, q_Md_make, q_Md_send, q_Md_atom, q_Md_actor, q_Md_pair, q_Md_leaves, q_Md_put, q_Md_deliver, q_Md_leafOf, q_Md_end, q_Md_link, q_Md_step, q_Md_takes, q_Md_fits, q_Md_bit, q_Md_part, q_Md_bits, q_Md_simple, q_Md_number, q_Md_evaluate, q_Md_combine, q_Md_isInt, q_Md_take, q_Md_perform, q_Md_act, q_Md_actorOf, q_Md_kill, q_Md_reap, q_Md_leaf, q_Md_term, q_Md_told, q_Md_shape, q_Md_about, q_Lw_type, q_Lw_clear, q_Lw_check, q_Lw_fault, q_Lw_spawn, q_Lw_send, q_Lw_deliver, q_Lw_step, q_Lw_kill, q_Lw_reap, q_Lw_leaf, q_Lw_shape, q_Lw_about, q_Lw_law, q_Integer_bitCount]
def am_sp (m : Nat) : aS := am_SL.getD m (⟨"", "", ""⟩, ⟨#[]⟩, 0, none, [], 0)
end
section
/-! words of the tables that stay true along a run, and what else does -/
def am_okw (w : Cond) : Bool := match w with
  | .castable _ _ => true
  | .declares _ => true
  | .arrayOver t => (match t with
    | .object _ => true
    | _ => false)
  | w => goodWord w
theorem am_okw_at {args a' : Array Value} {s U : State} (hW : s.WarmedH U.vm) {w : Cond} (hw : am_okw w = true) (h : w.before args s = true) : w.before a' U = true := by
  cases w with
  | castable C T => exact va_Nw.use rfl (va_Nw.warmC hW (va_Nw.of rfl h))
  | declares x => exact va_Nw.use rfl (va_Nw.warmD hW (va_Nw.of rfl h))
  | arrayOver t =>
    cases t with
    | object C => exact va_AO.use ((va_AO.of h).moved hW.alike)
    | _ => exact nomatch hw
  | _ => exact word_at hW (good_of_word hw) h
def am_at (pos : Nat) (w : Cond) : Bool := decide (lw_tbl[pos]? = some w) && am_okw w
def am_str : List (Nat × String) := [(209, "a number is out of range"), (52, "the text would be longer than 60 signs"), (75, "the text is no whole program"), (92, "the program is not checked or no actor is free"), (103, "four are under way already"), (115, "nothing is under way there"), (142, "the mailbox is full"), (212, "the actor is not alive"), (162, "no message fits a clause"), (169, "the actor ended by a fault"), (173, "the actor ended by a division by 0"), (188, "the actor is not ended")]
def am_txt (i : Nat) : String := ((am_str.find? (fun q => Nat.beq q.1 i)).map (·.2)).getD ""
def ac_G (D : va_G) (cA : Nat → ClassId) (base : Nat) (t1 t2 : Nat) (sa : Nat → Nat) (U : State) (H : Heap) : Prop :=
  (∀ w ∈ lw_tbl, am_okw w = true → w.before #[] U = true) ∧ ac_Kn D U ∧ ac_An cA U ∧
  va_Z "ActorMachine$Term" "TENS" "[I" (.ref t1) (ac_A base) U H ∧ va_Z "ActorMachine$Term" "DEEPER" "[I" (.ref t2) (ac_A base) U H ∧
  vx_Zq Bundle.tN "UNASSIGNED_STACK" Bundle.steD (ac_A base) U H ∧ vx_Zq Bundle.tN "SUPPRESSED_SENTINEL" Bundle.listD (ac_A base) U H ∧
  (∀ q ∈ am_str, vk_R "ActorMachine" q.1 q.2 (sa q.1) U) ∧ (∀ e e' : Nat, e < 5 → e' < 5 → e ≠ e' → va_Nc (ac_E e) (ac_E e') U)
section
variable {D : va_G} {cA : Nat → ClassId} {base t1 t2 : Nat} {sa : Nat → Nat}
theorem ac_G.go {s U : State} {H H1 : Heap} (hW : s.WarmedH U.vm) (hq : ∀ a : Nat, a < H.size → ¬ ac_A base a → H1[a]? = H[a]?) (h : ac_G D cA base t1 t2 sa s H) : ac_G D cA base t1 t2 sa U H1 := by
  obtain ⟨g1, g2, g3, g4, g5, g6, g7, g8, g9⟩ := h
  exact ⟨fun w hw ho => am_okw_at hW ho (g1 w hw ho), g2.moved hW.alike, g3.moved hW.alike, (g4.kept hq).moved hW.alike, (g5.kept hq).moved hW.alike, (g6.kept hq).moved hW.alike, (g7.kept hq).moved hW.alike,
    fun q hq' => (g8 q hq').warm hW, fun e e' h1 h2 h3 => (g9 e e' h1 h2 h3).moved hW.alike⟩
theorem ac_G.word {s : State} {H : Heap} (h : ac_G D cA base t1 t2 sa s H) {pos : Nat} {w : Cond} (hw : am_at pos w = true) (args : Array Value) : w.before args s = true := by
  simp only [am_at, Bool.and_eq_true, decide_eq_true_eq] at hw
  exact am_okw_at (State.WarmedH.refl s) hw.2 (h.1 w (List.mem_of_getElem? hw.1) hw.2)
end
/-! reading the machine's own rows backwards -/
section
variable {β : Type} {z : β}
theorem iv_I1 {st : List Value} {f : Int32 → List Value → Option β} (h : am_I1 st f = some z) : ∃ x r, st = .int x :: r ∧ f x r = some z := by
  unfold am_I1 at h; split at h
  · exact ⟨_, _, rfl, h⟩
  · exact nomatch h
theorem iv_I2 {st : List Value} {f : Int32 → Int32 → List Value → Option β} (h : am_I2 st f = some z) : ∃ x y r, st = .int y :: .int x :: r ∧ f x y r = some z := by
  unfold am_I2 at h; split at h
  · exact ⟨_, _, _, rfl, h⟩
  · exact nomatch h
theorem iv_J1 {st : List Value} {f : Int64 → List Value → Option β} (h : am_J1 st f = some z) : ∃ x r, st = .long x :: r ∧ f x r = some z := by
  unfold am_J1 at h; split at h
  · exact ⟨_, _, rfl, h⟩
  · exact nomatch h
theorem iv_J2 {st : List Value} {f : Int64 → Int64 → List Value → Option β} (h : am_J2 st f = some z) : ∃ x y r, st = .long y :: .long x :: r ∧ f x y r = some z := by
  unfold am_J2 at h; split at h
  · exact ⟨_, _, _, rfl, h⟩
  · exact nomatch h
theorem iv_JI {st : List Value} {f : Int64 → Int32 → List Value → Option β} (h : am_JI st f = some z) : ∃ x y r, st = .int y :: .long x :: r ∧ f x y r = some z := by
  unfold am_JI at h; split at h
  · exact ⟨_, _, _, rfl, h⟩
  · exact nomatch h
theorem iv_A1 {st : List Value} {f : Nat → List Value → Option β} (h : am_A1 st f = some z) : ∃ x r, st = .ref x :: r ∧ f x r = some z := by
  unfold am_A1 at h; split at h
  · exact ⟨_, _, rfl, h⟩
  · exact nomatch h
theorem iv_lI {o : Option Value} {f : Int32 → Option β} (h : am_lI o f = some z) : ∃ x, o = some (.int x) ∧ f x = some z := by
  unfold am_lI at h; split at h
  · exact ⟨_, rfl, h⟩
  · exact nomatch h
theorem iv_lJ {o : Option Value} {f : Int64 → Option β} (h : am_lJ o f = some z) : ∃ x, o = some (.long x) ∧ f x = some z := by
  unfold am_lJ at h; split at h
  · exact ⟨_, rfl, h⟩
  · exact nomatch h
theorem iv_lA {o : Option Value} {f : Nat → Option β} (h : am_lA o f = some z) : ∃ x, o = some (.ref x) ∧ f x = some z := by
  unfold am_lA at h; split at h
  · exact ⟨_, rfl, h⟩
  · exact nomatch h
theorem iv_dp {st : List Value} {f : Value → List Value → Option β} (h : am_dp st f = some z) : ∃ v r, st = v :: r ∧ v.category = 1 ∧ f v r = some z := by
  unfold am_dp at h; split at h
  · rename_i v r
    cases hb : Nat.beq v.category 1 with
    | false => rw [hb] at h; exact nomatch h
    | true => rw [hb] at h; exact ⟨v, r, rfl, Nat.eq_of_beq_eq_true hb, h⟩
  · exact nomatch h
theorem iv_b {α : Type} {o : Option α} {f : α → Option β} (h : o.bind f = some z) : ∃ x, o = some x ∧ f x = some z := by
  cases o with
  | none => exact nomatch h
  | some x => exact ⟨x, rfl, h⟩
theorem iv_c {b : Bool} {x : Option β} (h : (bif b then x else none) = some z) : b = true ∧ x = some z := by
  cases b with
  | false => exact nomatch h
  | true => exact ⟨rfl, h⟩
theorem iv_n {p : Prop} {hp : Decidable p} {x : Option β} (h : (if p then none else x) = some z) : ¬ p ∧ x = some z := by
  split at h
  · exact nomatch h
  · rename_i hn; exact ⟨hn, h⟩
theorem iv_ix {i : Int32} {j : Nat} (h : am_ix i = some j) : ¬ i < 0 ∧ i.toNatClampNeg = j := by
  unfold am_ix at h
  split at h
  · exact nomatch h
  · rename_i hn; exact ⟨hn, Option.some.inj h⟩
end
theorem iv_rI {M : aM} {a ci k : Nat} {x : Int32} (h : am_rI M a ci k = some x) : am_rd M a ci k = some (.int x) := by
  obtain ⟨v, h1, h2⟩ := iv_b h
  cases v <;> first | (cases h2; exact h1) | exact nomatch h2
theorem iv_rJ {M : aM} {a ci k : Nat} {x : Int64} (h : am_rJ M a ci k = some x) : am_rd M a ci k = some (.long x) := by
  obtain ⟨v, h1, h2⟩ := iv_b h
  cases v <;> first | (cases h2; exact h1) | exact nomatch h2
theorem iv_rA {M : aM} {a ci k : Nat} {x : Nat} (h : am_rA M a ci k = some x) : am_rd M a ci k = some (.ref x) := by
  obtain ⟨v, h1, h2⟩ := iv_b h
  cases v <;> first | (cases h2; exact h1) | exact nomatch h2
theorem am_ld_mem {L : aL} {i : Nat} {v : Value} (h : am_ld L i = some v) : (i, v) ∈ L := by
  induction L with
  | nil => exact nomatch h
  | cons q r ih =>
    have h : (bif Nat.beq q.1 i then some q.2 else am_ld r i) = some v := h
    cases hb : Nat.beq q.1 i with
    | true =>
      rw [hb] at h
      have e1 := Nat.eq_of_beq_eq_true hb
      have e2 : q.2 = v := Option.some.inj h
      subst e1; subst e2
      exact List.mem_cons_self
    | false => rw [hb] at h; exact List.mem_cons_of_mem _ (ih h)
theorem am_pj_mem {lv : List Nat} {L : aL} {q : Nat × Value} (h : q ∈ am_pj lv L) : q ∈ L := by
  induction lv with
  | nil => exact nomatch h
  | cons i r ih =>
    unfold am_pj at h
    split at h
    · rename_i v hv
      rcases List.mem_cons.mp h with e | h
      · rw [e]; exact am_ld_mem hv
      · exact ih h
    · exact ih h
theorem ac_cat (ad : Nat → Nat) (v : Value) : (ac ad v).category = v.category := by cases v <;> rfl
/-- the locals as the frame has them -/
def am_lc (ad : Nat → Nat) (L : aL) : List (Nat × Value) := L.map (fun q => (q.1, ac ad q.2))
theorem am_lc_s1 (ad : Nat → Nat) (L : aL) (i : Nat) (v : Value) : (i, ac ad v) :: (am_lc ad L).filter (fun q => !(q.1 == i) && !(q.1 + 1 == i && q.2.category == 2)) = am_lc ad (am_s1 L i v) := by
  unfold am_lc am_s1
  rw [List.filter_map]
  simp only [List.map_cons]
  congr 2
  apply List.filter_congr
  intro q _
  simp only [Function.comp, ac_cat]
theorem am_lc_s2 (ad : Nat → Nat) (L : aL) (i : Nat) (v : Value) : (i, ac ad v) :: (am_lc ad L).filter (fun q => !(q.1 == i) && (!(q.1 == i + 1) && !(q.1 + 1 == i && q.2.category == 2))) = am_lc ad (am_s2 L i v) := by
  unfold am_lc am_s2
  rw [List.filter_map]
  simp only [List.map_cons]
  congr 2
  apply List.filter_congr
  intro q _
  simp only [Function.comp, ac_cat]
theorem am_lc_at {ls : Array Slot} {nL : Nat} {ad : Nat → Nat} {L : aL} (h : lv_has ls nL (am_lc ad L)) {i : Nat} {v : Value} (hv : am_ld L i = some v) : ls[i]? = some (.val (ac ad v)) := h.2.2 (i, ac ad v) (List.mem_map.mpr ⟨_, am_ld_mem hv, rfl⟩)
theorem am_lc_pj {ls : Array Slot} {nL : Nat} {ad : Nat → Nat} {L : aL} (h : lv_has ls nL (am_lc ad L)) (lv : List Nat) : lv_has ls nL (am_lc ad (am_pj lv L)) := by
  refine ⟨h.1, h.2.1, fun q hq => ?_⟩
  obtain ⟨q0, h0, rfl⟩ := List.mem_map.mp hq
  exact h.2.2 _ (List.mem_map.mpr ⟨q0, am_pj_mem h0, rfl⟩)
def am_wl (n : Nat) (L : aL) : Prop := ∀ q ∈ L, ac_wf n q.2
def am_ws (n : Nat) (st : List Value) : Prop := ∀ v ∈ st, ac_wf n v
theorem am_wl_pj {n : Nat} {L : aL} (h : am_wl n L) (lv : List Nat) : am_wl n (am_pj lv L) := fun q hq => h q (am_pj_mem hq)
theorem am_wl_s1 {n : Nat} {L : aL} {i : Nat} {v : Value} (h : am_wl n L) (hv : ac_wf n v) : am_wl n (am_s1 L i v) := fun q hq => by
  rcases List.mem_cons.mp hq with e | h1
  · rw [e]; exact hv
  · exact h q (List.mem_filter.mp h1).1
theorem am_wl_s2 {n : Nat} {L : aL} {i : Nat} {v : Value} (h : am_wl n L) (hv : ac_wf n v) : am_wl n (am_s2 L i v) := fun q hq => by
  rcases List.mem_cons.mp hq with e | h1
  · rw [e]; exact hv
  · exact h q (List.mem_filter.mp h1).1
theorem am_ws_c {n : Nat} {v : Value} {st : List Value} (hv : ac_wf n v) (h : am_ws n st) : am_ws n (v :: st) := List.forall_mem_cons.mpr ⟨hv, h⟩
theorem am_ws_t {n : Nat} {v : Value} {st : List Value} (h : am_ws n (v :: st)) : am_ws n st := (List.forall_mem_cons.mp h).2
theorem am_ws_h {n : Nat} {v : Value} {st : List Value} (h : am_ws n (v :: st)) : ac_wf n v := (List.forall_mem_cons.mp h).1
theorem am_ld_wf {n : Nat} {L : aL} {i : Nat} {v : Value} (h : am_wl n L) (hv : am_ld L i = some v) : ac_wf n v := h (i, v) (am_ld_mem hv)
end
section
/-! what is looked at in a method's table, once, by evaluation -/
def am_dk (cc : ByteArray) (pc : Nat) (ins : Instr) (n len : Nat) : Bool := decide (decode cc pc = .ok (ins, n)) && Nat.beq len n
def ac_cn (kd : Nat) : String := match kd with
  | 14 => "ActorMachine$Text"
  | 15 => "ActorMachine$Actor"
  | _ => "ActorMachine$Row"
def ac_fc (t : FieldType) : Nat := match t with
  | .int => 0
  | .long => 1
  | .boolean => 3
  | .char => 4
  | .object _ => 2
  | .array _ => 2
  | _ => 9
/-- the throws of the class: the place of the constructor, the exception -/
def am_thr : List (Nat × Nat) := [(54, 0), (77, 4), (117, 2), (175, 3), (211, 1)]
def am_nms : List String := ["java/lang/RuntimeException", "java/lang/Exception"]
def am_cw (q : aS) : Cond := match q.2.2.2.2.1 with
  | [] => .code q.1 q.2.1 q.2.2.1 q.2.2.2.1
  | h :: t => .codeWith q.1 q.2.1 q.2.2.1 q.2.2.2.1 (h :: t)
/-- the rows of a handler table at a place -/
def am_hk (q : aS) (pc : Nat) : List (Nat × Nat × Nat × Nat) → aH → Bool
  | [], [] => true
  | x :: xs, h :: hl => Nat.ble x.1 pc && (Nat.blt pc x.2.1 && (Nat.blt h.1 5 && (decide (h.2.2 = []) && (decide (Cond.classLink q.1.cls x.2.2.2 (ac_E h.1) ∈ lw_tbl) && (decide (Cond.castable (ac_E h.1) (ac_E h.1) ∈ lw_tbl) && (Nat.blt 0 x.2.2.2 &&
      ((match decode q.2.1 x.2.2.1 with
        | .ok (.astore j, 2) => Nat.blt j q.2.2.1 && Nat.beq h.2.1 (x.2.2.1 + 2)
        | .ok (.astore_n j, 1) => Nat.blt j.val q.2.2.1 && Nat.beq h.2.1 (x.2.2.1 + 1)
        | _ => false) && am_hk q pc xs hl)))))))
  | _, _ => false
def am_cki (q : aS) (hs : List aH) (pc : Nat) (h : Nat) : Bool := match q.2.2.2.2.1 with
  | [] => decide (hs.getD h [] = [])
  | x :: xs => am_hk q pc (x :: xs) (hs.getD h [])
def am_ckm (o : List Nat) (n : Nat) : Bool := Nat.blt (o.headD 0) 157 && (decide ((parseMethodDescriptor (am_sp (o.headD 0)).1.desc).map (fun d => d.parameters.length) = some n) && (decide ((am_sp (o.headD 0)).1.cls ≠ "java/lang/invoke/MethodHandle" ∧ (am_sp (o.headD 0)).1.cls ≠ "java/lang/invoke/VarHandle") && Nat.ble (am_sp (o.headD 0)).2.2.1 40))
def am_ck (q : aS) (hs : List aH) (pc : Nat) (i : aI) : Bool := match i.1 with
  | .iconst n => am_dk q.2.1 pc (.iconst n) 1 i.2.1 && decide (i.2.2.2 = .int (Int32.ofInt n))
  | .bipush n => am_dk q.2.1 pc (.bipush n) 2 i.2.1 && decide (i.2.2.2 = .int (Int8.ofInt n).toInt32)
  | .sipush n => am_dk q.2.1 pc (.sipush n) 3 i.2.1 && decide (i.2.2.2 = .int (Int16.ofInt n).toInt32)
  | .lconst n => am_dk q.2.1 pc (.lconst n) 1 i.2.1 && decide (i.2.2.2 = .long (Int64.ofNat (n : Nat)))
  | .ldc_w j => am_dk q.2.1 pc (.ldc_w j) 3 i.2.1 && (match i.2.2.2 with
    | .int v => am_at (i.2.2.1.headD 0) (.constant q.1.cls j v)
    | _ => false)
  | .ldc2_w j => am_dk q.2.1 pc (.ldc2_w j) 3 i.2.1 && (match i.2.2.2 with
    | .long v => am_at (i.2.2.1.headD 0) (.constantLong q.1.cls j v)
    | _ => false)
  | .iload_n n => am_dk q.2.1 pc (.iload_n n) 1 i.2.1 && Nat.beq n.val (i.2.2.1.headD 0)
  | .lload_n n => am_dk q.2.1 pc (.lload_n n) 1 i.2.1 && Nat.beq n.val (i.2.2.1.headD 0)
  | .aload_n n => am_dk q.2.1 pc (.aload_n n) 1 i.2.1 && Nat.beq n.val (i.2.2.1.headD 0)
  | .iload n => am_dk q.2.1 pc (.iload n) 2 i.2.1 && Nat.beq n (i.2.2.1.headD 0)
  | .lload n => am_dk q.2.1 pc (.lload n) 2 i.2.1 && Nat.beq n (i.2.2.1.headD 0)
  | .aload n => am_dk q.2.1 pc (.aload n) 2 i.2.1 && Nat.beq n (i.2.2.1.headD 0)
  | .istore_n n => am_dk q.2.1 pc (.istore_n n) 1 i.2.1 && (Nat.beq n.val (i.2.2.1.headD 0) && Nat.blt (i.2.2.1.headD 0) q.2.2.1)
  | .lstore_n n => am_dk q.2.1 pc (.lstore_n n) 1 i.2.1 && (Nat.beq n.val (i.2.2.1.headD 0) && Nat.blt (i.2.2.1.headD 0 + 1) q.2.2.1)
  | .astore_n n => am_dk q.2.1 pc (.astore_n n) 1 i.2.1 && (Nat.beq n.val (i.2.2.1.headD 0) && Nat.blt (i.2.2.1.headD 0) q.2.2.1)
  | .istore n => am_dk q.2.1 pc (.istore n) 2 i.2.1 && (Nat.beq n (i.2.2.1.headD 0) && Nat.blt (i.2.2.1.headD 0) q.2.2.1)
  | .lstore n => am_dk q.2.1 pc (.lstore n) 2 i.2.1 && (Nat.beq n (i.2.2.1.headD 0) && Nat.blt (i.2.2.1.headD 0 + 1) q.2.2.1)
  | .astore n => am_dk q.2.1 pc (.astore n) 2 i.2.1 && (Nat.beq n (i.2.2.1.headD 0) && Nat.blt (i.2.2.1.headD 0) q.2.2.1)
  | .iinc j n => am_dk q.2.1 pc (.iinc j n) 3 i.2.1 && (Nat.beq j (i.2.2.1.headD 0) && (Nat.blt (i.2.2.1.headD 0) q.2.2.1 && decide (i.2.2.2 = .int (Int32.ofInt n))))
  | .ifCond c off => am_dk q.2.1 pc (.ifCond c off) 3 i.2.1 && decide ((pc : Int) + off = ((i.2.2.1.headD 0 : Nat) : Int))
  | .if_icmp c off => am_dk q.2.1 pc (.if_icmp c off) 3 i.2.1 && decide ((pc : Int) + off = ((i.2.2.1.headD 0 : Nat) : Int))
  | .goto off => am_dk q.2.1 pc (.goto off) 3 i.2.1 && decide ((pc : Int) + off = ((i.2.2.1.headD 0 : Nat) : Int))
  | .nop => Nat.beq (i.2.2.1.headD 0) pc
  | .tableswitch d lo hi offs => am_dk q.2.1 pc (.tableswitch d lo hi offs) i.2.1 i.2.1 && (match i.2.2.1 with
    | n :: dd :: mm :: w => decide ((n : Int) = lo) && (decide ((pc : Int) + d = (dd : Int)) && (decide (offs.toList.map (fun x => (pc : Int) + x) = (w.drop mm).map (fun (x : Nat) => (x : Int))) && (decide (hi = lo + ((w.drop mm).length : Int) - 1) && Nat.ble (n + (w.drop mm).length) 1000)))
    | _ => false)
  | .getstatic j => am_dk q.2.1 pc (.getstatic j) 3 i.2.1 && (match i.2.2.1 with
    | a :: w :: _ => (Nat.beq a 1 && am_at w (.fieldLink q.1.cls j "ActorMachine$Term" "TENS" "[I")) || (Nat.beq a 2 && am_at w (.fieldLink q.1.cls j "ActorMachine$Term" "DEEPER" "[I"))
    | _ => false)
  | .getfield j => am_dk q.2.1 pc (.getfield j) 3 i.2.1 && (match i.2.2.1 with
    | ci :: f :: _ :: w :: _ => Nat.blt ci 10 && (Nat.blt f (ac_N ci) && am_at w (.fieldLink q.1.cls j (ac_T ci f).1 (ac_T ci f).2.1 (ac_T ci f).2.2.1))
    | _ => false)
  | .putfield j => am_dk q.2.1 pc (.putfield j) 3 i.2.1 && (match i.2.2.1 with
    | ci :: f :: ty :: w :: _ => Nat.blt ci 10 && (Nat.blt f (ac_N ci) && (am_at w (.fieldLink q.1.cls j (ac_T ci f).1 (ac_T ci f).2.1 (ac_T ci f).2.2.1) && (Nat.beq ty (ac_fc (ac_F ci f)) && decide ((ac_T ci f).2.2.2 = false ∨ ((ac_T ci f).2.2.2 = true ∧ q.1.name = "<init>" ∧ (ac_T ci f).1 = q.1.cls)))))
    | _ => false)
  | .aaload => am_dk q.2.1 pc .aaload 1 i.2.1 && (Nat.ble 14 (i.2.2.1.headD 0) && Nat.blt (i.2.2.1.headD 0) 17)
  | .aastore => am_dk q.2.1 pc .aastore 1 i.2.1 && (Nat.ble 14 (i.2.2.1.headD 0) && (Nat.blt (i.2.2.1.headD 0) 17 && (Nat.blt (i.2.2.1.getD 1 0) 10 && decide (ac_ty (i.2.2.1.headD 0) = .object (ac_C (i.2.2.1.getD 1 0))))))
  | .arraylength => am_dk q.2.1 pc .arraylength 1 i.2.1 && (Nat.ble 10 (i.2.2.1.headD 0) && Nat.blt (i.2.2.1.headD 0) 17)
  | .newarray at_ => am_dk q.2.1 pc (.newarray at_) 2 i.2.1 && (Nat.ble 10 (i.2.2.1.headD 0) && (Nat.blt (i.2.2.1.headD 0) 14 && (decide (newarray.typeOf at_ = ac_ty (i.2.2.1.headD 0)) && am_at (i.2.2.1.getD 1 0) (.arrayClass (ac_ty (i.2.2.1.headD 0))))))
  | .anewarray j => am_dk q.2.1 pc (.anewarray j) 3 i.2.1 && (Nat.ble 14 (i.2.2.1.headD 0) && (Nat.blt (i.2.2.1.headD 0) 17 && (am_at (i.2.2.1.getD 1 0) (.classLink q.1.cls j (ac_cn (i.2.2.1.headD 0))) && am_at (i.2.2.1.getD 2 0) (.arrayOver (.object (ac_cn (i.2.2.1.headD 0)))))))
  | .new j => am_dk q.2.1 pc (.new j) 3 i.2.1 && (match i.2.2.1 with
    | 999 :: e :: is :: ic :: w1 :: w2 :: _ => decide (q.1.cls = "ActorMachine") && (decide (q.2.2.2.2.1 = []) && (Nat.blt e 5 && (decide ((ic, e) ∈ am_thr) && (decide ((is, am_txt is) ∈ am_str) && (am_dk q.2.1 (pc + 3) .dup 1 1 && (am_dk q.2.1 (pc + 4) (.ldc is) 2 2 && (am_dk q.2.1 (pc + 6) (.invokespecial ic) 3 3 && (am_dk q.2.1 (pc + 9) .athrow 1 1 && (am_at w1 (.classLink q.1.cls j (ac_E e)) && am_at w2 (.initialized (ac_E e)))))))))))
    | ci :: _ :: w1 :: w2 :: w3 :: _ => Nat.blt ci 10 && (am_at w1 (.classLink q.1.cls j (ac_C ci)) && (am_at w2 (.instantiable (ac_C ci) (ac_N ci)) && am_at w3 (.initialized (ac_C ci))))
    | _ => false)
  | .invokevirtual j => am_dk q.2.1 pc (.invokevirtual j) 3 i.2.1 && (match i.2.2.1 with
    | mm :: n :: _ :: h :: ci :: w1 :: w2 :: w3 :: w4 :: _ => am_ckm [mm] (n - 1) && (Nat.ble 1 n && (am_cki q hs pc h && (Nat.blt ci 10 && (decide ((am_sp mm).1.cls = ac_C ci) && (decide ((am_sp mm).2.2.2.2.1 = []) && (am_at (am_sp mm).2.2.2.2.2 (am_cw (am_sp mm)) && (am_at w1 (.methodLink q.1.cls j (am_sp mm).1) && (am_at w2 (.instanceMethod (am_sp mm).1) && (am_at w3 (.selects (am_sp mm).1.cls (am_sp mm).1 (am_sp mm).1) && am_at w4 (.initialized (am_sp mm).1.cls))))))))))
    | _ => false)
  | .invokestatic j => am_dk q.2.1 pc (.invokestatic j) 3 i.2.1 && (match i.2.2.1 with
    | 1001 :: w1 :: w2 :: w3 :: w4 :: _ => am_at w1 (.methodLink q.1.cls j arraycopyName) && (am_at w2 (.static arraycopyName) && (am_at w3 (.native arraycopyName) && am_at w4 (.initialized "java/lang/System")))
    | 1003 :: w1 :: w2 :: w3 :: w4 :: _ => am_at w1 (.methodLink q.1.cls j Lib.Math.abs.name) && (am_at w2 (.static Lib.Math.abs.name) && (am_at w3 (.code Lib.Math.abs.name Lib.Math.abs.code 1 (some .int)) && am_at w4 (.initialized "java/lang/Math")))
    | mm :: n :: _ :: h :: w1 :: w2 :: w3 :: _ => am_ckm [mm] n && (am_cki q hs pc h && (am_at (am_sp mm).2.2.2.2.2 (am_cw (am_sp mm)) && (am_at w1 (.methodLink q.1.cls j (am_sp mm).1) && (am_at w2 (.static (am_sp mm).1) && am_at w3 (.initialized (am_sp mm).1.cls)))))
    | _ => false)
  | .invokespecial j => am_dk q.2.1 pc (.invokespecial j) 3 i.2.1 && (match i.2.2.1 with
    | 1002 :: w1 :: w2 :: w3 :: _ => am_at w1 (.methodLink q.1.cls j Lib.objectInit) && (am_at w2 (.instanceMethod Lib.objectInit) && am_at w3 (.code Lib.objectInit ⟨#[0xb1]⟩ 1 none))
    | mm :: n :: _ :: _ :: w1 :: w2 :: w3 :: _ => am_ckm [mm] (n - 1) && (Nat.ble 1 n && (decide ((am_sp mm).1.name = "<init>") && (decide ((am_sp mm).2.2.2.1 = none) && (decide ((am_sp mm).2.2.2.2.1 = []) && (am_at (am_sp mm).2.2.2.2.2 (am_cw (am_sp mm)) && (am_at w1 (.methodLink q.1.cls j (am_sp mm).1) && (am_at w2 (.instanceMethod (am_sp mm).1) && am_at w3 (.initialized (am_sp mm).1.cls))))))))
    | _ => false)
  | .ireturn => am_dk q.2.1 pc .ireturn 1 i.2.1 && (match q.2.2.2.1 with
    | some t => Nat.beq (i.2.2.1.headD 0) (ac_fc t) && decide (t = .int ∨ t = .boolean ∨ t = .char)
    | none => false)
  | .lreturn => am_dk q.2.1 pc .lreturn 1 i.2.1 && decide (q.2.2.2.1 = some .long)
  | .areturn => am_dk q.2.1 pc .areturn 1 i.2.1 && (match q.2.2.2.1 with
    | some (.object _) => true
    | _ => false)
  | .return_ => am_dk q.2.1 pc .return_ 1 i.2.1 && decide (q.2.2.2.1 = none)
  | ins => am_dk q.2.1 pc ins 1 i.2.1
def am_ckb (q : aS) (hs : List aH) : Nat → List aI → Bool
  | _, [] => true
  | pc, i :: r => am_ck q hs pc i && am_ckb q hs (pc + i.2.1) r
def am_ckk (q : aS) (K : aK) : Bool := K.1.all (fun b => am_ckb q K.2.1 b.1 b.2) && (decide (plainName q.1.cls = true) && (Nat.ble q.2.2.1 40 && decide (am_cw q = am_cw q)))
end
section
/-! ONE INSTRUCTION: what the plain machine does, the machine does -/
theorem am_dk_ok {cc : ByteArray} {pc : Nat} {ins : Instr} {n len : Nat} (h : am_dk cc pc ins n len = true) : decode cc pc = .ok (ins, n) ∧ len = n := by
  simp only [am_dk, Bool.and_eq_true, decide_eq_true_eq] at h
  exact ⟨h.1, Nat.eq_of_beq_eq_true h.2⟩
theorem am_an {a b : Bool} (h : (a && b) = true) : a = true ∧ b = true := by simpa using h
theorem iv_jp {β : Type} {z : β} {J : Nat → aL → List Value → aM → Option β} {ops : List Nat} {L : aL} {st : List Value} {M : aM} (h : am_jp J ops L st M = some z) : ∃ lv, J (ops.headD 0) (am_pj lv L) st M = some z := by
  unfold am_jp at h
  split at h
  · exact ⟨_, h⟩
  · exact nomatch h
def am_I (D : va_G) (cA : Nat → ClassId) (base : Nat) (q : aS) (ad0 : Nat → Nat) (n0 c0 s0 : Nat) (s : State) (L : aL) (st : List Value) (M : aM) (H : Heap) (locs : List Loc) (ls : Array Slot) (ad : Nat → Nat) (cells slots : Nat) : Prop :=
  (∀ k, k < n0 → ad k = ad0 k) ∧ n0 ≤ M.1.length ∧ ac_R D cA base ad M s H ∧ va_S (ac_A base) s.heap H locs ∧ lv_has ls q.2.2.1 (am_lc ad L) ∧ am_wl M.1.length L ∧ am_ws M.1.length st ∧ M.2.1 = c0 + cells ∧ M.2.2 = s0 + slots
def am_S (p : Program) (l : Launch) (e : Env) (R : Room) (s : State) (m : MethodId) (args : Array Value) (below : List Frame) (meth : Method) (c : Code) (D : va_G) (cA : Nat → ClassId) (base : Nat) (q : aS) (ad0 : Nat → Nat) (n0 c0 s0 : Nat) (Qt : State → Prop) (r : aR) (pc : Nat) (f : aL → List Value → aM → Option aR) : Prop :=
  ∀ (L : aL) (st : List Value) (M : aM), f L st M = some r → (M.2.1 ≤ r.2.2.1 ∧ M.2.2 ≤ r.2.2.2) ∧
    ∀ (H : Heap) (locs : List Loc) (ls : Array Slot) (ad : Nat → Nat) (cells slots : Nat), am_I D cA base q ad0 n0 c0 s0 s L st M H locs ls ad cells slots → W p l e R s m args below meth c H locs cells slots Qt (F0 m pc ls (st.map (ac ad)))
/-- the method's own things -/
def am_E (p : Program) (l : Launch) (R : Room) (s : State) (m : MethodId) (meth : Method) (c : Code) (D : va_G) (cA : Nat → ClassId) (base t1 t2 : Nat) (sa : Nat → Nat) (q : aS) (ad0 : Nat → Nat) (n0 c0 s0 : Nat) (r : aR) : Prop :=
  p.tables.exec = Jvm.exec ∧ c.code = q.2.1 ∧ c.maxLocals = q.2.2.1 ∧ s.vm.findClass q.1.cls = some m.cls ∧ meth.sig.returnType = q.2.2.2.1 ∧ meth.locks = false ∧ meth.name = q.1.name ∧ ac_G D cA base t1 t2 sa s s.heap ∧ base ≤ s.heap.size ∧ 8 ≤ R.frames ∧ 200 ≤ R.locals ∧ l.stackTraces = false ∧
  (ad0 1 = t1 ∧ ad0 2 = t2 ∧ 3 ≤ n0) ∧ r.2.2.1 ≤ c0 + R.cells ∧ r.2.2.2 ≤ s0 + R.slots
section SIM
variable {D : va_G} {cA : Nat → ClassId} {base : Nat} {q : aS} {ad0 : Nat → Nat} {n0 c0 s0 : Nat} {s : State} {L : aL} {st : List Value} {M : aM} {H : Heap} {locs : List Loc} {ls : Array Slot} {ad : Nat → Nat} {cells slots : Nat}
theorem am_I.lv (I : am_I D cA base q ad0 n0 c0 s0 s L st M H locs ls ad cells slots) : lv_has ls q.2.2.1 (am_lc ad L) := I.2.2.2.2.1
theorem am_I.ws (I : am_I D cA base q ad0 n0 c0 s0 s L st M H locs ls ad cells slots) : am_ws M.1.length st := I.2.2.2.2.2.2.1
theorem am_I.wl (I : am_I D cA base q ad0 n0 c0 s0 s L st M H locs ls ad cells slots) : am_wl M.1.length L := I.2.2.2.2.2.1
theorem am_I.rl (I : am_I D cA base q ad0 n0 c0 s0 s L st M H locs ls ad cells slots) : ac_R D cA base ad M s H := I.2.2.1
theorem am_I.sm (I : am_I D cA base q ad0 n0 c0 s0 s L st M H locs ls ad cells slots) : va_S (ac_A base) s.heap H locs := I.2.2.2.1
theorem am_I.stk {st' : List Value} (I : am_I D cA base q ad0 n0 c0 s0 s L st M H locs ls ad cells slots) (h : am_ws M.1.length st') : am_I D cA base q ad0 n0 c0 s0 s L st' M H locs ls ad cells slots := ⟨I.1, I.2.1, I.2.2.1, I.2.2.2.1, I.2.2.2.2.1, I.2.2.2.2.2.1, h, I.2.2.2.2.2.2.2⟩
theorem am_I.lo {L' : aL} {ls' : Array Slot} {st' : List Value} (I : am_I D cA base q ad0 n0 c0 s0 s L st M H locs ls ad cells slots) (hl : lv_has ls' q.2.2.1 (am_lc ad L')) (hw : am_wl M.1.length L') (h : am_ws M.1.length st') : am_I D cA base q ad0 n0 c0 s0 s L' st' M H locs ls' ad cells slots := ⟨I.1, I.2.1, I.2.2.1, I.2.2.2.1, hl, hw, h, I.2.2.2.2.2.2.2⟩
theorem am_I.pj {st' : List Value} (I : am_I D cA base q ad0 n0 c0 s0 s L st M H locs ls ad cells slots) (lv : List Nat) (h : am_ws M.1.length st') : am_I D cA base q ad0 n0 c0 s0 s (am_pj lv L) st' M H locs ls ad cells slots := I.lo (am_lc_pj I.lv lv) (am_wl_pj I.wl lv) h
end SIM
section SIM1
variable {p : Program} {l : Launch} {e : Env} {R : Room} {s : State} {m : MethodId} {args : Array Value} {below : List Frame} {meth : Method} {c : Code} {D : va_G} {cA : Nat → ClassId} {base t1 t2 : Nat} {sa : Nat → Nat} {q : aS} {ad0 : Nat → Nat} {n0 c0 s0 : Nat} {Qt : State → Prop} {r : aR}
variable {cal : aY} {hs : List aH} {J : Nat → aL → List Value → aM → Option aR} {k : aL → List Value → aM → Option aR} {pc len : Nat} {ops : List Nat} {v : Value}
theorem sd_iadd  (E : am_E p l R s m meth c D cA base t1 t2 sa q ad0 n0 c0 s0 r) (hk : am_S p l e R s m args below meth c D cA base q ad0 n0 c0 s0 Qt r (pc + len) k) (hck : am_ck q hs pc (.iadd, len, ops, v) = true) : am_S p l e R s m args below meth c D cA base q ad0 n0 c0 s0 Qt r pc (am_1 cal hs J some (.iadd, len, ops, v) k) := by
  obtain ⟨hx, hb, hml, hown, hret, hlk, hnm, hG, hbs, hfr, hlo, htr, had, hrc, hrs⟩ := E
  intro L st M hrun
  obtain ⟨hd, rfl⟩ := am_dk_ok (show am_dk q.2.1 pc (.iadd) 1 len = true from hck)
  obtain ⟨x, y, w, rfl, h⟩ := iv_I2 (show am_I2 st _ = some r from hrun)
  obtain ⟨hm, hk⟩ := hk _ _ _ h
  exact ⟨hm, fun H locs ls ad cells slots I => lv_iadd hx hb hd (hk H locs ls ad cells slots (I.stk (am_ws_c ac_wf_int (am_ws_t (am_ws_t I.ws)))))⟩
theorem sd_isub  (E : am_E p l R s m meth c D cA base t1 t2 sa q ad0 n0 c0 s0 r) (hk : am_S p l e R s m args below meth c D cA base q ad0 n0 c0 s0 Qt r (pc + len) k) (hck : am_ck q hs pc (.isub, len, ops, v) = true) : am_S p l e R s m args below meth c D cA base q ad0 n0 c0 s0 Qt r pc (am_1 cal hs J some (.isub, len, ops, v) k) := by
  obtain ⟨hx, hb, hml, hown, hret, hlk, hnm, hG, hbs, hfr, hlo, htr, had, hrc, hrs⟩ := E
  intro L st M hrun
  obtain ⟨hd, rfl⟩ := am_dk_ok (show am_dk q.2.1 pc (.isub) 1 len = true from hck)
  obtain ⟨x, y, w, rfl, h⟩ := iv_I2 (show am_I2 st _ = some r from hrun)
  obtain ⟨hm, hk⟩ := hk _ _ _ h
  exact ⟨hm, fun H locs ls ad cells slots I => lv_isub hx hb hd (hk H locs ls ad cells slots (I.stk (am_ws_c ac_wf_int (am_ws_t (am_ws_t I.ws)))))⟩
theorem sd_imul  (E : am_E p l R s m meth c D cA base t1 t2 sa q ad0 n0 c0 s0 r) (hk : am_S p l e R s m args below meth c D cA base q ad0 n0 c0 s0 Qt r (pc + len) k) (hck : am_ck q hs pc (.imul, len, ops, v) = true) : am_S p l e R s m args below meth c D cA base q ad0 n0 c0 s0 Qt r pc (am_1 cal hs J some (.imul, len, ops, v) k) := by
  obtain ⟨hx, hb, hml, hown, hret, hlk, hnm, hG, hbs, hfr, hlo, htr, had, hrc, hrs⟩ := E
  intro L st M hrun
  obtain ⟨hd, rfl⟩ := am_dk_ok (show am_dk q.2.1 pc (.imul) 1 len = true from hck)
  obtain ⟨x, y, w, rfl, h⟩ := iv_I2 (show am_I2 st _ = some r from hrun)
  obtain ⟨hm, hk⟩ := hk _ _ _ h
  exact ⟨hm, fun H locs ls ad cells slots I => lv_imul hx hb hd (hk H locs ls ad cells slots (I.stk (am_ws_c ac_wf_int (am_ws_t (am_ws_t I.ws)))))⟩
theorem sd_iand  (E : am_E p l R s m meth c D cA base t1 t2 sa q ad0 n0 c0 s0 r) (hk : am_S p l e R s m args below meth c D cA base q ad0 n0 c0 s0 Qt r (pc + len) k) (hck : am_ck q hs pc (.iand, len, ops, v) = true) : am_S p l e R s m args below meth c D cA base q ad0 n0 c0 s0 Qt r pc (am_1 cal hs J some (.iand, len, ops, v) k) := by
  obtain ⟨hx, hb, hml, hown, hret, hlk, hnm, hG, hbs, hfr, hlo, htr, had, hrc, hrs⟩ := E
  intro L st M hrun
  obtain ⟨hd, rfl⟩ := am_dk_ok (show am_dk q.2.1 pc (.iand) 1 len = true from hck)
  obtain ⟨x, y, w, rfl, h⟩ := iv_I2 (show am_I2 st _ = some r from hrun)
  obtain ⟨hm, hk⟩ := hk _ _ _ h
  exact ⟨hm, fun H locs ls ad cells slots I => lv_iand hx hb hd (hk H locs ls ad cells slots (I.stk (am_ws_c ac_wf_int (am_ws_t (am_ws_t I.ws)))))⟩
theorem sd_ior  (E : am_E p l R s m meth c D cA base t1 t2 sa q ad0 n0 c0 s0 r) (hk : am_S p l e R s m args below meth c D cA base q ad0 n0 c0 s0 Qt r (pc + len) k) (hck : am_ck q hs pc (.ior, len, ops, v) = true) : am_S p l e R s m args below meth c D cA base q ad0 n0 c0 s0 Qt r pc (am_1 cal hs J some (.ior, len, ops, v) k) := by
  obtain ⟨hx, hb, hml, hown, hret, hlk, hnm, hG, hbs, hfr, hlo, htr, had, hrc, hrs⟩ := E
  intro L st M hrun
  obtain ⟨hd, rfl⟩ := am_dk_ok (show am_dk q.2.1 pc (.ior) 1 len = true from hck)
  obtain ⟨x, y, w, rfl, h⟩ := iv_I2 (show am_I2 st _ = some r from hrun)
  obtain ⟨hm, hk⟩ := hk _ _ _ h
  exact ⟨hm, fun H locs ls ad cells slots I => lv_ior hx hb hd (hk H locs ls ad cells slots (I.stk (am_ws_c ac_wf_int (am_ws_t (am_ws_t I.ws)))))⟩
theorem sd_ixor  (E : am_E p l R s m meth c D cA base t1 t2 sa q ad0 n0 c0 s0 r) (hk : am_S p l e R s m args below meth c D cA base q ad0 n0 c0 s0 Qt r (pc + len) k) (hck : am_ck q hs pc (.ixor, len, ops, v) = true) : am_S p l e R s m args below meth c D cA base q ad0 n0 c0 s0 Qt r pc (am_1 cal hs J some (.ixor, len, ops, v) k) := by
  obtain ⟨hx, hb, hml, hown, hret, hlk, hnm, hG, hbs, hfr, hlo, htr, had, hrc, hrs⟩ := E
  intro L st M hrun
  obtain ⟨hd, rfl⟩ := am_dk_ok (show am_dk q.2.1 pc (.ixor) 1 len = true from hck)
  obtain ⟨x, y, w, rfl, h⟩ := iv_I2 (show am_I2 st _ = some r from hrun)
  obtain ⟨hm, hk⟩ := hk _ _ _ h
  exact ⟨hm, fun H locs ls ad cells slots I => lv_ixor hx hb hd (hk H locs ls ad cells slots (I.stk (am_ws_c ac_wf_int (am_ws_t (am_ws_t I.ws)))))⟩
theorem sd_ishl  (E : am_E p l R s m meth c D cA base t1 t2 sa q ad0 n0 c0 s0 r) (hk : am_S p l e R s m args below meth c D cA base q ad0 n0 c0 s0 Qt r (pc + len) k) (hck : am_ck q hs pc (.ishl, len, ops, v) = true) : am_S p l e R s m args below meth c D cA base q ad0 n0 c0 s0 Qt r pc (am_1 cal hs J some (.ishl, len, ops, v) k) := by
  obtain ⟨hx, hb, hml, hown, hret, hlk, hnm, hG, hbs, hfr, hlo, htr, had, hrc, hrs⟩ := E
  intro L st M hrun
  obtain ⟨hd, rfl⟩ := am_dk_ok (show am_dk q.2.1 pc (.ishl) 1 len = true from hck)
  obtain ⟨x, y, w, rfl, h⟩ := iv_I2 (show am_I2 st _ = some r from hrun)
  obtain ⟨hm, hk⟩ := hk _ _ _ h
  exact ⟨hm, fun H locs ls ad cells slots I => lv_ishl hx hb hd (hk H locs ls ad cells slots (I.stk (am_ws_c ac_wf_int (am_ws_t (am_ws_t I.ws)))))⟩
theorem sd_ishr  (E : am_E p l R s m meth c D cA base t1 t2 sa q ad0 n0 c0 s0 r) (hk : am_S p l e R s m args below meth c D cA base q ad0 n0 c0 s0 Qt r (pc + len) k) (hck : am_ck q hs pc (.ishr, len, ops, v) = true) : am_S p l e R s m args below meth c D cA base q ad0 n0 c0 s0 Qt r pc (am_1 cal hs J some (.ishr, len, ops, v) k) := by
  obtain ⟨hx, hb, hml, hown, hret, hlk, hnm, hG, hbs, hfr, hlo, htr, had, hrc, hrs⟩ := E
  intro L st M hrun
  obtain ⟨hd, rfl⟩ := am_dk_ok (show am_dk q.2.1 pc (.ishr) 1 len = true from hck)
  obtain ⟨x, y, w, rfl, h⟩ := iv_I2 (show am_I2 st _ = some r from hrun)
  obtain ⟨hm, hk⟩ := hk _ _ _ h
  exact ⟨hm, fun H locs ls ad cells slots I => lv_ishr hx hb hd (hk H locs ls ad cells slots (I.stk (am_ws_c ac_wf_int (am_ws_t (am_ws_t I.ws)))))⟩
theorem sd_iushr  (E : am_E p l R s m meth c D cA base t1 t2 sa q ad0 n0 c0 s0 r) (hk : am_S p l e R s m args below meth c D cA base q ad0 n0 c0 s0 Qt r (pc + len) k) (hck : am_ck q hs pc (.iushr, len, ops, v) = true) : am_S p l e R s m args below meth c D cA base q ad0 n0 c0 s0 Qt r pc (am_1 cal hs J some (.iushr, len, ops, v) k) := by
  obtain ⟨hx, hb, hml, hown, hret, hlk, hnm, hG, hbs, hfr, hlo, htr, had, hrc, hrs⟩ := E
  intro L st M hrun
  obtain ⟨hd, rfl⟩ := am_dk_ok (show am_dk q.2.1 pc (.iushr) 1 len = true from hck)
  obtain ⟨x, y, w, rfl, h⟩ := iv_I2 (show am_I2 st _ = some r from hrun)
  obtain ⟨hm, hk⟩ := hk _ _ _ h
  exact ⟨hm, fun H locs ls ad cells slots I => lv_iushr hx hb hd rfl (hk H locs ls ad cells slots (I.stk (am_ws_c ac_wf_int (am_ws_t (am_ws_t I.ws)))))⟩
theorem sd_ladd  (E : am_E p l R s m meth c D cA base t1 t2 sa q ad0 n0 c0 s0 r) (hk : am_S p l e R s m args below meth c D cA base q ad0 n0 c0 s0 Qt r (pc + len) k) (hck : am_ck q hs pc (.ladd, len, ops, v) = true) : am_S p l e R s m args below meth c D cA base q ad0 n0 c0 s0 Qt r pc (am_1 cal hs J some (.ladd, len, ops, v) k) := by
  obtain ⟨hx, hb, hml, hown, hret, hlk, hnm, hG, hbs, hfr, hlo, htr, had, hrc, hrs⟩ := E
  intro L st M hrun
  obtain ⟨hd, rfl⟩ := am_dk_ok (show am_dk q.2.1 pc (.ladd) 1 len = true from hck)
  obtain ⟨x, y, w, rfl, h⟩ := iv_J2 (show am_J2 st _ = some r from hrun)
  obtain ⟨hm, hk⟩ := hk _ _ _ h
  exact ⟨hm, fun H locs ls ad cells slots I => lv_ladd hx hb hd (hk H locs ls ad cells slots (I.stk (am_ws_c ac_wf_long (am_ws_t (am_ws_t I.ws)))))⟩
theorem sd_lsub  (E : am_E p l R s m meth c D cA base t1 t2 sa q ad0 n0 c0 s0 r) (hk : am_S p l e R s m args below meth c D cA base q ad0 n0 c0 s0 Qt r (pc + len) k) (hck : am_ck q hs pc (.lsub, len, ops, v) = true) : am_S p l e R s m args below meth c D cA base q ad0 n0 c0 s0 Qt r pc (am_1 cal hs J some (.lsub, len, ops, v) k) := by
  obtain ⟨hx, hb, hml, hown, hret, hlk, hnm, hG, hbs, hfr, hlo, htr, had, hrc, hrs⟩ := E
  intro L st M hrun
  obtain ⟨hd, rfl⟩ := am_dk_ok (show am_dk q.2.1 pc (.lsub) 1 len = true from hck)
  obtain ⟨x, y, w, rfl, h⟩ := iv_J2 (show am_J2 st _ = some r from hrun)
  obtain ⟨hm, hk⟩ := hk _ _ _ h
  exact ⟨hm, fun H locs ls ad cells slots I => lv_lsub hx hb hd (hk H locs ls ad cells slots (I.stk (am_ws_c ac_wf_long (am_ws_t (am_ws_t I.ws)))))⟩
theorem sd_land  (E : am_E p l R s m meth c D cA base t1 t2 sa q ad0 n0 c0 s0 r) (hk : am_S p l e R s m args below meth c D cA base q ad0 n0 c0 s0 Qt r (pc + len) k) (hck : am_ck q hs pc (.land, len, ops, v) = true) : am_S p l e R s m args below meth c D cA base q ad0 n0 c0 s0 Qt r pc (am_1 cal hs J some (.land, len, ops, v) k) := by
  obtain ⟨hx, hb, hml, hown, hret, hlk, hnm, hG, hbs, hfr, hlo, htr, had, hrc, hrs⟩ := E
  intro L st M hrun
  obtain ⟨hd, rfl⟩ := am_dk_ok (show am_dk q.2.1 pc (.land) 1 len = true from hck)
  obtain ⟨x, y, w, rfl, h⟩ := iv_J2 (show am_J2 st _ = some r from hrun)
  obtain ⟨hm, hk⟩ := hk _ _ _ h
  exact ⟨hm, fun H locs ls ad cells slots I => lv_land hx hb hd (hk H locs ls ad cells slots (I.stk (am_ws_c ac_wf_long (am_ws_t (am_ws_t I.ws)))))⟩
theorem sd_lor  (E : am_E p l R s m meth c D cA base t1 t2 sa q ad0 n0 c0 s0 r) (hk : am_S p l e R s m args below meth c D cA base q ad0 n0 c0 s0 Qt r (pc + len) k) (hck : am_ck q hs pc (.lor, len, ops, v) = true) : am_S p l e R s m args below meth c D cA base q ad0 n0 c0 s0 Qt r pc (am_1 cal hs J some (.lor, len, ops, v) k) := by
  obtain ⟨hx, hb, hml, hown, hret, hlk, hnm, hG, hbs, hfr, hlo, htr, had, hrc, hrs⟩ := E
  intro L st M hrun
  obtain ⟨hd, rfl⟩ := am_dk_ok (show am_dk q.2.1 pc (.lor) 1 len = true from hck)
  obtain ⟨x, y, w, rfl, h⟩ := iv_J2 (show am_J2 st _ = some r from hrun)
  obtain ⟨hm, hk⟩ := hk _ _ _ h
  exact ⟨hm, fun H locs ls ad cells slots I => lv_lor hx hb hd (hk H locs ls ad cells slots (I.stk (am_ws_c ac_wf_long (am_ws_t (am_ws_t I.ws)))))⟩
theorem sd_lshl  (E : am_E p l R s m meth c D cA base t1 t2 sa q ad0 n0 c0 s0 r) (hk : am_S p l e R s m args below meth c D cA base q ad0 n0 c0 s0 Qt r (pc + len) k) (hck : am_ck q hs pc (.lshl, len, ops, v) = true) : am_S p l e R s m args below meth c D cA base q ad0 n0 c0 s0 Qt r pc (am_1 cal hs J some (.lshl, len, ops, v) k) := by
  obtain ⟨hx, hb, hml, hown, hret, hlk, hnm, hG, hbs, hfr, hlo, htr, had, hrc, hrs⟩ := E
  intro L st M hrun
  obtain ⟨hd, rfl⟩ := am_dk_ok (show am_dk q.2.1 pc (.lshl) 1 len = true from hck)
  obtain ⟨x, y, w, rfl, h⟩ := iv_JI (show am_JI st _ = some r from hrun)
  obtain ⟨hm, hk⟩ := hk _ _ _ h
  exact ⟨hm, fun H locs ls ad cells slots I => lv_lshl hx hb hd rfl (hk H locs ls ad cells slots (I.stk (am_ws_c ac_wf_long (am_ws_t (am_ws_t I.ws)))))⟩
theorem sd_lshr  (E : am_E p l R s m meth c D cA base t1 t2 sa q ad0 n0 c0 s0 r) (hk : am_S p l e R s m args below meth c D cA base q ad0 n0 c0 s0 Qt r (pc + len) k) (hck : am_ck q hs pc (.lshr, len, ops, v) = true) : am_S p l e R s m args below meth c D cA base q ad0 n0 c0 s0 Qt r pc (am_1 cal hs J some (.lshr, len, ops, v) k) := by
  obtain ⟨hx, hb, hml, hown, hret, hlk, hnm, hG, hbs, hfr, hlo, htr, had, hrc, hrs⟩ := E
  intro L st M hrun
  obtain ⟨hd, rfl⟩ := am_dk_ok (show am_dk q.2.1 pc (.lshr) 1 len = true from hck)
  obtain ⟨x, y, w, rfl, h⟩ := iv_JI (show am_JI st _ = some r from hrun)
  obtain ⟨hm, hk⟩ := hk _ _ _ h
  exact ⟨hm, fun H locs ls ad cells slots I => lv_lshr hx hb hd rfl (hk H locs ls ad cells slots (I.stk (am_ws_c ac_wf_long (am_ws_t (am_ws_t I.ws)))))⟩
theorem sd_lushr  (E : am_E p l R s m meth c D cA base t1 t2 sa q ad0 n0 c0 s0 r) (hk : am_S p l e R s m args below meth c D cA base q ad0 n0 c0 s0 Qt r (pc + len) k) (hck : am_ck q hs pc (.lushr, len, ops, v) = true) : am_S p l e R s m args below meth c D cA base q ad0 n0 c0 s0 Qt r pc (am_1 cal hs J some (.lushr, len, ops, v) k) := by
  obtain ⟨hx, hb, hml, hown, hret, hlk, hnm, hG, hbs, hfr, hlo, htr, had, hrc, hrs⟩ := E
  intro L st M hrun
  obtain ⟨hd, rfl⟩ := am_dk_ok (show am_dk q.2.1 pc (.lushr) 1 len = true from hck)
  obtain ⟨x, y, w, rfl, h⟩ := iv_JI (show am_JI st _ = some r from hrun)
  obtain ⟨hm, hk⟩ := hk _ _ _ h
  exact ⟨hm, fun H locs ls ad cells slots I => lv_lushr hx hb hd rfl (hk H locs ls ad cells slots (I.stk (am_ws_c ac_wf_long (am_ws_t (am_ws_t I.ws)))))⟩
theorem sd_i2l  (E : am_E p l R s m meth c D cA base t1 t2 sa q ad0 n0 c0 s0 r) (hk : am_S p l e R s m args below meth c D cA base q ad0 n0 c0 s0 Qt r (pc + len) k) (hck : am_ck q hs pc (.i2l, len, ops, v) = true) : am_S p l e R s m args below meth c D cA base q ad0 n0 c0 s0 Qt r pc (am_1 cal hs J some (.i2l, len, ops, v) k) := by
  obtain ⟨hx, hb, hml, hown, hret, hlk, hnm, hG, hbs, hfr, hlo, htr, had, hrc, hrs⟩ := E
  intro L st M hrun
  obtain ⟨hd, rfl⟩ := am_dk_ok (show am_dk q.2.1 pc (.i2l) 1 len = true from hck)
  obtain ⟨x, w, rfl, h⟩ := iv_I1 (show am_I1 st _ = some r from hrun)
  obtain ⟨hm, hk⟩ := hk _ _ _ h
  exact ⟨hm, fun H locs ls ad cells slots I => lv_i2l hx hb hd rfl (hk H locs ls ad cells slots (I.stk (am_ws_c ac_wf_long (am_ws_t I.ws))))⟩
theorem sd_l2i  (E : am_E p l R s m meth c D cA base t1 t2 sa q ad0 n0 c0 s0 r) (hk : am_S p l e R s m args below meth c D cA base q ad0 n0 c0 s0 Qt r (pc + len) k) (hck : am_ck q hs pc (.l2i, len, ops, v) = true) : am_S p l e R s m args below meth c D cA base q ad0 n0 c0 s0 Qt r pc (am_1 cal hs J some (.l2i, len, ops, v) k) := by
  obtain ⟨hx, hb, hml, hown, hret, hlk, hnm, hG, hbs, hfr, hlo, htr, had, hrc, hrs⟩ := E
  intro L st M hrun
  obtain ⟨hd, rfl⟩ := am_dk_ok (show am_dk q.2.1 pc (.l2i) 1 len = true from hck)
  obtain ⟨x, w, rfl, h⟩ := iv_J1 (show am_J1 st _ = some r from hrun)
  obtain ⟨hm, hk⟩ := hk _ _ _ h
  exact ⟨hm, fun H locs ls ad cells slots I => lv_l2i hx hb hd rfl (hk H locs ls ad cells slots (I.stk (am_ws_c ac_wf_int (am_ws_t I.ws))))⟩
theorem sd_i2c  (E : am_E p l R s m meth c D cA base t1 t2 sa q ad0 n0 c0 s0 r) (hk : am_S p l e R s m args below meth c D cA base q ad0 n0 c0 s0 Qt r (pc + len) k) (hck : am_ck q hs pc (.i2c, len, ops, v) = true) : am_S p l e R s m args below meth c D cA base q ad0 n0 c0 s0 Qt r pc (am_1 cal hs J some (.i2c, len, ops, v) k) := by
  obtain ⟨hx, hb, hml, hown, hret, hlk, hnm, hG, hbs, hfr, hlo, htr, had, hrc, hrs⟩ := E
  intro L st M hrun
  obtain ⟨hd, rfl⟩ := am_dk_ok (show am_dk q.2.1 pc (.i2c) 1 len = true from hck)
  obtain ⟨x, w, rfl, h⟩ := iv_I1 (show am_I1 st _ = some r from hrun)
  obtain ⟨hm, hk⟩ := hk _ _ _ h
  exact ⟨hm, fun H locs ls ad cells slots I => lv_i2c hx hb hd rfl (hk H locs ls ad cells slots (I.stk (am_ws_c ac_wf_int (am_ws_t I.ws))))⟩
theorem sd_lcmp  (E : am_E p l R s m meth c D cA base t1 t2 sa q ad0 n0 c0 s0 r) (hk : am_S p l e R s m args below meth c D cA base q ad0 n0 c0 s0 Qt r (pc + len) k) (hck : am_ck q hs pc (.lcmp, len, ops, v) = true) : am_S p l e R s m args below meth c D cA base q ad0 n0 c0 s0 Qt r pc (am_1 cal hs J some (.lcmp, len, ops, v) k) := by
  obtain ⟨hx, hb, hml, hown, hret, hlk, hnm, hG, hbs, hfr, hlo, htr, had, hrc, hrs⟩ := E
  intro L st M hrun
  obtain ⟨hd, rfl⟩ := am_dk_ok (show am_dk q.2.1 pc (.lcmp) 1 len = true from hck)
  obtain ⟨x, y, w, rfl, h⟩ := iv_J2 (show am_J2 st _ = some r from hrun)
  obtain ⟨hm, hk⟩ := hk _ _ _ h
  exact ⟨hm, fun H locs ls ad cells slots I => W.lcmp hx hb hd (hk H locs ls ad cells slots (I.stk (am_ws_c ac_wf_int (am_ws_t (am_ws_t I.ws)))))⟩
theorem sd_idiv  (E : am_E p l R s m meth c D cA base t1 t2 sa q ad0 n0 c0 s0 r) (hk : am_S p l e R s m args below meth c D cA base q ad0 n0 c0 s0 Qt r (pc + len) k) (hck : am_ck q hs pc (.idiv, len, ops, v) = true) : am_S p l e R s m args below meth c D cA base q ad0 n0 c0 s0 Qt r pc (am_1 cal hs J some (.idiv, len, ops, v) k) := by
  obtain ⟨hx, hb, hml, hown, hret, hlk, hnm, hG, hbs, hfr, hlo, htr, had, hrc, hrs⟩ := E
  intro L st M hrun
  obtain ⟨hd, rfl⟩ := am_dk_ok (show am_dk q.2.1 pc (.idiv) 1 len = true from hck)
  obtain ⟨x, y, w, rfl, h⟩ := iv_I2 (show am_I2 st _ = some r from hrun)
  obtain ⟨hn, h⟩ := iv_n h
  obtain ⟨hm, hk⟩ := hk _ _ _ h
  exact ⟨hm, fun H locs ls ad cells slots I => lv_idiv hx hb hd hn (hk H locs ls ad cells slots (I.stk (am_ws_c ac_wf_int (am_ws_t (am_ws_t I.ws)))))⟩
theorem sd_irem  (E : am_E p l R s m meth c D cA base t1 t2 sa q ad0 n0 c0 s0 r) (hk : am_S p l e R s m args below meth c D cA base q ad0 n0 c0 s0 Qt r (pc + len) k) (hck : am_ck q hs pc (.irem, len, ops, v) = true) : am_S p l e R s m args below meth c D cA base q ad0 n0 c0 s0 Qt r pc (am_1 cal hs J some (.irem, len, ops, v) k) := by
  obtain ⟨hx, hb, hml, hown, hret, hlk, hnm, hG, hbs, hfr, hlo, htr, had, hrc, hrs⟩ := E
  intro L st M hrun
  obtain ⟨hd, rfl⟩ := am_dk_ok (show am_dk q.2.1 pc (.irem) 1 len = true from hck)
  obtain ⟨x, y, w, rfl, h⟩ := iv_I2 (show am_I2 st _ = some r from hrun)
  obtain ⟨hn, h⟩ := iv_n h
  obtain ⟨hm, hk⟩ := hk _ _ _ h
  exact ⟨hm, fun H locs ls ad cells slots I => lv_irem hx hb hd hn (hk H locs ls ad cells slots (I.stk (am_ws_c ac_wf_int (am_ws_t (am_ws_t I.ws)))))⟩
theorem sd_iconst {n : Int} (E : am_E p l R s m meth c D cA base t1 t2 sa q ad0 n0 c0 s0 r) (hk : am_S p l e R s m args below meth c D cA base q ad0 n0 c0 s0 Qt r (pc + len) k) (hck : am_ck q hs pc (.iconst n, len, ops, v) = true) : am_S p l e R s m args below meth c D cA base q ad0 n0 c0 s0 Qt r pc (am_1 cal hs J some (.iconst n, len, ops, v) k) := by
  obtain ⟨hx, hb, hml, hown, hret, hlk, hnm, hG, hbs, hfr, hlo, htr, had, hrc, hrs⟩ := E
  intro L st M hrun
  obtain ⟨h1, h2⟩ := am_an (show (am_dk q.2.1 pc (.iconst n) 1 len && decide (v = .int _)) = true from hck)
  obtain ⟨hd, rfl⟩ := am_dk_ok h1
  have h2 := of_decide_eq_true h2
  subst h2
  obtain ⟨hm, hk⟩ := hk _ _ _ (show k L _ M = some r from hrun)
  exact ⟨hm, fun H locs ls ad cells slots I => lv_iconst hx hb hd rfl (hk H locs ls ad cells slots (I.stk (am_ws_c ac_wf_int I.ws)))⟩
theorem sd_bipush {n : Int} (E : am_E p l R s m meth c D cA base t1 t2 sa q ad0 n0 c0 s0 r) (hk : am_S p l e R s m args below meth c D cA base q ad0 n0 c0 s0 Qt r (pc + len) k) (hck : am_ck q hs pc (.bipush n, len, ops, v) = true) : am_S p l e R s m args below meth c D cA base q ad0 n0 c0 s0 Qt r pc (am_1 cal hs J some (.bipush n, len, ops, v) k) := by
  obtain ⟨hx, hb, hml, hown, hret, hlk, hnm, hG, hbs, hfr, hlo, htr, had, hrc, hrs⟩ := E
  intro L st M hrun
  obtain ⟨h1, h2⟩ := am_an (show (am_dk q.2.1 pc (.bipush n) 2 len && decide (v = .int _)) = true from hck)
  obtain ⟨hd, rfl⟩ := am_dk_ok h1
  have h2 := of_decide_eq_true h2
  subst h2
  obtain ⟨hm, hk⟩ := hk _ _ _ (show k L _ M = some r from hrun)
  exact ⟨hm, fun H locs ls ad cells slots I => lv_bipush hx hb hd rfl (hk H locs ls ad cells slots (I.stk (am_ws_c ac_wf_int I.ws)))⟩
theorem sd_sipush {n : Int} (E : am_E p l R s m meth c D cA base t1 t2 sa q ad0 n0 c0 s0 r) (hk : am_S p l e R s m args below meth c D cA base q ad0 n0 c0 s0 Qt r (pc + len) k) (hck : am_ck q hs pc (.sipush n, len, ops, v) = true) : am_S p l e R s m args below meth c D cA base q ad0 n0 c0 s0 Qt r pc (am_1 cal hs J some (.sipush n, len, ops, v) k) := by
  obtain ⟨hx, hb, hml, hown, hret, hlk, hnm, hG, hbs, hfr, hlo, htr, had, hrc, hrs⟩ := E
  intro L st M hrun
  obtain ⟨h1, h2⟩ := am_an (show (am_dk q.2.1 pc (.sipush n) 3 len && decide (v = .int _)) = true from hck)
  obtain ⟨hd, rfl⟩ := am_dk_ok h1
  have h2 := of_decide_eq_true h2
  subst h2
  obtain ⟨hm, hk⟩ := hk _ _ _ (show k L _ M = some r from hrun)
  exact ⟨hm, fun H locs ls ad cells slots I => lv_sipush hx hb hd rfl (hk H locs ls ad cells slots (I.stk (am_ws_c ac_wf_int I.ws)))⟩
theorem sd_lconst {n : Fin 2} (E : am_E p l R s m meth c D cA base t1 t2 sa q ad0 n0 c0 s0 r) (hk : am_S p l e R s m args below meth c D cA base q ad0 n0 c0 s0 Qt r (pc + len) k) (hck : am_ck q hs pc (.lconst n, len, ops, v) = true) : am_S p l e R s m args below meth c D cA base q ad0 n0 c0 s0 Qt r pc (am_1 cal hs J some (.lconst n, len, ops, v) k) := by
  obtain ⟨hx, hb, hml, hown, hret, hlk, hnm, hG, hbs, hfr, hlo, htr, had, hrc, hrs⟩ := E
  intro L st M hrun
  obtain ⟨h1, h2⟩ := am_an (show (am_dk q.2.1 pc (.lconst n) 1 len && decide (v = .long _)) = true from hck)
  obtain ⟨hd, rfl⟩ := am_dk_ok h1
  have h2 := of_decide_eq_true h2
  subst h2
  obtain ⟨hm, hk⟩ := hk _ _ _ (show k L _ M = some r from hrun)
  exact ⟨hm, fun H locs ls ad cells slots I => lv_lconst hx hb hd rfl (hk H locs ls ad cells slots (I.stk (am_ws_c ac_wf_long I.ws)))⟩
theorem sd_ldc_w {n : Nat} (E : am_E p l R s m meth c D cA base t1 t2 sa q ad0 n0 c0 s0 r) (hk : am_S p l e R s m args below meth c D cA base q ad0 n0 c0 s0 Qt r (pc + len) k) (hck : am_ck q hs pc (.ldc_w n, len, ops, v) = true) : am_S p l e R s m args below meth c D cA base q ad0 n0 c0 s0 Qt r pc (am_1 cal hs J some (.ldc_w n, len, ops, v) k) := by
  obtain ⟨hx, hb, hml, hown, hret, hlk, hnm, hG, hbs, hfr, hlo, htr, had, hrc, hrs⟩ := E
  intro L st M hrun
  obtain ⟨h1, h2⟩ := am_an hck
  obtain ⟨hd, rfl⟩ := am_dk_ok h1
  have h3 : ∃ x, v = .int x ∧ am_at (ops.headD 0) (.constant q.1.cls n x) = true := by
    dsimp only at h2
    split at h2
    · exact ⟨_, rfl, h2⟩
    · exact nomatch h2
  obtain ⟨x, rfl, h2⟩ := h3
  obtain ⟨hm, hk⟩ := hk _ _ _ (show k L _ M = some r from hrun)
  exact ⟨hm, fun H locs ls ad cells slots I => lv_ldcw hx hb hown (hG.word h2 args) hd (hk H locs ls ad cells slots (I.stk (am_ws_c ac_wf_int I.ws)))⟩
theorem sd_ldc2_w {n : Nat} (E : am_E p l R s m meth c D cA base t1 t2 sa q ad0 n0 c0 s0 r) (hk : am_S p l e R s m args below meth c D cA base q ad0 n0 c0 s0 Qt r (pc + len) k) (hck : am_ck q hs pc (.ldc2_w n, len, ops, v) = true) : am_S p l e R s m args below meth c D cA base q ad0 n0 c0 s0 Qt r pc (am_1 cal hs J some (.ldc2_w n, len, ops, v) k) := by
  obtain ⟨hx, hb, hml, hown, hret, hlk, hnm, hG, hbs, hfr, hlo, htr, had, hrc, hrs⟩ := E
  intro L st M hrun
  obtain ⟨h1, h2⟩ := am_an hck
  obtain ⟨hd, rfl⟩ := am_dk_ok h1
  have h3 : ∃ x, v = .long x ∧ am_at (ops.headD 0) (.constantLong q.1.cls n x) = true := by
    dsimp only at h2
    split at h2
    · exact ⟨_, rfl, h2⟩
    · exact nomatch h2
  obtain ⟨x, rfl, h2⟩ := h3
  obtain ⟨hm, hk⟩ := hk _ _ _ (show k L _ M = some r from hrun)
  exact ⟨hm, fun H locs ls ad cells slots I => lv_ldc2 hx hb hown (hG.word h2 args) hd (hk H locs ls ad cells slots (I.stk (am_ws_c ac_wf_long I.ws)))⟩
theorem sd_iload_n {n : Fin 4} (E : am_E p l R s m meth c D cA base t1 t2 sa q ad0 n0 c0 s0 r) (hk : am_S p l e R s m args below meth c D cA base q ad0 n0 c0 s0 Qt r (pc + len) k) (hck : am_ck q hs pc (.iload_n n, len, ops, v) = true) : am_S p l e R s m args below meth c D cA base q ad0 n0 c0 s0 Qt r pc (am_1 cal hs J some (.iload_n n, len, ops, v) k) := by
  obtain ⟨hx, hb, hml, hown, hret, hlk, hnm, hG, hbs, hfr, hlo, htr, had, hrc, hrs⟩ := E
  intro L st M hrun
  obtain ⟨h1, h2⟩ := am_an (show (am_dk q.2.1 pc (.iload_n n) 1 len && Nat.beq n.val (ops.headD 0)) = true from hck)
  obtain ⟨hd, rfl⟩ := am_dk_ok h1
  obtain ⟨x, h0, h⟩ := iv_lI (show am_lI (am_ld L (ops.headD 0)) _ = some r from hrun)
  obtain ⟨hm, hk⟩ := hk _ _ _ h
  exact ⟨hm, fun H locs ls ad cells slots I => lv_iload_n hx hb hd (Nat.eq_of_beq_eq_true h2) (am_lc_at I.lv h0) (hk H locs ls ad cells slots (I.stk (am_ws_c (am_ld_wf I.wl h0) I.ws)))⟩
theorem sd_iload {n : Nat} (E : am_E p l R s m meth c D cA base t1 t2 sa q ad0 n0 c0 s0 r) (hk : am_S p l e R s m args below meth c D cA base q ad0 n0 c0 s0 Qt r (pc + len) k) (hck : am_ck q hs pc (.iload n, len, ops, v) = true) : am_S p l e R s m args below meth c D cA base q ad0 n0 c0 s0 Qt r pc (am_1 cal hs J some (.iload n, len, ops, v) k) := by
  obtain ⟨hx, hb, hml, hown, hret, hlk, hnm, hG, hbs, hfr, hlo, htr, had, hrc, hrs⟩ := E
  intro L st M hrun
  obtain ⟨h1, h2⟩ := am_an (show (am_dk q.2.1 pc (.iload n) 2 len && Nat.beq n (ops.headD 0)) = true from hck)
  obtain ⟨hd, rfl⟩ := am_dk_ok h1
  have h2 := Nat.eq_of_beq_eq_true h2
  subst h2
  obtain ⟨x, h0, h⟩ := iv_lI (show am_lI (am_ld L (ops.headD 0)) _ = some r from hrun)
  obtain ⟨hm, hk⟩ := hk _ _ _ h
  exact ⟨hm, fun H locs ls ad cells slots I => lv_iload hx hb hd (am_lc_at I.lv h0) (hk H locs ls ad cells slots (I.stk (am_ws_c (am_ld_wf I.wl h0) I.ws)))⟩
theorem sd_lload_n {n : Fin 4} (E : am_E p l R s m meth c D cA base t1 t2 sa q ad0 n0 c0 s0 r) (hk : am_S p l e R s m args below meth c D cA base q ad0 n0 c0 s0 Qt r (pc + len) k) (hck : am_ck q hs pc (.lload_n n, len, ops, v) = true) : am_S p l e R s m args below meth c D cA base q ad0 n0 c0 s0 Qt r pc (am_1 cal hs J some (.lload_n n, len, ops, v) k) := by
  obtain ⟨hx, hb, hml, hown, hret, hlk, hnm, hG, hbs, hfr, hlo, htr, had, hrc, hrs⟩ := E
  intro L st M hrun
  obtain ⟨h1, h2⟩ := am_an (show (am_dk q.2.1 pc (.lload_n n) 1 len && Nat.beq n.val (ops.headD 0)) = true from hck)
  obtain ⟨hd, rfl⟩ := am_dk_ok h1
  obtain ⟨x, h0, h⟩ := iv_lJ (show am_lJ (am_ld L (ops.headD 0)) _ = some r from hrun)
  obtain ⟨hm, hk⟩ := hk _ _ _ h
  exact ⟨hm, fun H locs ls ad cells slots I => lv_lload_n hx hb hd (Nat.eq_of_beq_eq_true h2) (am_lc_at I.lv h0) (hk H locs ls ad cells slots (I.stk (am_ws_c (am_ld_wf I.wl h0) I.ws)))⟩
theorem sd_lload {n : Nat} (E : am_E p l R s m meth c D cA base t1 t2 sa q ad0 n0 c0 s0 r) (hk : am_S p l e R s m args below meth c D cA base q ad0 n0 c0 s0 Qt r (pc + len) k) (hck : am_ck q hs pc (.lload n, len, ops, v) = true) : am_S p l e R s m args below meth c D cA base q ad0 n0 c0 s0 Qt r pc (am_1 cal hs J some (.lload n, len, ops, v) k) := by
  obtain ⟨hx, hb, hml, hown, hret, hlk, hnm, hG, hbs, hfr, hlo, htr, had, hrc, hrs⟩ := E
  intro L st M hrun
  obtain ⟨h1, h2⟩ := am_an (show (am_dk q.2.1 pc (.lload n) 2 len && Nat.beq n (ops.headD 0)) = true from hck)
  obtain ⟨hd, rfl⟩ := am_dk_ok h1
  have h2 := Nat.eq_of_beq_eq_true h2
  subst h2
  obtain ⟨x, h0, h⟩ := iv_lJ (show am_lJ (am_ld L (ops.headD 0)) _ = some r from hrun)
  obtain ⟨hm, hk⟩ := hk _ _ _ h
  exact ⟨hm, fun H locs ls ad cells slots I => lv_lload hx hb hd (am_lc_at I.lv h0) (hk H locs ls ad cells slots (I.stk (am_ws_c (am_ld_wf I.wl h0) I.ws)))⟩
theorem sd_aload_n {n : Fin 4} (E : am_E p l R s m meth c D cA base t1 t2 sa q ad0 n0 c0 s0 r) (hk : am_S p l e R s m args below meth c D cA base q ad0 n0 c0 s0 Qt r (pc + len) k) (hck : am_ck q hs pc (.aload_n n, len, ops, v) = true) : am_S p l e R s m args below meth c D cA base q ad0 n0 c0 s0 Qt r pc (am_1 cal hs J some (.aload_n n, len, ops, v) k) := by
  obtain ⟨hx, hb, hml, hown, hret, hlk, hnm, hG, hbs, hfr, hlo, htr, had, hrc, hrs⟩ := E
  intro L st M hrun
  obtain ⟨h1, h2⟩ := am_an (show (am_dk q.2.1 pc (.aload_n n) 1 len && Nat.beq n.val (ops.headD 0)) = true from hck)
  obtain ⟨hd, rfl⟩ := am_dk_ok h1
  obtain ⟨x, h0, h⟩ := iv_lA (show am_lA (am_ld L (ops.headD 0)) _ = some r from hrun)
  obtain ⟨hm, hk⟩ := hk _ _ _ h
  exact ⟨hm, fun H locs ls ad cells slots I => lv_aload_n hx hb hd (Nat.eq_of_beq_eq_true h2) (am_lc_at I.lv h0) (hk H locs ls ad cells slots (I.stk (am_ws_c (am_ld_wf I.wl h0) I.ws)))⟩
theorem sd_aload {n : Nat} (E : am_E p l R s m meth c D cA base t1 t2 sa q ad0 n0 c0 s0 r) (hk : am_S p l e R s m args below meth c D cA base q ad0 n0 c0 s0 Qt r (pc + len) k) (hck : am_ck q hs pc (.aload n, len, ops, v) = true) : am_S p l e R s m args below meth c D cA base q ad0 n0 c0 s0 Qt r pc (am_1 cal hs J some (.aload n, len, ops, v) k) := by
  obtain ⟨hx, hb, hml, hown, hret, hlk, hnm, hG, hbs, hfr, hlo, htr, had, hrc, hrs⟩ := E
  intro L st M hrun
  obtain ⟨h1, h2⟩ := am_an (show (am_dk q.2.1 pc (.aload n) 2 len && Nat.beq n (ops.headD 0)) = true from hck)
  obtain ⟨hd, rfl⟩ := am_dk_ok h1
  have h2 := Nat.eq_of_beq_eq_true h2
  subst h2
  obtain ⟨x, h0, h⟩ := iv_lA (show am_lA (am_ld L (ops.headD 0)) _ = some r from hrun)
  obtain ⟨hm, hk⟩ := hk _ _ _ h
  exact ⟨hm, fun H locs ls ad cells slots I => lv_aload hx hb hd (am_lc_at I.lv h0) (hk H locs ls ad cells slots (I.stk (am_ws_c (am_ld_wf I.wl h0) I.ws)))⟩
theorem sd_istore_n {n : Fin 4} (E : am_E p l R s m meth c D cA base t1 t2 sa q ad0 n0 c0 s0 r) (hk : am_S p l e R s m args below meth c D cA base q ad0 n0 c0 s0 Qt r (pc + len) k) (hck : am_ck q hs pc (.istore_n n, len, ops, v) = true) : am_S p l e R s m args below meth c D cA base q ad0 n0 c0 s0 Qt r pc (am_1 cal hs J some (.istore_n n, len, ops, v) k) := by
  obtain ⟨hx, hb, hml, hown, hret, hlk, hnm, hG, hbs, hfr, hlo, htr, had, hrc, hrs⟩ := E
  intro L st M hrun
  obtain ⟨h1, h2⟩ := am_an (show (am_dk q.2.1 pc (.istore_n n) 1 len && (Nat.beq n.val (ops.headD 0) && Nat.blt (ops.headD 0) q.2.2.1)) = true from hck)
  obtain ⟨hd, rfl⟩ := am_dk_ok h1
  obtain ⟨h2, h3⟩ := am_an h2
  have h3 : ops.headD 0 < q.2.2.1 := Nat.le_of_ble_eq_true h3
  obtain ⟨x, w, rfl, h⟩ := iv_I1 (show am_I1 st _ = some r from hrun)
  obtain ⟨hm, hk⟩ := hk _ _ _ h
  exact ⟨hm, fun H locs ls ad cells slots I => lv_istore_n hx hb hd (Nat.eq_of_beq_eq_true h2) I.lv h3 (am_lc_s1 ad L _ (.int x)) (fun ls' hl' => hk H locs ls' ad cells slots (I.lo hl' (am_wl_s1 I.wl (am_ws_h I.ws)) (am_ws_t I.ws)))⟩
theorem sd_istore {n : Nat} (E : am_E p l R s m meth c D cA base t1 t2 sa q ad0 n0 c0 s0 r) (hk : am_S p l e R s m args below meth c D cA base q ad0 n0 c0 s0 Qt r (pc + len) k) (hck : am_ck q hs pc (.istore n, len, ops, v) = true) : am_S p l e R s m args below meth c D cA base q ad0 n0 c0 s0 Qt r pc (am_1 cal hs J some (.istore n, len, ops, v) k) := by
  obtain ⟨hx, hb, hml, hown, hret, hlk, hnm, hG, hbs, hfr, hlo, htr, had, hrc, hrs⟩ := E
  intro L st M hrun
  obtain ⟨h1, h2⟩ := am_an (show (am_dk q.2.1 pc (.istore n) 2 len && (Nat.beq n (ops.headD 0) && Nat.blt (ops.headD 0) q.2.2.1)) = true from hck)
  obtain ⟨hd, rfl⟩ := am_dk_ok h1
  obtain ⟨h2, h3⟩ := am_an h2
  have h3 : ops.headD 0 < q.2.2.1 := Nat.le_of_ble_eq_true h3
  have h2 := Nat.eq_of_beq_eq_true h2
  subst h2
  obtain ⟨x, w, rfl, h⟩ := iv_I1 (show am_I1 st _ = some r from hrun)
  obtain ⟨hm, hk⟩ := hk _ _ _ h
  exact ⟨hm, fun H locs ls ad cells slots I => lv_istore hx hb hd I.lv h3 (am_lc_s1 ad L _ (.int x)) (fun ls' hl' => hk H locs ls' ad cells slots (I.lo hl' (am_wl_s1 I.wl (am_ws_h I.ws)) (am_ws_t I.ws)))⟩
theorem sd_lstore_n {n : Fin 4} (E : am_E p l R s m meth c D cA base t1 t2 sa q ad0 n0 c0 s0 r) (hk : am_S p l e R s m args below meth c D cA base q ad0 n0 c0 s0 Qt r (pc + len) k) (hck : am_ck q hs pc (.lstore_n n, len, ops, v) = true) : am_S p l e R s m args below meth c D cA base q ad0 n0 c0 s0 Qt r pc (am_1 cal hs J some (.lstore_n n, len, ops, v) k) := by
  obtain ⟨hx, hb, hml, hown, hret, hlk, hnm, hG, hbs, hfr, hlo, htr, had, hrc, hrs⟩ := E
  intro L st M hrun
  obtain ⟨h1, h2⟩ := am_an (show (am_dk q.2.1 pc (.lstore_n n) 1 len && (Nat.beq n.val (ops.headD 0) && Nat.blt (ops.headD 0 + 1) q.2.2.1)) = true from hck)
  obtain ⟨hd, rfl⟩ := am_dk_ok h1
  obtain ⟨h2, h3⟩ := am_an h2
  have h3 : ops.headD 0 + 1 < q.2.2.1 := Nat.le_of_ble_eq_true h3
  obtain ⟨x, w, rfl, h⟩ := iv_J1 (show am_J1 st _ = some r from hrun)
  obtain ⟨hm, hk⟩ := hk _ _ _ h
  exact ⟨hm, fun H locs ls ad cells slots I => lv_lstore_n hx hb hd (Nat.eq_of_beq_eq_true h2) I.lv h3 (am_lc_s2 ad L _ (.long x)) (fun ls' hl' => hk H locs ls' ad cells slots (I.lo hl' (am_wl_s2 I.wl (am_ws_h I.ws)) (am_ws_t I.ws)))⟩
theorem sd_lstore {n : Nat} (E : am_E p l R s m meth c D cA base t1 t2 sa q ad0 n0 c0 s0 r) (hk : am_S p l e R s m args below meth c D cA base q ad0 n0 c0 s0 Qt r (pc + len) k) (hck : am_ck q hs pc (.lstore n, len, ops, v) = true) : am_S p l e R s m args below meth c D cA base q ad0 n0 c0 s0 Qt r pc (am_1 cal hs J some (.lstore n, len, ops, v) k) := by
  obtain ⟨hx, hb, hml, hown, hret, hlk, hnm, hG, hbs, hfr, hlo, htr, had, hrc, hrs⟩ := E
  intro L st M hrun
  obtain ⟨h1, h2⟩ := am_an (show (am_dk q.2.1 pc (.lstore n) 2 len && (Nat.beq n (ops.headD 0) && Nat.blt (ops.headD 0 + 1) q.2.2.1)) = true from hck)
  obtain ⟨hd, rfl⟩ := am_dk_ok h1
  obtain ⟨h2, h3⟩ := am_an h2
  have h3 : ops.headD 0 + 1 < q.2.2.1 := Nat.le_of_ble_eq_true h3
  have h2 := Nat.eq_of_beq_eq_true h2
  subst h2
  obtain ⟨x, w, rfl, h⟩ := iv_J1 (show am_J1 st _ = some r from hrun)
  obtain ⟨hm, hk⟩ := hk _ _ _ h
  exact ⟨hm, fun H locs ls ad cells slots I => lv_lstore hx hb hd I.lv h3 (am_lc_s2 ad L _ (.long x)) (fun ls' hl' => hk H locs ls' ad cells slots (I.lo hl' (am_wl_s2 I.wl (am_ws_h I.ws)) (am_ws_t I.ws)))⟩
theorem sd_astore_n {n : Fin 4} (E : am_E p l R s m meth c D cA base t1 t2 sa q ad0 n0 c0 s0 r) (hk : am_S p l e R s m args below meth c D cA base q ad0 n0 c0 s0 Qt r (pc + len) k) (hck : am_ck q hs pc (.astore_n n, len, ops, v) = true) : am_S p l e R s m args below meth c D cA base q ad0 n0 c0 s0 Qt r pc (am_1 cal hs J some (.astore_n n, len, ops, v) k) := by
  obtain ⟨hx, hb, hml, hown, hret, hlk, hnm, hG, hbs, hfr, hlo, htr, had, hrc, hrs⟩ := E
  intro L st M hrun
  obtain ⟨h1, h2⟩ := am_an (show (am_dk q.2.1 pc (.astore_n n) 1 len && (Nat.beq n.val (ops.headD 0) && Nat.blt (ops.headD 0) q.2.2.1)) = true from hck)
  obtain ⟨hd, rfl⟩ := am_dk_ok h1
  obtain ⟨h2, h3⟩ := am_an h2
  have h3 : ops.headD 0 < q.2.2.1 := Nat.le_of_ble_eq_true h3
  obtain ⟨x, w, rfl, h⟩ := iv_A1 (show am_A1 st _ = some r from hrun)
  obtain ⟨hm, hk⟩ := hk _ _ _ h
  exact ⟨hm, fun H locs ls ad cells slots I => lv_astore_n hx hb hd (Nat.eq_of_beq_eq_true h2) I.lv h3 (am_lc_s1 ad L _ (.ref x)) (fun ls' hl' => hk H locs ls' ad cells slots (I.lo hl' (am_wl_s1 I.wl (am_ws_h I.ws)) (am_ws_t I.ws)))⟩
theorem sd_astore {n : Nat} (E : am_E p l R s m meth c D cA base t1 t2 sa q ad0 n0 c0 s0 r) (hk : am_S p l e R s m args below meth c D cA base q ad0 n0 c0 s0 Qt r (pc + len) k) (hck : am_ck q hs pc (.astore n, len, ops, v) = true) : am_S p l e R s m args below meth c D cA base q ad0 n0 c0 s0 Qt r pc (am_1 cal hs J some (.astore n, len, ops, v) k) := by
  obtain ⟨hx, hb, hml, hown, hret, hlk, hnm, hG, hbs, hfr, hlo, htr, had, hrc, hrs⟩ := E
  intro L st M hrun
  obtain ⟨h1, h2⟩ := am_an (show (am_dk q.2.1 pc (.astore n) 2 len && (Nat.beq n (ops.headD 0) && Nat.blt (ops.headD 0) q.2.2.1)) = true from hck)
  obtain ⟨hd, rfl⟩ := am_dk_ok h1
  obtain ⟨h2, h3⟩ := am_an h2
  have h3 : ops.headD 0 < q.2.2.1 := Nat.le_of_ble_eq_true h3
  have h2 := Nat.eq_of_beq_eq_true h2
  subst h2
  obtain ⟨x, w, rfl, h⟩ := iv_A1 (show am_A1 st _ = some r from hrun)
  obtain ⟨hm, hk⟩ := hk _ _ _ h
  exact ⟨hm, fun H locs ls ad cells slots I => lv_astore hx hb hd I.lv h3 (am_lc_s1 ad L _ (.ref x)) (fun ls' hl' => hk H locs ls' ad cells slots (I.lo hl' (am_wl_s1 I.wl (am_ws_h I.ws)) (am_ws_t I.ws)))⟩
theorem sd_iinc {n : Nat} {z : Int} (E : am_E p l R s m meth c D cA base t1 t2 sa q ad0 n0 c0 s0 r) (hk : am_S p l e R s m args below meth c D cA base q ad0 n0 c0 s0 Qt r (pc + len) k) (hck : am_ck q hs pc (.iinc n z, len, ops, v) = true) : am_S p l e R s m args below meth c D cA base q ad0 n0 c0 s0 Qt r pc (am_1 cal hs J some (.iinc n z, len, ops, v) k) := by
  obtain ⟨hx, hb, hml, hown, hret, hlk, hnm, hG, hbs, hfr, hlo, htr, had, hrc, hrs⟩ := E
  intro L st M hrun
  obtain ⟨h1, h2⟩ := am_an (show (am_dk q.2.1 pc (.iinc n z) 3 len && (Nat.beq n (ops.headD 0) && (Nat.blt (ops.headD 0) q.2.2.1 && decide (v = .int (Int32.ofInt z))))) = true from hck)
  obtain ⟨hd, rfl⟩ := am_dk_ok h1
  obtain ⟨h2, h3⟩ := am_an h2
  obtain ⟨h5, h4⟩ := am_an h3
  have h6 : ops.headD 0 < q.2.2.1 := Nat.le_of_ble_eq_true h5
  have h4 := of_decide_eq_true h4
  have h2 := Nat.eq_of_beq_eq_true h2
  subst h2; subst h4
  obtain ⟨x, h0, h⟩ := iv_lI (show am_lI (am_ld L (ops.headD 0)) _ = some r from hrun)
  obtain ⟨hm, hk⟩ := hk _ _ _ (show k _ st M = some r from h)
  refine ⟨hm, fun H locs ls ad cells slots I => ?_⟩
  obtain ⟨j, hj⟩ := List.getElem?_of_mem (List.mem_map.mpr ⟨_, am_ld_mem h0, rfl⟩ : (ops.headD 0, ac ad (.int x)) ∈ am_lc ad L)
  exact lv_iinc hx hb hd I.lv hj rfl h6 (am_lc_s1 ad L _ (.int (x + Int32.ofInt z))) (fun ls' hl' => hk H locs ls' ad cells slots (I.lo hl' (am_wl_s1 I.wl ac_wf_int) I.ws))
theorem sd_dup  (E : am_E p l R s m meth c D cA base t1 t2 sa q ad0 n0 c0 s0 r) (hk : am_S p l e R s m args below meth c D cA base q ad0 n0 c0 s0 Qt r (pc + len) k) (hck : am_ck q hs pc (.dup, len, ops, v) = true) : am_S p l e R s m args below meth c D cA base q ad0 n0 c0 s0 Qt r pc (am_1 cal hs J some (.dup, len, ops, v) k) := by
  obtain ⟨hx, hb, hml, hown, hret, hlk, hnm, hG, hbs, hfr, hlo, htr, had, hrc, hrs⟩ := E
  intro L st M hrun
  obtain ⟨hd, rfl⟩ := am_dk_ok (show am_dk q.2.1 pc (.dup) 1 len = true from hck)
  obtain ⟨u, w, rfl, hc, h⟩ := iv_dp (show am_dp st _ = some r from hrun)
  obtain ⟨hm, hk⟩ := hk _ _ _ h
  exact ⟨hm, fun H locs ls ad cells slots I => lv_dup hx hb hd (by rw [ac_cat]; exact hc) (hk H locs ls ad cells slots (I.stk (am_ws_c (am_ws_h I.ws) I.ws)))⟩
theorem sd_dup2  (E : am_E p l R s m meth c D cA base t1 t2 sa q ad0 n0 c0 s0 r) (hk : am_S p l e R s m args below meth c D cA base q ad0 n0 c0 s0 Qt r (pc + len) k) (hck : am_ck q hs pc (.dup2, len, ops, v) = true) : am_S p l e R s m args below meth c D cA base q ad0 n0 c0 s0 Qt r pc (am_1 cal hs J some (.dup2, len, ops, v) k) := by
  obtain ⟨hx, hb, hml, hown, hret, hlk, hnm, hG, hbs, hfr, hlo, htr, had, hrc, hrs⟩ := E
  intro L st M hrun
  obtain ⟨hd, rfl⟩ := am_dk_ok (show am_dk q.2.1 pc (.dup2) 1 len = true from hck)
  obtain ⟨u, w, rfl, hc, h⟩ := iv_dp (show am_dp st _ = some r from hrun)
  obtain ⟨u2, w, rfl, hc2, h⟩ := iv_dp h
  obtain ⟨hm, hk⟩ := hk _ _ _ h
  exact ⟨hm, fun H locs ls ad cells slots I => lv_dup2_11 hx hb hd (by rw [ac_cat]; exact hc) (by rw [ac_cat]; exact hc2) (hk H locs ls ad cells slots (I.stk (am_ws_c (am_ws_h I.ws) (am_ws_c (am_ws_h (am_ws_t I.ws)) I.ws))))⟩
theorem sd_pop  (E : am_E p l R s m meth c D cA base t1 t2 sa q ad0 n0 c0 s0 r) (hk : am_S p l e R s m args below meth c D cA base q ad0 n0 c0 s0 Qt r (pc + len) k) (hck : am_ck q hs pc (.pop, len, ops, v) = true) : am_S p l e R s m args below meth c D cA base q ad0 n0 c0 s0 Qt r pc (am_1 cal hs J some (.pop, len, ops, v) k) := by
  obtain ⟨hx, hb, hml, hown, hret, hlk, hnm, hG, hbs, hfr, hlo, htr, had, hrc, hrs⟩ := E
  intro L st M hrun
  obtain ⟨hd, rfl⟩ := am_dk_ok (show am_dk q.2.1 pc (.pop) 1 len = true from hck)
  obtain ⟨u, w, rfl, hc, h⟩ := iv_dp (show am_dp st _ = some r from hrun)
  obtain ⟨hm, hk⟩ := hk _ _ _ h
  exact ⟨hm, fun H locs ls ad cells slots I => lv_pop hx hb hd (by rw [ac_cat]; exact hc) (hk H locs ls ad cells slots (I.stk (am_ws_t I.ws)))⟩
theorem sd_pop2  (E : am_E p l R s m meth c D cA base t1 t2 sa q ad0 n0 c0 s0 r) (hk : am_S p l e R s m args below meth c D cA base q ad0 n0 c0 s0 Qt r (pc + len) k) (hck : am_ck q hs pc (.pop2, len, ops, v) = true) : am_S p l e R s m args below meth c D cA base q ad0 n0 c0 s0 Qt r pc (am_1 cal hs J some (.pop2, len, ops, v) k) := by
  obtain ⟨hx, hb, hml, hown, hret, hlk, hnm, hG, hbs, hfr, hlo, htr, had, hrc, hrs⟩ := E
  intro L st M hrun
  obtain ⟨hd, rfl⟩ := am_dk_ok (show am_dk q.2.1 pc (.pop2) 1 len = true from hck)
  obtain ⟨x, w, rfl, h⟩ := iv_J1 (show am_J1 st _ = some r from hrun)
  obtain ⟨hm, hk⟩ := hk _ _ _ h
  exact ⟨hm, fun H locs ls ad cells slots I => lv_pop2_2 hx hb hd rfl (hk H locs ls ad cells slots (I.stk (am_ws_t I.ws)))⟩
theorem sd_if_eq {off : Int} (E : am_E p l R s m meth c D cA base t1 t2 sa q ad0 n0 c0 s0 r) (hk : am_S p l e R s m args below meth c D cA base q ad0 n0 c0 s0 Qt r (pc + len) k) (hJ : ∀ z, am_S p l e R s m args below meth c D cA base q ad0 n0 c0 s0 Qt r z (J z)) (hck : am_ck q hs pc (.ifCond .eq off, len, ops, v) = true) : am_S p l e R s m args below meth c D cA base q ad0 n0 c0 s0 Qt r pc (am_1 cal hs J some (.ifCond .eq off, len, ops, v) k) := by
  obtain ⟨hx, hb, hml, hown, hret, hlk, hnm, hG, hbs, hfr, hlo, htr, had, hrc, hrs⟩ := E
  intro L st M hrun
  obtain ⟨h1, h2⟩ := am_an (show (am_dk q.2.1 pc (.ifCond .eq off) 3 len && decide ((pc : Int) + off = ((ops.headD 0 : Nat) : Int))) = true from hck)
  obtain ⟨hd, rfl⟩ := am_dk_ok h1
  have h2 := of_decide_eq_true h2
  obtain ⟨x, w, rfl, h⟩ := iv_I1 (show am_I1 st _ = some r from hrun)
  by_cases hc : x = 0
  · obtain ⟨lv, h⟩ := iv_jp (show am_jp J ops L w M = some r from (if_pos hc).symm.trans h)
    obtain ⟨hm, hk⟩ := hJ _ _ _ _ h
    exact ⟨hm, fun H locs ls ad cells slots I => lv_if_eq hx hb hd h2 (fun _ => hk H locs ls ad cells slots (I.pj lv (am_ws_t I.ws))) (fun n => absurd hc n)⟩
  · obtain ⟨hm, hk⟩ := hk _ _ _ (show k L w M = some r from (if_neg hc).symm.trans h)
    exact ⟨hm, fun H locs ls ad cells slots I => lv_if_eq hx hb hd h2 (fun n => absurd n hc) (fun _ => hk H locs ls ad cells slots (I.stk (am_ws_t I.ws)))⟩
theorem sd_if_ne {off : Int} (E : am_E p l R s m meth c D cA base t1 t2 sa q ad0 n0 c0 s0 r) (hk : am_S p l e R s m args below meth c D cA base q ad0 n0 c0 s0 Qt r (pc + len) k) (hJ : ∀ z, am_S p l e R s m args below meth c D cA base q ad0 n0 c0 s0 Qt r z (J z)) (hck : am_ck q hs pc (.ifCond .ne off, len, ops, v) = true) : am_S p l e R s m args below meth c D cA base q ad0 n0 c0 s0 Qt r pc (am_1 cal hs J some (.ifCond .ne off, len, ops, v) k) := by
  obtain ⟨hx, hb, hml, hown, hret, hlk, hnm, hG, hbs, hfr, hlo, htr, had, hrc, hrs⟩ := E
  intro L st M hrun
  obtain ⟨h1, h2⟩ := am_an (show (am_dk q.2.1 pc (.ifCond .ne off) 3 len && decide ((pc : Int) + off = ((ops.headD 0 : Nat) : Int))) = true from hck)
  obtain ⟨hd, rfl⟩ := am_dk_ok h1
  have h2 := of_decide_eq_true h2
  obtain ⟨x, w, rfl, h⟩ := iv_I1 (show am_I1 st _ = some r from hrun)
  by_cases hc : ¬ x = 0
  · obtain ⟨lv, h⟩ := iv_jp (show am_jp J ops L w M = some r from (if_pos hc).symm.trans h)
    obtain ⟨hm, hk⟩ := hJ _ _ _ _ h
    exact ⟨hm, fun H locs ls ad cells slots I => lv_if_ne hx hb hd h2 (fun _ => hk H locs ls ad cells slots (I.pj lv (am_ws_t I.ws))) (fun n => absurd n hc)⟩
  · obtain ⟨hm, hk⟩ := hk _ _ _ (show k L w M = some r from (if_neg hc).symm.trans h)
    exact ⟨hm, fun H locs ls ad cells slots I => lv_if_ne hx hb hd h2 (fun n => absurd n hc) (fun _ => hk H locs ls ad cells slots (I.stk (am_ws_t I.ws)))⟩
theorem sd_if_lt {off : Int} (E : am_E p l R s m meth c D cA base t1 t2 sa q ad0 n0 c0 s0 r) (hk : am_S p l e R s m args below meth c D cA base q ad0 n0 c0 s0 Qt r (pc + len) k) (hJ : ∀ z, am_S p l e R s m args below meth c D cA base q ad0 n0 c0 s0 Qt r z (J z)) (hck : am_ck q hs pc (.ifCond .lt off, len, ops, v) = true) : am_S p l e R s m args below meth c D cA base q ad0 n0 c0 s0 Qt r pc (am_1 cal hs J some (.ifCond .lt off, len, ops, v) k) := by
  obtain ⟨hx, hb, hml, hown, hret, hlk, hnm, hG, hbs, hfr, hlo, htr, had, hrc, hrs⟩ := E
  intro L st M hrun
  obtain ⟨h1, h2⟩ := am_an (show (am_dk q.2.1 pc (.ifCond .lt off) 3 len && decide ((pc : Int) + off = ((ops.headD 0 : Nat) : Int))) = true from hck)
  obtain ⟨hd, rfl⟩ := am_dk_ok h1
  have h2 := of_decide_eq_true h2
  obtain ⟨x, w, rfl, h⟩ := iv_I1 (show am_I1 st _ = some r from hrun)
  by_cases hc : x < 0
  · obtain ⟨lv, h⟩ := iv_jp (show am_jp J ops L w M = some r from (if_pos hc).symm.trans h)
    obtain ⟨hm, hk⟩ := hJ _ _ _ _ h
    exact ⟨hm, fun H locs ls ad cells slots I => lv_if_lt hx hb hd h2 (fun _ => hk H locs ls ad cells slots (I.pj lv (am_ws_t I.ws))) (fun n => absurd hc n)⟩
  · obtain ⟨hm, hk⟩ := hk _ _ _ (show k L w M = some r from (if_neg hc).symm.trans h)
    exact ⟨hm, fun H locs ls ad cells slots I => lv_if_lt hx hb hd h2 (fun n => absurd n hc) (fun _ => hk H locs ls ad cells slots (I.stk (am_ws_t I.ws)))⟩
theorem sd_if_ge {off : Int} (E : am_E p l R s m meth c D cA base t1 t2 sa q ad0 n0 c0 s0 r) (hk : am_S p l e R s m args below meth c D cA base q ad0 n0 c0 s0 Qt r (pc + len) k) (hJ : ∀ z, am_S p l e R s m args below meth c D cA base q ad0 n0 c0 s0 Qt r z (J z)) (hck : am_ck q hs pc (.ifCond .ge off, len, ops, v) = true) : am_S p l e R s m args below meth c D cA base q ad0 n0 c0 s0 Qt r pc (am_1 cal hs J some (.ifCond .ge off, len, ops, v) k) := by
  obtain ⟨hx, hb, hml, hown, hret, hlk, hnm, hG, hbs, hfr, hlo, htr, had, hrc, hrs⟩ := E
  intro L st M hrun
  obtain ⟨h1, h2⟩ := am_an (show (am_dk q.2.1 pc (.ifCond .ge off) 3 len && decide ((pc : Int) + off = ((ops.headD 0 : Nat) : Int))) = true from hck)
  obtain ⟨hd, rfl⟩ := am_dk_ok h1
  have h2 := of_decide_eq_true h2
  obtain ⟨x, w, rfl, h⟩ := iv_I1 (show am_I1 st _ = some r from hrun)
  by_cases hc : 0 ≤ x
  · obtain ⟨lv, h⟩ := iv_jp (show am_jp J ops L w M = some r from (if_pos hc).symm.trans h)
    obtain ⟨hm, hk⟩ := hJ _ _ _ _ h
    exact ⟨hm, fun H locs ls ad cells slots I => lv_if_ge hx hb hd h2 (fun _ => hk H locs ls ad cells slots (I.pj lv (am_ws_t I.ws))) (fun n => absurd hc n)⟩
  · obtain ⟨hm, hk⟩ := hk _ _ _ (show k L w M = some r from (if_neg hc).symm.trans h)
    exact ⟨hm, fun H locs ls ad cells slots I => lv_if_ge hx hb hd h2 (fun n => absurd n hc) (fun _ => hk H locs ls ad cells slots (I.stk (am_ws_t I.ws)))⟩
theorem sd_if_gt {off : Int} (E : am_E p l R s m meth c D cA base t1 t2 sa q ad0 n0 c0 s0 r) (hk : am_S p l e R s m args below meth c D cA base q ad0 n0 c0 s0 Qt r (pc + len) k) (hJ : ∀ z, am_S p l e R s m args below meth c D cA base q ad0 n0 c0 s0 Qt r z (J z)) (hck : am_ck q hs pc (.ifCond .gt off, len, ops, v) = true) : am_S p l e R s m args below meth c D cA base q ad0 n0 c0 s0 Qt r pc (am_1 cal hs J some (.ifCond .gt off, len, ops, v) k) := by
  obtain ⟨hx, hb, hml, hown, hret, hlk, hnm, hG, hbs, hfr, hlo, htr, had, hrc, hrs⟩ := E
  intro L st M hrun
  obtain ⟨h1, h2⟩ := am_an (show (am_dk q.2.1 pc (.ifCond .gt off) 3 len && decide ((pc : Int) + off = ((ops.headD 0 : Nat) : Int))) = true from hck)
  obtain ⟨hd, rfl⟩ := am_dk_ok h1
  have h2 := of_decide_eq_true h2
  obtain ⟨x, w, rfl, h⟩ := iv_I1 (show am_I1 st _ = some r from hrun)
  by_cases hc : 0 < x
  · obtain ⟨lv, h⟩ := iv_jp (show am_jp J ops L w M = some r from (if_pos hc).symm.trans h)
    obtain ⟨hm, hk⟩ := hJ _ _ _ _ h
    exact ⟨hm, fun H locs ls ad cells slots I => lv_if_gt hx hb hd h2 (fun _ => hk H locs ls ad cells slots (I.pj lv (am_ws_t I.ws))) (fun n => absurd hc n)⟩
  · obtain ⟨hm, hk⟩ := hk _ _ _ (show k L w M = some r from (if_neg hc).symm.trans h)
    exact ⟨hm, fun H locs ls ad cells slots I => lv_if_gt hx hb hd h2 (fun n => absurd n hc) (fun _ => hk H locs ls ad cells slots (I.stk (am_ws_t I.ws)))⟩
theorem sd_if_le {off : Int} (E : am_E p l R s m meth c D cA base t1 t2 sa q ad0 n0 c0 s0 r) (hk : am_S p l e R s m args below meth c D cA base q ad0 n0 c0 s0 Qt r (pc + len) k) (hJ : ∀ z, am_S p l e R s m args below meth c D cA base q ad0 n0 c0 s0 Qt r z (J z)) (hck : am_ck q hs pc (.ifCond .le off, len, ops, v) = true) : am_S p l e R s m args below meth c D cA base q ad0 n0 c0 s0 Qt r pc (am_1 cal hs J some (.ifCond .le off, len, ops, v) k) := by
  obtain ⟨hx, hb, hml, hown, hret, hlk, hnm, hG, hbs, hfr, hlo, htr, had, hrc, hrs⟩ := E
  intro L st M hrun
  obtain ⟨h1, h2⟩ := am_an (show (am_dk q.2.1 pc (.ifCond .le off) 3 len && decide ((pc : Int) + off = ((ops.headD 0 : Nat) : Int))) = true from hck)
  obtain ⟨hd, rfl⟩ := am_dk_ok h1
  have h2 := of_decide_eq_true h2
  obtain ⟨x, w, rfl, h⟩ := iv_I1 (show am_I1 st _ = some r from hrun)
  by_cases hc : x ≤ 0
  · obtain ⟨lv, h⟩ := iv_jp (show am_jp J ops L w M = some r from (if_pos hc).symm.trans h)
    obtain ⟨hm, hk⟩ := hJ _ _ _ _ h
    exact ⟨hm, fun H locs ls ad cells slots I => lv_if_le hx hb hd h2 (fun _ => hk H locs ls ad cells slots (I.pj lv (am_ws_t I.ws))) (fun n => absurd hc n)⟩
  · obtain ⟨hm, hk⟩ := hk _ _ _ (show k L w M = some r from (if_neg hc).symm.trans h)
    exact ⟨hm, fun H locs ls ad cells slots I => lv_if_le hx hb hd h2 (fun n => absurd n hc) (fun _ => hk H locs ls ad cells slots (I.stk (am_ws_t I.ws)))⟩
theorem sd_icmp_eq {off : Int} (E : am_E p l R s m meth c D cA base t1 t2 sa q ad0 n0 c0 s0 r) (hk : am_S p l e R s m args below meth c D cA base q ad0 n0 c0 s0 Qt r (pc + len) k) (hJ : ∀ z, am_S p l e R s m args below meth c D cA base q ad0 n0 c0 s0 Qt r z (J z)) (hck : am_ck q hs pc (.if_icmp .eq off, len, ops, v) = true) : am_S p l e R s m args below meth c D cA base q ad0 n0 c0 s0 Qt r pc (am_1 cal hs J some (.if_icmp .eq off, len, ops, v) k) := by
  obtain ⟨hx, hb, hml, hown, hret, hlk, hnm, hG, hbs, hfr, hlo, htr, had, hrc, hrs⟩ := E
  intro L st M hrun
  obtain ⟨h1, h2⟩ := am_an (show (am_dk q.2.1 pc (.if_icmp .eq off) 3 len && decide ((pc : Int) + off = ((ops.headD 0 : Nat) : Int))) = true from hck)
  obtain ⟨hd, rfl⟩ := am_dk_ok h1
  have h2 := of_decide_eq_true h2
  obtain ⟨x, y, w, rfl, h⟩ := iv_I2 (show am_I2 st _ = some r from hrun)
  by_cases hc : x = y
  · obtain ⟨lv, h⟩ := iv_jp (show am_jp J ops L w M = some r from (if_pos hc).symm.trans h)
    obtain ⟨hm, hk⟩ := hJ _ _ _ _ h
    exact ⟨hm, fun H locs ls ad cells slots I => lv_icmp_eq hx hb hd h2 (fun _ => hk H locs ls ad cells slots (I.pj lv (am_ws_t (am_ws_t I.ws)))) (fun n => absurd hc n)⟩
  · obtain ⟨hm, hk⟩ := hk _ _ _ (show k L w M = some r from (if_neg hc).symm.trans h)
    exact ⟨hm, fun H locs ls ad cells slots I => lv_icmp_eq hx hb hd h2 (fun n => absurd n hc) (fun _ => hk H locs ls ad cells slots (I.stk (am_ws_t (am_ws_t I.ws))))⟩
theorem sd_icmp_ne {off : Int} (E : am_E p l R s m meth c D cA base t1 t2 sa q ad0 n0 c0 s0 r) (hk : am_S p l e R s m args below meth c D cA base q ad0 n0 c0 s0 Qt r (pc + len) k) (hJ : ∀ z, am_S p l e R s m args below meth c D cA base q ad0 n0 c0 s0 Qt r z (J z)) (hck : am_ck q hs pc (.if_icmp .ne off, len, ops, v) = true) : am_S p l e R s m args below meth c D cA base q ad0 n0 c0 s0 Qt r pc (am_1 cal hs J some (.if_icmp .ne off, len, ops, v) k) := by
  obtain ⟨hx, hb, hml, hown, hret, hlk, hnm, hG, hbs, hfr, hlo, htr, had, hrc, hrs⟩ := E
  intro L st M hrun
  obtain ⟨h1, h2⟩ := am_an (show (am_dk q.2.1 pc (.if_icmp .ne off) 3 len && decide ((pc : Int) + off = ((ops.headD 0 : Nat) : Int))) = true from hck)
  obtain ⟨hd, rfl⟩ := am_dk_ok h1
  have h2 := of_decide_eq_true h2
  obtain ⟨x, y, w, rfl, h⟩ := iv_I2 (show am_I2 st _ = some r from hrun)
  by_cases hc : ¬ x = y
  · obtain ⟨lv, h⟩ := iv_jp (show am_jp J ops L w M = some r from (if_pos hc).symm.trans h)
    obtain ⟨hm, hk⟩ := hJ _ _ _ _ h
    exact ⟨hm, fun H locs ls ad cells slots I => lv_icmp_ne hx hb hd h2 (fun _ => hk H locs ls ad cells slots (I.pj lv (am_ws_t (am_ws_t I.ws)))) (fun n => absurd n hc)⟩
  · obtain ⟨hm, hk⟩ := hk _ _ _ (show k L w M = some r from (if_neg hc).symm.trans h)
    exact ⟨hm, fun H locs ls ad cells slots I => lv_icmp_ne hx hb hd h2 (fun n => absurd n hc) (fun _ => hk H locs ls ad cells slots (I.stk (am_ws_t (am_ws_t I.ws))))⟩
theorem sd_icmp_lt {off : Int} (E : am_E p l R s m meth c D cA base t1 t2 sa q ad0 n0 c0 s0 r) (hk : am_S p l e R s m args below meth c D cA base q ad0 n0 c0 s0 Qt r (pc + len) k) (hJ : ∀ z, am_S p l e R s m args below meth c D cA base q ad0 n0 c0 s0 Qt r z (J z)) (hck : am_ck q hs pc (.if_icmp .lt off, len, ops, v) = true) : am_S p l e R s m args below meth c D cA base q ad0 n0 c0 s0 Qt r pc (am_1 cal hs J some (.if_icmp .lt off, len, ops, v) k) := by
  obtain ⟨hx, hb, hml, hown, hret, hlk, hnm, hG, hbs, hfr, hlo, htr, had, hrc, hrs⟩ := E
  intro L st M hrun
  obtain ⟨h1, h2⟩ := am_an (show (am_dk q.2.1 pc (.if_icmp .lt off) 3 len && decide ((pc : Int) + off = ((ops.headD 0 : Nat) : Int))) = true from hck)
  obtain ⟨hd, rfl⟩ := am_dk_ok h1
  have h2 := of_decide_eq_true h2
  obtain ⟨x, y, w, rfl, h⟩ := iv_I2 (show am_I2 st _ = some r from hrun)
  by_cases hc : x < y
  · obtain ⟨lv, h⟩ := iv_jp (show am_jp J ops L w M = some r from (if_pos hc).symm.trans h)
    obtain ⟨hm, hk⟩ := hJ _ _ _ _ h
    exact ⟨hm, fun H locs ls ad cells slots I => lv_icmp_lt hx hb hd h2 (fun _ => hk H locs ls ad cells slots (I.pj lv (am_ws_t (am_ws_t I.ws)))) (fun n => absurd hc n)⟩
  · obtain ⟨hm, hk⟩ := hk _ _ _ (show k L w M = some r from (if_neg hc).symm.trans h)
    exact ⟨hm, fun H locs ls ad cells slots I => lv_icmp_lt hx hb hd h2 (fun n => absurd n hc) (fun _ => hk H locs ls ad cells slots (I.stk (am_ws_t (am_ws_t I.ws))))⟩
theorem sd_icmp_ge {off : Int} (E : am_E p l R s m meth c D cA base t1 t2 sa q ad0 n0 c0 s0 r) (hk : am_S p l e R s m args below meth c D cA base q ad0 n0 c0 s0 Qt r (pc + len) k) (hJ : ∀ z, am_S p l e R s m args below meth c D cA base q ad0 n0 c0 s0 Qt r z (J z)) (hck : am_ck q hs pc (.if_icmp .ge off, len, ops, v) = true) : am_S p l e R s m args below meth c D cA base q ad0 n0 c0 s0 Qt r pc (am_1 cal hs J some (.if_icmp .ge off, len, ops, v) k) := by
  obtain ⟨hx, hb, hml, hown, hret, hlk, hnm, hG, hbs, hfr, hlo, htr, had, hrc, hrs⟩ := E
  intro L st M hrun
  obtain ⟨h1, h2⟩ := am_an (show (am_dk q.2.1 pc (.if_icmp .ge off) 3 len && decide ((pc : Int) + off = ((ops.headD 0 : Nat) : Int))) = true from hck)
  obtain ⟨hd, rfl⟩ := am_dk_ok h1
  have h2 := of_decide_eq_true h2
  obtain ⟨x, y, w, rfl, h⟩ := iv_I2 (show am_I2 st _ = some r from hrun)
  by_cases hc : y ≤ x
  · obtain ⟨lv, h⟩ := iv_jp (show am_jp J ops L w M = some r from (if_pos hc).symm.trans h)
    obtain ⟨hm, hk⟩ := hJ _ _ _ _ h
    exact ⟨hm, fun H locs ls ad cells slots I => lv_icmp_ge hx hb hd h2 (fun _ => hk H locs ls ad cells slots (I.pj lv (am_ws_t (am_ws_t I.ws)))) (fun n => absurd hc n)⟩
  · obtain ⟨hm, hk⟩ := hk _ _ _ (show k L w M = some r from (if_neg hc).symm.trans h)
    exact ⟨hm, fun H locs ls ad cells slots I => lv_icmp_ge hx hb hd h2 (fun n => absurd n hc) (fun _ => hk H locs ls ad cells slots (I.stk (am_ws_t (am_ws_t I.ws))))⟩
theorem sd_icmp_gt {off : Int} (E : am_E p l R s m meth c D cA base t1 t2 sa q ad0 n0 c0 s0 r) (hk : am_S p l e R s m args below meth c D cA base q ad0 n0 c0 s0 Qt r (pc + len) k) (hJ : ∀ z, am_S p l e R s m args below meth c D cA base q ad0 n0 c0 s0 Qt r z (J z)) (hck : am_ck q hs pc (.if_icmp .gt off, len, ops, v) = true) : am_S p l e R s m args below meth c D cA base q ad0 n0 c0 s0 Qt r pc (am_1 cal hs J some (.if_icmp .gt off, len, ops, v) k) := by
  obtain ⟨hx, hb, hml, hown, hret, hlk, hnm, hG, hbs, hfr, hlo, htr, had, hrc, hrs⟩ := E
  intro L st M hrun
  obtain ⟨h1, h2⟩ := am_an (show (am_dk q.2.1 pc (.if_icmp .gt off) 3 len && decide ((pc : Int) + off = ((ops.headD 0 : Nat) : Int))) = true from hck)
  obtain ⟨hd, rfl⟩ := am_dk_ok h1
  have h2 := of_decide_eq_true h2
  obtain ⟨x, y, w, rfl, h⟩ := iv_I2 (show am_I2 st _ = some r from hrun)
  by_cases hc : y < x
  · obtain ⟨lv, h⟩ := iv_jp (show am_jp J ops L w M = some r from (if_pos hc).symm.trans h)
    obtain ⟨hm, hk⟩ := hJ _ _ _ _ h
    exact ⟨hm, fun H locs ls ad cells slots I => lv_icmp_gt hx hb hd h2 (fun _ => hk H locs ls ad cells slots (I.pj lv (am_ws_t (am_ws_t I.ws)))) (fun n => absurd hc n)⟩
  · obtain ⟨hm, hk⟩ := hk _ _ _ (show k L w M = some r from (if_neg hc).symm.trans h)
    exact ⟨hm, fun H locs ls ad cells slots I => lv_icmp_gt hx hb hd h2 (fun n => absurd n hc) (fun _ => hk H locs ls ad cells slots (I.stk (am_ws_t (am_ws_t I.ws))))⟩
theorem sd_icmp_le {off : Int} (E : am_E p l R s m meth c D cA base t1 t2 sa q ad0 n0 c0 s0 r) (hk : am_S p l e R s m args below meth c D cA base q ad0 n0 c0 s0 Qt r (pc + len) k) (hJ : ∀ z, am_S p l e R s m args below meth c D cA base q ad0 n0 c0 s0 Qt r z (J z)) (hck : am_ck q hs pc (.if_icmp .le off, len, ops, v) = true) : am_S p l e R s m args below meth c D cA base q ad0 n0 c0 s0 Qt r pc (am_1 cal hs J some (.if_icmp .le off, len, ops, v) k) := by
  obtain ⟨hx, hb, hml, hown, hret, hlk, hnm, hG, hbs, hfr, hlo, htr, had, hrc, hrs⟩ := E
  intro L st M hrun
  obtain ⟨h1, h2⟩ := am_an (show (am_dk q.2.1 pc (.if_icmp .le off) 3 len && decide ((pc : Int) + off = ((ops.headD 0 : Nat) : Int))) = true from hck)
  obtain ⟨hd, rfl⟩ := am_dk_ok h1
  have h2 := of_decide_eq_true h2
  obtain ⟨x, y, w, rfl, h⟩ := iv_I2 (show am_I2 st _ = some r from hrun)
  by_cases hc : x ≤ y
  · obtain ⟨lv, h⟩ := iv_jp (show am_jp J ops L w M = some r from (if_pos hc).symm.trans h)
    obtain ⟨hm, hk⟩ := hJ _ _ _ _ h
    exact ⟨hm, fun H locs ls ad cells slots I => lv_icmp_le hx hb hd h2 (fun _ => hk H locs ls ad cells slots (I.pj lv (am_ws_t (am_ws_t I.ws)))) (fun n => absurd hc n)⟩
  · obtain ⟨hm, hk⟩ := hk _ _ _ (show k L w M = some r from (if_neg hc).symm.trans h)
    exact ⟨hm, fun H locs ls ad cells slots I => lv_icmp_le hx hb hd h2 (fun n => absurd n hc) (fun _ => hk H locs ls ad cells slots (I.stk (am_ws_t (am_ws_t I.ws))))⟩
theorem sd_goto {off : Int} (E : am_E p l R s m meth c D cA base t1 t2 sa q ad0 n0 c0 s0 r) (hJ : ∀ z, am_S p l e R s m args below meth c D cA base q ad0 n0 c0 s0 Qt r z (J z)) (hck : am_ck q hs pc (.goto off, len, ops, v) = true) : am_S p l e R s m args below meth c D cA base q ad0 n0 c0 s0 Qt r pc (am_1 cal hs J some (.goto off, len, ops, v) k) := by
  obtain ⟨hx, hb, hml, hown, hret, hlk, hnm, hG, hbs, hfr, hlo, htr, had, hrc, hrs⟩ := E
  intro L st M hrun
  obtain ⟨h1, h2⟩ := am_an (show (am_dk q.2.1 pc (.goto off) 3 len && decide ((pc : Int) + off = ((ops.headD 0 : Nat) : Int))) = true from hck)
  obtain ⟨hd, rfl⟩ := am_dk_ok h1
  have h2 := of_decide_eq_true h2
  obtain ⟨lv, h⟩ := iv_jp (show am_jp J ops L st M = some r from hrun)
  obtain ⟨hm, hk⟩ := hJ _ _ _ _ h
  exact ⟨hm, fun H locs ls ad cells slots I => lv_goto hx hb hd h2 (hk H locs ls ad cells slots (I.pj lv I.ws))⟩
theorem sd_nop  (E : am_E p l R s m meth c D cA base t1 t2 sa q ad0 n0 c0 s0 r) (hJ : ∀ z, am_S p l e R s m args below meth c D cA base q ad0 n0 c0 s0 Qt r z (J z)) (hck : am_ck q hs pc (.nop, len, ops, v) = true) : am_S p l e R s m args below meth c D cA base q ad0 n0 c0 s0 Qt r pc (am_1 cal hs J some (.nop, len, ops, v) k) := by
  obtain ⟨hx, hb, hml, hown, hret, hlk, hnm, hG, hbs, hfr, hlo, htr, had, hrc, hrs⟩ := E
  intro L st M hrun
  have h2 := Nat.eq_of_beq_eq_true (show Nat.beq (ops.headD 0) pc = true from hck)
  obtain ⟨lv, h⟩ := iv_jp (show am_jp J ops L st M = some r from hrun)
  obtain ⟨hm, hk⟩ := hJ _ _ _ _ h
  rw [h2] at hk
  exact ⟨hm, fun H locs ls ad cells slots I => hk H locs ls ad cells slots (I.pj lv I.ws)⟩
end SIM1
end
section
/-! ONE INSTRUCTION: fields and arrays -/
theorem ac_layw : ∀ ci, ci < 10 → ∀ k, k < ac_N ci → (decide (u_lay (ac_C ci) (ac_T ci) k ∈ lw_tbl) && am_okw (u_lay (ac_C ci) (ac_T ci) k)) = true := by decide +kernel
section
variable {D : va_G} {cA : Nat → ClassId} {base t1 t2 : Nat} {sa : Nat → Nat} {s : State} {H : Heap} {ad : Nat → Nat}
theorem ac_layb (hG : ac_G D cA base t1 t2 sa s H) {ci k : Nat} (hci : ci < 10) (hk : k < ac_N ci) (args : Array Value) : (u_lay (ac_C ci) (ac_T ci) k).before args s = true := by
  have h := ac_layw ci hci k hk
  simp only [Bool.and_eq_true, decide_eq_true_eq] at h
  exact am_okw_at (State.WarmedH.refl s) h.2 (hG.1 _ h.1 h.2)
theorem ac_lay (hG : ac_G D cA base t1 t2 sa s H) {ci k : Nat} (hci : ci < 10) (hk : k < ac_N ci) (args : Array Value) : (Cond.lays (ac_C ci) (ac_T ci k).1 (ac_T ci k).2.1 (ac_T ci k).2.2.1).before args s = true ∨ (Cond.laysFinal (ac_C ci) (ac_T ci k).1 (ac_T ci k).2.1 (ac_T ci k).2.2.1).before args s = true := by
  have h := ac_layb hG hci hk args
  unfold u_lay at h
  split at h
  · exact Or.inr h
  · exact Or.inl h
theorem ac_apart (hG : ac_G D cA base t1 t2 sa s H) {ci : Nat} (hci : ci < 10) (args : Array Value) : ∀ x y, x < ac_N ci → y < ac_N ci → x ≠ y → (D.2 ci) x ≠ (D.2 ci) y := by
  intro x y hx hy hne
  obtain ⟨hS, -⟩ := hG.2.1 ci hci
  obtain ⟨_, _, _, fa, hia, ea⟩ := hS x hx
  obtain ⟨_, _, _, fb, hib, eb⟩ := hS y hy
  rw [← ea, ← eb]
  refine u_apart (ac_lay hG hci hx args) (ac_lay hG hci hy args) hia hib ?_
  rw [(State.fieldFound?_type hia (ac_tok ci hci x hx)).1, (State.fieldFound?_type hib (ac_tok ci hci y hy)).1]
  exact ac_nm ci hci x hx y hy hne
theorem am_upd {fs : List Value} {j : Nat} (hj : j < fs.length) (v : Value) : updV (fun i => ac ad (fs.getD i .null)) j (ac ad v) = fun i => ac ad ((fs.set j v).getD i .null) := by
  funext i
  unfold updV
  by_cases e : i = j
  · subst e
    rw [if_pos rfl]
    simp [hj]
  · rw [if_neg e]
    have e' : ¬ j = i := fun h => e h.symm
    simp [List.getElem?_set, e']
theorem am_ft_ok {t : FieldType} {v : Value} (h : am_ft (ac_fc t) v = true) : narrow t (ac ad v) = ac ad v ∧ fits t (ac ad v) = true := by
  cases v with
  | int x =>
    cases t with
    | int => exact ⟨rfl, rfl⟩
    | boolean =>
      have h : (x == 0 || x == 1) = true := h
      simp only [Bool.or_eq_true, beq_iff_eq] at h
      rcases h with rfl | rfl
      · exact ⟨rfl, rfl⟩
      · exact ⟨rfl, rfl⟩
    | char =>
      have h : (decide (0 ≤ x) && decide (x ≤ 65535)) = true := h
      refine ⟨?_, h⟩
      simp only [Bool.and_eq_true, decide_eq_true_eq] at h
      have h1 := Int32.le_iff_toInt_le.mp h.1
      have h2 := Int32.le_iff_toInt_le.mp h.2
      exact congrArg Value.int (lg_i2c_small (by simpa using h1) (by have : (65535 : Int32).toInt = 65535 := by decide
                                                                     omega))
    | _ => exact nomatch h
  | long x => cases t <;> first | exact ⟨rfl, rfl⟩ | exact nomatch h
  | ref a => cases t <;> first | exact ⟨rfl, rfl⟩ | exact nomatch h
  | _ => exact nomatch h
theorem am_wset {n : Nat} {fs : List Value} {v : Value} {j : Nat} (h : ∀ u ∈ fs, ac_wf n u) (hv : ac_wf n v) : ∀ u ∈ fs.set j v, ac_wf n u := fun u hu => by
  rcases List.mem_or_eq_of_mem_set hu with h1 | h1
  · exact h u h1
  · rw [h1]; exact hv
/-- a place of an array is written -/
theorem ac_ok_sta {U : State} {H' : Heap} {a kd j : Nat} {fs : List Value} {v : Value} (hj : j < fs.length) (hro : am_ro ≤ a) (h0 : ac_ok D cA base ad U H a (kd, fs)) (hc : 10 ≤ kd) (h1 : ∀ cell, H[ad a]? = some cell → H'[ad a]? = some (cell.setSlot j (ac ad v))) : ac_ok D cA base ad U H' a (kd, fs.set j v) := by
  obtain ⟨h17, hl, h2, -⟩ := h0.2 hc
  refine ⟨fun h => absurd h (Nat.not_lt.mpr hc), fun _ => ⟨h17, by rw [List.length_set]; exact hl, fun _ => ?_, fun h => absurd h (Nat.not_lt.mpr hro)⟩⟩
  rw [h1 _ (h2 hro), arrV_store]
  show some (arrV (cA kd) fs.length (updV (fun i => ac ad (fs.getD i .null)) j (ac ad v))) = some (arrV (cA kd) (fs.set j v).length (fun i => ac ad ((fs.set j v).getD i .null)))
  rw [am_upd hj, List.length_set]
end
section
variable {D : va_G} {cA : Nat → ClassId} {base : Nat} {q : aS} {ad0 : Nat → Nat} {n0 c0 s0 : Nat} {s : State} {L : aL} {st : List Value} {M : aM} {H : Heap} {locs : List Loc} {ls : Array Slot} {ad : Nat → Nat} {cells slots : Nat}
theorem am_I.put {st' : List Value} {a : Nat} {x : aC} {H' : Heap} {locs' : List Loc} (I : am_I D cA base q ad0 n0 c0 s0 s L st M H locs ls ad cells slots) (hr : ac_R D cA base ad (M.1.set a x, M.2) s H') (hs : va_S (ac_A base) s.heap H' locs') (hw : am_ws M.1.length st') : am_I D cA base q ad0 n0 c0 s0 s L st' (M.1.set a x, M.2) H' locs' ls ad cells slots := by
  have e : (M.1.set a x).length = M.1.length := List.length_set
  refine ⟨I.1, ?_, hr, hs, I.lv, ?_, ?_, I.2.2.2.2.2.2.2⟩
  · show n0 ≤ (M.1.set a x).length
    rw [e]; exact I.2.1
  · show am_wl (M.1.set a x).length L
    rw [e]; exact I.wl
  · show am_ws (M.1.set a x).length st'
    rw [e]; exact hw
end
section SIM2
variable {p : Program} {l : Launch} {e : Env} {R : Room} {s : State} {m : MethodId} {args : Array Value} {below : List Frame} {meth : Method} {c : Code} {D : va_G} {cA : Nat → ClassId} {base t1 t2 : Nat} {sa : Nat → Nat} {q : aS} {ad0 : Nat → Nat} {n0 c0 s0 : Nat} {Qt : State → Prop} {r : aR}
variable {cal : aY} {hs : List aH} {J : Nat → aL → List Value → aM → Option aR} {k : aL → List Value → aM → Option aR} {pc len : Nat} {ops : List Nat} {v : Value}
theorem sd_getfield {j : Nat} (E : am_E p l R s m meth c D cA base t1 t2 sa q ad0 n0 c0 s0 r) (hk : am_S p l e R s m args below meth c D cA base q ad0 n0 c0 s0 Qt r (pc + len) k) (hck : am_ck q hs pc (.getfield j, len, ops, v) = true) : am_S p l e R s m args below meth c D cA base q ad0 n0 c0 s0 Qt r pc (am_1 cal hs J some (.getfield j, len, ops, v) k) := by
  obtain ⟨hx, hb, hml, hown, hret, hlk, hnm, hG, hbs, hfr, hlo, htr, had, hrc, hrs⟩ := E
  intro L st M hrun
  obtain ⟨h1, h2⟩ := am_an hck
  obtain ⟨hd, rfl⟩ := am_dk_ok h1
  have h3 : ∃ ci f ty w t, ops = ci :: f :: ty :: w :: t ∧ ci < 10 ∧ f < ac_N ci ∧ am_at w (.fieldLink q.1.cls j (ac_T ci f).1 (ac_T ci f).2.1 (ac_T ci f).2.2.1) = true := by
    dsimp only at h2
    split at h2
    · obtain ⟨g1, g2⟩ := am_an h2
      obtain ⟨g2, g3⟩ := am_an g2
      exact ⟨_, _, _, _, _, rfl, Nat.le_of_ble_eq_true g1, Nat.le_of_ble_eq_true g2, g3⟩
    · exact nomatch h2
  obtain ⟨ci, f, ty, w, t, rfl, hci, hf, hw⟩ := h3
  obtain ⟨a, st', rfl, h⟩ := iv_A1 (show am_A1 st _ = some r from hrun)
  have h4 : ∃ v0, am_rd M a ci f = some v0 ∧ k L (v0 :: st') M = some r := by
    dsimp only at h
    split at h
    · obtain ⟨x, hx1, h⟩ := iv_b h
      exact ⟨_, iv_rJ hx1, h⟩
    · obtain ⟨x, hx1, h⟩ := iv_b h
      exact ⟨_, iv_rA hx1, h⟩
    · obtain ⟨x, hx1, h⟩ := iv_b h
      exact ⟨_, iv_rI hx1, h⟩
  obtain ⟨v0, h5, h⟩ := h4
  obtain ⟨hm, hk⟩ := hk _ _ _ h
  refine ⟨hm, fun H locs ls ad cells slots I => ?_⟩
  obtain ⟨cell, g1, g2, g3, g4, g5, g6, g7⟩ := ac_rdo I.rl h5 hci
  obtain ⟨hS, hfc, kC, hkC, hkind⟩ := hG.2.1 ci hci
  obtain ⟨cf, kf, fi, fd, hi, hsl⟩ := hS f hf
  exact W.getf hx hb hown (hG.word hw args) hi (u_facts hfc hkC (ac_lay hG hci hf args) hi).1 g1 (by rw [g3]; exact fun h => by cases h) (by rw [hsl]; exact g5) rfl rfl hd (hk H locs ls ad cells slots (I.stk (am_ws_c g6 (am_ws_t I.ws))))
theorem sd_putfield {j : Nat} (E : am_E p l R s m meth c D cA base t1 t2 sa q ad0 n0 c0 s0 r) (hk : am_S p l e R s m args below meth c D cA base q ad0 n0 c0 s0 Qt r (pc + len) k) (hck : am_ck q hs pc (.putfield j, len, ops, v) = true) : am_S p l e R s m args below meth c D cA base q ad0 n0 c0 s0 Qt r pc (am_1 cal hs J some (.putfield j, len, ops, v) k) := by
  obtain ⟨hx, hb, hml, hown, hret, hlk, hnm, hG, hbs, hfr, hlo, htr, had, hrc, hrs⟩ := E
  intro L st M hrun
  obtain ⟨h1, h2⟩ := am_an hck
  obtain ⟨hd, rfl⟩ := am_dk_ok h1
  have h3 : ∃ ci f ty w t, ops = ci :: f :: ty :: w :: t ∧ ci < 10 ∧ f < ac_N ci ∧ am_at w (.fieldLink q.1.cls j (ac_T ci f).1 (ac_T ci f).2.1 (ac_T ci f).2.2.1) = true ∧ ty = ac_fc (ac_F ci f) ∧ ((ac_T ci f).2.2.2 = false ∨ ((ac_T ci f).2.2.2 = true ∧ q.1.name = "<init>" ∧ (ac_T ci f).1 = q.1.cls)) := by
    dsimp only at h2
    split at h2
    · obtain ⟨g1, g2⟩ := am_an h2
      obtain ⟨g2, g3⟩ := am_an g2
      obtain ⟨g3, g4⟩ := am_an g3
      obtain ⟨g4, g5⟩ := am_an g4
      exact ⟨_, _, _, _, _, rfl, Nat.le_of_ble_eq_true g1, Nat.le_of_ble_eq_true g2, g3, Nat.eq_of_beq_eq_true g4, of_decide_eq_true g5⟩
    · exact nomatch h2
  obtain ⟨ci, f, ty, w, t, rfl, hci, hf, hw, rfl, hfin⟩ := h3
  have h4 : ∃ v0 a st', st = v0 :: .ref a :: st' ∧ am_ft (ac_fc (ac_F ci f)) v0 = true ∧ ∃ M', am_wr M a ci f v0 = some M' ∧ k L st' M' = some r := by
    simp only [am_1] at hrun
    split at hrun
    · obtain ⟨g1, g2⟩ := iv_c hrun
      obtain ⟨M', g2, g3⟩ := iv_b g2
      exact ⟨_, _, _, rfl, g1, M', g2, g3⟩
    · exact nomatch hrun
  obtain ⟨v0, a, st', rfl, hft, M', hwr, h⟩ := h4
  obtain ⟨fs, ha, hro, hlt, rfl⟩ := am_wr_iff.mp hwr
  obtain ⟨hm, hk⟩ := hk _ _ _ h
  refine ⟨hm, fun H locs ls ad cells slots I => ?_⟩
  obtain ⟨hl, -, cell, g1, g2, g3, g4⟩ := (I.rl.1 a _ ha).1 hci
  obtain ⟨hS, hfc, kC, hkC, hkind⟩ := hG.2.1 ci hci
  obtain ⟨cf, kf, fi, fd, hi, hsl⟩ := hS f hf
  obtain ⟨hn, hfit⟩ := am_ft_ok (ad := ad) hft
  have hlayb := ac_layb hG hci hf args
  have hst := (u_facts hfc hkC (ac_lay hG hci hf args) hi).1
  have hal : a < M.1.length := (List.getElem?_eq_some_iff.mp ha).1
  have hwv : ac_wf M.1.length v0 := am_ws_h I.ws
  have fin : ∀ H' : Heap, H'[ad a]? = some (cell.setSlot fd.slot (ac ad v0)) → H'.size = H.size → (∀ q, q ≠ ad a → H'[q]? = H[q]?) → W p l e R s m args below meth c H' (locs ++ [⟨ad a, fd.slot⟩]) cells slots Qt (F0 m (pc + 3) ls (st'.map (ac ad))) := by
    intro H' e1 e2 e3
    refine hk H' _ ls ad cells slots (I.put (I.rl.set ha (am_wset (I.rl.2.2.2.1 a _ ha) hwv) e2 e3 ⟨fun _ => ⟨by rw [List.length_set]; exact hl, hro, ?_⟩, fun h => absurd hci (Nat.not_lt.mpr h)⟩) (I.sm.put e2 e3 (I.rl.2.2.1 a hro hal)) (am_ws_t (am_ws_t I.ws)))
    rw [hsl] at e1
    refine ⟨_, e1, g2, g3, fun i hi2 => ?_⟩
    rw [t_set g4 (ac_apart hG hci args) hf (ac ad v0) i hi2]
    exact congrArg some (congrFun (am_upd hlt v0) i)
  rcases hfin with hfin | ⟨hfin, hin, hdecl⟩
  · unfold u_lay at hlayb
    rw [if_neg (by rw [hfin]; decide)] at hlayb
    exact W.putK hx hb (f := fd) ⟨hown, hG.word hw args, ⟨_, _, _, hi⟩, hst⟩ (by rw [g2]; exact u_store hfc hkC hkind hlayb hi (ac_tok ci hci f hf) hn hfit) g1 g3 (by rw [hsl]; exact k2_hasslot (g4 f hf)) rfl rfl hd fin
  · unfold u_lay at hlayb
    rw [if_pos hfin] at hlayb
    have hcf : m.cls = cf := by
      obtain ⟨_, _, c', _, _, _, -, -, hf', -, -, -, hown2, -⟩ := Cond.laysFinal_spec hlayb
      have e1 : c' = cf := by have := hi.symm.trans hf'; simp at this; exact this.1.symm
      rw [hdecl] at hown2
      rw [← e1]; exact Option.some.inj (hown.symm.trans hown2)
    exact W.putFinK hx hb hown (hG.word hw args) hi hst hcf (hnm.trans hin) (by rw [g2]; exact u_fits hfc hkC hkind (Or.inr hlayb) hi (ac_tok ci hci f hf) hn hfit) g1 g3 (by rw [hsl]; exact k2_hasslot (g4 f hf)) rfl rfl hd fin
theorem sd_iaload  (E : am_E p l R s m meth c D cA base t1 t2 sa q ad0 n0 c0 s0 r) (hk : am_S p l e R s m args below meth c D cA base q ad0 n0 c0 s0 Qt r (pc + len) k) (hck : am_ck q hs pc (.iaload, len, ops, v) = true) : am_S p l e R s m args below meth c D cA base q ad0 n0 c0 s0 Qt r pc (am_1 cal hs J some (.iaload, len, ops, v) k) := by
  obtain ⟨hx, hb, hml, hown, hret, hlk, hnm, hG, hbs, hfr, hlo, htr, had, hrc, hrs⟩ := E
  intro L st M hrun
  obtain ⟨hd, rfl⟩ := am_dk_ok (show am_dk q.2.1 pc (.iaload) 1 len = true from hck)
  obtain ⟨x, w, rfl, h⟩ := iv_I1 (show am_I1 st _ = some r from hrun)
  obtain ⟨a, w, rfl, h⟩ := iv_A1 h
  obtain ⟨j, h1, h⟩ := iv_b h
  obtain ⟨hn, rfl⟩ := iv_ix h1
  obtain ⟨y, h2, h⟩ := iv_b h
  obtain ⟨hm, hk⟩ := hk _ _ _ h
  refine ⟨hm, fun H locs ls ad cells slots I => ?_⟩
  obtain ⟨cell, g1, g2, g3, g4, g5, g6⟩ := ac_rda I.rl hG.2.2.1 (iv_rI h2) (by decide)
  exact W.iald hx hb g1 g2 g3 (fun z => z.elim hn (fun z => absurd g4 (Nat.not_lt.mpr z))) g5 rfl rfl hd (hk H locs ls ad cells slots (I.stk (am_ws_c g6 (am_ws_t (am_ws_t I.ws)))))
theorem sd_laload  (E : am_E p l R s m meth c D cA base t1 t2 sa q ad0 n0 c0 s0 r) (hk : am_S p l e R s m args below meth c D cA base q ad0 n0 c0 s0 Qt r (pc + len) k) (hck : am_ck q hs pc (.laload, len, ops, v) = true) : am_S p l e R s m args below meth c D cA base q ad0 n0 c0 s0 Qt r pc (am_1 cal hs J some (.laload, len, ops, v) k) := by
  obtain ⟨hx, hb, hml, hown, hret, hlk, hnm, hG, hbs, hfr, hlo, htr, had, hrc, hrs⟩ := E
  intro L st M hrun
  obtain ⟨hd, rfl⟩ := am_dk_ok (show am_dk q.2.1 pc (.laload) 1 len = true from hck)
  obtain ⟨x, w, rfl, h⟩ := iv_I1 (show am_I1 st _ = some r from hrun)
  obtain ⟨a, w, rfl, h⟩ := iv_A1 h
  obtain ⟨j, h1, h⟩ := iv_b h
  obtain ⟨hn, rfl⟩ := iv_ix h1
  obtain ⟨y, h2, h⟩ := iv_b h
  obtain ⟨hm, hk⟩ := hk _ _ _ h
  refine ⟨hm, fun H locs ls ad cells slots I => ?_⟩
  obtain ⟨cell, g1, g2, g3, g4, g5, g6⟩ := ac_rda I.rl hG.2.2.1 (iv_rJ h2) (by decide)
  exact W.lald hx hb g1 g2 g3 (fun z => z.elim hn (fun z => absurd g4 (Nat.not_lt.mpr z))) g5 rfl rfl hd (hk H locs ls ad cells slots (I.stk (am_ws_c g6 (am_ws_t (am_ws_t I.ws)))))
theorem sd_baload  (E : am_E p l R s m meth c D cA base t1 t2 sa q ad0 n0 c0 s0 r) (hk : am_S p l e R s m args below meth c D cA base q ad0 n0 c0 s0 Qt r (pc + len) k) (hck : am_ck q hs pc (.baload, len, ops, v) = true) : am_S p l e R s m args below meth c D cA base q ad0 n0 c0 s0 Qt r pc (am_1 cal hs J some (.baload, len, ops, v) k) := by
  obtain ⟨hx, hb, hml, hown, hret, hlk, hnm, hG, hbs, hfr, hlo, htr, had, hrc, hrs⟩ := E
  intro L st M hrun
  obtain ⟨hd, rfl⟩ := am_dk_ok (show am_dk q.2.1 pc (.baload) 1 len = true from hck)
  obtain ⟨x, w, rfl, h⟩ := iv_I1 (show am_I1 st _ = some r from hrun)
  obtain ⟨a, w, rfl, h⟩ := iv_A1 h
  obtain ⟨j, h1, h⟩ := iv_b h
  obtain ⟨hn, rfl⟩ := iv_ix h1
  obtain ⟨y, h2, h⟩ := iv_b h
  obtain ⟨hm, hk⟩ := hk _ _ _ h
  refine ⟨hm, fun H locs ls ad cells slots I => ?_⟩
  obtain ⟨cell, g1, g2, g3, g4, g5, g6⟩ := ac_rda I.rl hG.2.2.1 (iv_rI h2) (by decide)
  exact W.zald hx hb g1 g2 g3 (fun z => z.elim hn (fun z => absurd g4 (Nat.not_lt.mpr z))) g5 rfl rfl hd (hk H locs ls ad cells slots (I.stk (am_ws_c g6 (am_ws_t (am_ws_t I.ws)))))
theorem sd_caload  (E : am_E p l R s m meth c D cA base t1 t2 sa q ad0 n0 c0 s0 r) (hk : am_S p l e R s m args below meth c D cA base q ad0 n0 c0 s0 Qt r (pc + len) k) (hck : am_ck q hs pc (.caload, len, ops, v) = true) : am_S p l e R s m args below meth c D cA base q ad0 n0 c0 s0 Qt r pc (am_1 cal hs J some (.caload, len, ops, v) k) := by
  obtain ⟨hx, hb, hml, hown, hret, hlk, hnm, hG, hbs, hfr, hlo, htr, had, hrc, hrs⟩ := E
  intro L st M hrun
  obtain ⟨hd, rfl⟩ := am_dk_ok (show am_dk q.2.1 pc (.caload) 1 len = true from hck)
  obtain ⟨x, w, rfl, h⟩ := iv_I1 (show am_I1 st _ = some r from hrun)
  obtain ⟨a, w, rfl, h⟩ := iv_A1 h
  obtain ⟨j, h1, h⟩ := iv_b h
  obtain ⟨hn, rfl⟩ := iv_ix h1
  obtain ⟨y, h2, h⟩ := iv_b h
  obtain ⟨hm, hk⟩ := hk _ _ _ h
  refine ⟨hm, fun H locs ls ad cells slots I => ?_⟩
  obtain ⟨cell, g1, g2, g3, g4, g5, g6⟩ := ac_rda I.rl hG.2.2.1 (iv_rI h2) (by decide)
  exact W.cald hx hb g1 g2 g3 (fun z => z.elim hn (fun z => absurd g4 (Nat.not_lt.mpr z))) g5 rfl rfl hd (hk H locs ls ad cells slots (I.stk (am_ws_c g6 (am_ws_t (am_ws_t I.ws)))))
theorem sd_aaload  (E : am_E p l R s m meth c D cA base t1 t2 sa q ad0 n0 c0 s0 r) (hk : am_S p l e R s m args below meth c D cA base q ad0 n0 c0 s0 Qt r (pc + len) k) (hck : am_ck q hs pc (.aaload, len, ops, v) = true) : am_S p l e R s m args below meth c D cA base q ad0 n0 c0 s0 Qt r pc (am_1 cal hs J some (.aaload, len, ops, v) k) := by
  obtain ⟨hx, hb, hml, hown, hret, hlk, hnm, hG, hbs, hfr, hlo, htr, had, hrc, hrs⟩ := E
  intro L st M hrun
  obtain ⟨h1, h2⟩ := am_an (show (am_dk q.2.1 pc .aaload 1 len && (Nat.ble 14 (ops.headD 0) && Nat.blt (ops.headD 0) 17)) = true from hck)
  obtain ⟨hd, rfl⟩ := am_dk_ok h1
  obtain ⟨h2, h3⟩ := am_an h2
  have h2 : 14 ≤ ops.headD 0 := Nat.le_of_ble_eq_true h2
  have h3 : ops.headD 0 < 17 := Nat.le_of_ble_eq_true h3
  obtain ⟨x, w, rfl, h⟩ := iv_I1 (show am_I1 st _ = some r from hrun)
  obtain ⟨a, w, rfl, h⟩ := iv_A1 h
  obtain ⟨j, h4, h⟩ := iv_b h
  obtain ⟨hn, rfl⟩ := iv_ix h4
  obtain ⟨y, h5, h⟩ := iv_b h
  obtain ⟨hm, hk⟩ := hk _ _ _ h
  refine ⟨hm, fun H locs ls ad cells slots I => ?_⟩
  obtain ⟨cell, g1, g2, g3, g4, g5, g6⟩ := ac_rda I.rl hG.2.2.1 (iv_rA h5) (show 10 ≤ ops.headD 0 by omega)
  have hr : (ac_ty (ops.headD 0)).isReference = true := by
    have : ops.headD 0 = 14 ∨ ops.headD 0 = 15 ∨ ops.headD 0 = 16 := by omega
    rcases this with h | h | h <;> rw [h] <;> rfl
  exact W.aald hx hb g1 g2 hr g3 (fun z => z.elim hn (fun z => absurd g4 (Nat.not_lt.mpr z))) g5 rfl rfl hd (hk H locs ls ad cells slots (I.stk (am_ws_c g6 (am_ws_t (am_ws_t I.ws)))))
theorem sd_iastore  (E : am_E p l R s m meth c D cA base t1 t2 sa q ad0 n0 c0 s0 r) (hk : am_S p l e R s m args below meth c D cA base q ad0 n0 c0 s0 Qt r (pc + len) k) (hck : am_ck q hs pc (.iastore, len, ops, v) = true) : am_S p l e R s m args below meth c D cA base q ad0 n0 c0 s0 Qt r pc (am_1 cal hs J some (.iastore, len, ops, v) k) := by
  obtain ⟨hx, hb, hml, hown, hret, hlk, hnm, hG, hbs, hfr, hlo, htr, had, hrc, hrs⟩ := E
  intro L st M hrun
  obtain ⟨hd, rfl⟩ := am_dk_ok (show am_dk q.2.1 pc (.iastore) 1 len = true from hck)
  obtain ⟨y, w, rfl, h⟩ := iv_I1 (show am_I1 st _ = some r from hrun)
  obtain ⟨x, w, rfl, h⟩ := iv_I1 h
  obtain ⟨a, w, rfl, h⟩ := iv_A1 h
  obtain ⟨j, h1, h⟩ := iv_b h
  obtain ⟨M', hwr, h⟩ := iv_b h
  obtain ⟨hn, rfl⟩ := iv_ix h1
  obtain ⟨fs, ha, hro, hlt, rfl⟩ := am_wr_iff.mp hwr
  obtain ⟨hm, hk⟩ := hk _ _ _ h
  refine ⟨hm, fun H locs ls ad cells slots I => ?_⟩
  obtain ⟨cell, g1, g2, g3, g4, -, -⟩ := ac_arr I.rl hG.2.2.1 ha (by decide)
  have hal : a < M.1.length := (List.getElem?_eq_some_iff.mp ha).1
  exact W.iast hx hb g1 g2 g3 (fun z => z.elim hn (fun z => absurd (Nat.lt_of_lt_of_le hlt g4) (Nat.not_lt.mpr z))) rfl rfl hd (fun H' e1 e2 e3 => hk H' _ ls ad cells slots
    (I.put (I.rl.set ha (am_wset (I.rl.2.2.2.1 a _ ha) ac_wf_int) e2 e3 (ac_ok_sta (v := .int y) hlt hro (I.rl.1 a _ ha) (by decide) (fun cell' hc => by rw [g1] at hc; cases hc; exact e1))) (I.sm.put e2 e3 (I.rl.2.2.1 a hro hal)) (am_ws_t (am_ws_t (am_ws_t I.ws)))))
theorem sd_lastore  (E : am_E p l R s m meth c D cA base t1 t2 sa q ad0 n0 c0 s0 r) (hk : am_S p l e R s m args below meth c D cA base q ad0 n0 c0 s0 Qt r (pc + len) k) (hck : am_ck q hs pc (.lastore, len, ops, v) = true) : am_S p l e R s m args below meth c D cA base q ad0 n0 c0 s0 Qt r pc (am_1 cal hs J some (.lastore, len, ops, v) k) := by
  obtain ⟨hx, hb, hml, hown, hret, hlk, hnm, hG, hbs, hfr, hlo, htr, had, hrc, hrs⟩ := E
  intro L st M hrun
  obtain ⟨hd, rfl⟩ := am_dk_ok (show am_dk q.2.1 pc (.lastore) 1 len = true from hck)
  obtain ⟨y, w, rfl, h⟩ := iv_J1 (show am_J1 st _ = some r from hrun)
  obtain ⟨x, w, rfl, h⟩ := iv_I1 h
  obtain ⟨a, w, rfl, h⟩ := iv_A1 h
  obtain ⟨j, h1, h⟩ := iv_b h
  obtain ⟨M', hwr, h⟩ := iv_b h
  obtain ⟨hn, rfl⟩ := iv_ix h1
  obtain ⟨fs, ha, hro, hlt, rfl⟩ := am_wr_iff.mp hwr
  obtain ⟨hm, hk⟩ := hk _ _ _ h
  refine ⟨hm, fun H locs ls ad cells slots I => ?_⟩
  obtain ⟨cell, g1, g2, g3, g4, -, -⟩ := ac_arr I.rl hG.2.2.1 ha (by decide)
  have hal : a < M.1.length := (List.getElem?_eq_some_iff.mp ha).1
  exact W.last hx hb g1 g2 g3 (fun z => z.elim hn (fun z => absurd (Nat.lt_of_lt_of_le hlt g4) (Nat.not_lt.mpr z))) rfl rfl hd (fun H' e1 e2 e3 => hk H' _ ls ad cells slots
    (I.put (I.rl.set ha (am_wset (I.rl.2.2.2.1 a _ ha) ac_wf_long) e2 e3 (ac_ok_sta (v := .long y) hlt hro (I.rl.1 a _ ha) (by decide) (fun cell' hc => by rw [g1] at hc; cases hc; exact e1))) (I.sm.put e2 e3 (I.rl.2.2.1 a hro hal)) (am_ws_t (am_ws_t (am_ws_t I.ws)))))
theorem sd_bastore  (E : am_E p l R s m meth c D cA base t1 t2 sa q ad0 n0 c0 s0 r) (hk : am_S p l e R s m args below meth c D cA base q ad0 n0 c0 s0 Qt r (pc + len) k) (hck : am_ck q hs pc (.bastore, len, ops, v) = true) : am_S p l e R s m args below meth c D cA base q ad0 n0 c0 s0 Qt r pc (am_1 cal hs J some (.bastore, len, ops, v) k) := by
  obtain ⟨hx, hb, hml, hown, hret, hlk, hnm, hG, hbs, hfr, hlo, htr, had, hrc, hrs⟩ := E
  intro L st M hrun
  obtain ⟨hd, rfl⟩ := am_dk_ok (show am_dk q.2.1 pc (.bastore) 1 len = true from hck)
  obtain ⟨y, w, rfl, h⟩ := iv_I1 (show am_I1 st _ = some r from hrun)
  obtain ⟨x, w, rfl, h⟩ := iv_I1 h
  obtain ⟨a, w, rfl, h⟩ := iv_A1 h
  obtain ⟨j, h1, h⟩ := iv_b h
  obtain ⟨M', hwr, h⟩ := iv_b h
  obtain ⟨hn, rfl⟩ := iv_ix h1
  obtain ⟨fs, ha, hro, hlt, rfl⟩ := am_wr_iff.mp hwr
  obtain ⟨hm, hk⟩ := hk _ _ _ h
  refine ⟨hm, fun H locs ls ad cells slots I => ?_⟩
  obtain ⟨cell, g1, g2, g3, g4, -, -⟩ := ac_arr I.rl hG.2.2.1 ha (by decide)
  have hal : a < M.1.length := (List.getElem?_eq_some_iff.mp ha).1
  exact W.zast hx hb g1 g2 g3 (fun z => z.elim hn (fun z => absurd (Nat.lt_of_lt_of_le hlt g4) (Nat.not_lt.mpr z))) rfl rfl hd (fun H' e1 e2 e3 => hk H' _ ls ad cells slots
    (I.put (I.rl.set ha (am_wset (I.rl.2.2.2.1 a _ ha) ac_wf_int) e2 e3 (ac_ok_sta (v := .int (y &&& 1)) hlt hro (I.rl.1 a _ ha) (by decide) (fun cell' hc => by rw [g1] at hc; cases hc; exact e1))) (I.sm.put e2 e3 (I.rl.2.2.1 a hro hal)) (am_ws_t (am_ws_t (am_ws_t I.ws)))))
theorem sd_castore  (E : am_E p l R s m meth c D cA base t1 t2 sa q ad0 n0 c0 s0 r) (hk : am_S p l e R s m args below meth c D cA base q ad0 n0 c0 s0 Qt r (pc + len) k) (hck : am_ck q hs pc (.castore, len, ops, v) = true) : am_S p l e R s m args below meth c D cA base q ad0 n0 c0 s0 Qt r pc (am_1 cal hs J some (.castore, len, ops, v) k) := by
  obtain ⟨hx, hb, hml, hown, hret, hlk, hnm, hG, hbs, hfr, hlo, htr, had, hrc, hrs⟩ := E
  intro L st M hrun
  obtain ⟨hd, rfl⟩ := am_dk_ok (show am_dk q.2.1 pc (.castore) 1 len = true from hck)
  obtain ⟨y, w, rfl, h⟩ := iv_I1 (show am_I1 st _ = some r from hrun)
  obtain ⟨x, w, rfl, h⟩ := iv_I1 h
  obtain ⟨a, w, rfl, h⟩ := iv_A1 h
  obtain ⟨j, h1, h⟩ := iv_b h
  obtain ⟨M', hwr, h⟩ := iv_b h
  obtain ⟨hn, rfl⟩ := iv_ix h1
  obtain ⟨fs, ha, hro, hlt, rfl⟩ := am_wr_iff.mp hwr
  obtain ⟨hm, hk⟩ := hk _ _ _ h
  refine ⟨hm, fun H locs ls ad cells slots I => ?_⟩
  obtain ⟨cell, g1, g2, g3, g4, -, -⟩ := ac_arr I.rl hG.2.2.1 ha (by decide)
  have hal : a < M.1.length := (List.getElem?_eq_some_iff.mp ha).1
  exact W.cast hx hb g1 g2 g3 (fun z => z.elim hn (fun z => absurd (Nat.lt_of_lt_of_le hlt g4) (Nat.not_lt.mpr z))) rfl rfl hd (fun H' e1 e2 e3 => hk H' _ ls ad cells slots
    (I.put (I.rl.set ha (am_wset (I.rl.2.2.2.1 a _ ha) ac_wf_int) e2 e3 (ac_ok_sta (v := .int (vp_nar .char y)) hlt hro (I.rl.1 a _ ha) (by decide) (fun cell' hc => by rw [g1] at hc; cases hc; exact e1))) (I.sm.put e2 e3 (I.rl.2.2.1 a hro hal)) (am_ws_t (am_ws_t (am_ws_t I.ws)))))
theorem sd_aastore  (E : am_E p l R s m meth c D cA base t1 t2 sa q ad0 n0 c0 s0 r) (hk : am_S p l e R s m args below meth c D cA base q ad0 n0 c0 s0 Qt r (pc + len) k) (hck : am_ck q hs pc (.aastore, len, ops, v) = true) : am_S p l e R s m args below meth c D cA base q ad0 n0 c0 s0 Qt r pc (am_1 cal hs J some (.aastore, len, ops, v) k) := by
  obtain ⟨hx, hb, hml, hown, hret, hlk, hnm, hG, hbs, hfr, hlo, htr, had, hrc, hrs⟩ := E
  intro L st M hrun
  obtain ⟨h1, h2⟩ := am_an (show (am_dk q.2.1 pc .aastore 1 len && (Nat.ble 14 (ops.headD 0) && (Nat.blt (ops.headD 0) 17 && (Nat.blt (ops.getD 1 0) 10 && decide (ac_ty (ops.headD 0) = .object (ac_C (ops.getD 1 0))))))) = true from hck)
  obtain ⟨hd, rfl⟩ := am_dk_ok h1
  obtain ⟨h2, h3⟩ := am_an h2
  obtain ⟨h3, h4⟩ := am_an h3
  obtain ⟨h4, h5⟩ := am_an h4
  have h2 : 14 ≤ ops.headD 0 := Nat.le_of_ble_eq_true h2
  have h3 : ops.headD 0 < 17 := Nat.le_of_ble_eq_true h3
  have h4 : ops.getD 1 0 < 10 := Nat.le_of_ble_eq_true h4
  have h5 := of_decide_eq_true h5
  obtain ⟨y, w, rfl, h⟩ := iv_A1 (show am_A1 st _ = some r from hrun)
  obtain ⟨x, w, rfl, h⟩ := iv_I1 h
  obtain ⟨a, w, rfl, h⟩ := iv_A1 h
  obtain ⟨n9, h9, h⟩ := iv_b h
  obtain ⟨j, h6, h⟩ := iv_b h
  obtain ⟨M', hwr, h⟩ := iv_b h
  obtain ⟨hn, rfl⟩ := iv_ix h6
  obtain ⟨fs, ha, hro, hlt, rfl⟩ := am_wr_iff.mp hwr
  obtain ⟨fy, hy, -⟩ := am_ln_iff.mp h9
  obtain ⟨hm, hk⟩ := hk _ _ _ h
  refine ⟨hm, fun H locs ls ad cells slots I => ?_⟩
  have hal : a < M.1.length := (List.getElem?_eq_some_iff.mp ha).1
  obtain ⟨-, -, cellY, y1, y2, y3, -⟩ := (I.rl.1 y _ hy).1 h4
  obtain ⟨-, hl, hA, -⟩ := (I.rl.1 a _ ha).2 (by show 10 ≤ ops.headD 0; omega)
  have hA := hA hro
  obtain ⟨-, hRA⟩ := hG.2.2.1 (ops.headD 0) (by omega) h3
  rw [h5] at hRA
  obtain ⟨kA, comp, a1, a2, a3, a4⟩ := hRA
  obtain ⟨-, hfc, kC, hkC, hkind⟩ := hG.2.1 _ h4
  have e9 : comp = D.1 (ops.getD 1 0) := Option.some.inj (a3.symm.trans hfc)
  subst e9
  have hin : x.toNatClampNeg < (arrV (cA (ops.headD 0)) fs.length (fun i => ac ad (fs.getD i .null))).slots.size := by rw [arrV_size]; exact hlt
  exact W.aast hx hb hA (fun _ h => by cases h) (fun h => by cases h) a1 a2 rfl hkC ⟨hn, hin⟩ y1 (fun _ h => by rw [y3] at h; cases h) (by rw [y2]; exact hkC) (by rw [y2]; exact va_asg _ _) rfl rfl hd (fun H' e1 e2 e3 => hk H' _ ls ad cells slots
    (I.put (I.rl.set ha (am_wset (I.rl.2.2.2.1 a _ ha) (am_ws_h I.ws)) e2 e3 (ac_ok_sta (v := .ref y) hlt hro (I.rl.1 a _ ha) (by show 10 ≤ ops.headD 0; omega) (fun cell' hc => by rw [hA] at hc; cases hc; exact e1))) (I.sm.put e2 e3 (I.rl.2.2.1 a hro hal)) (am_ws_t (am_ws_t (am_ws_t I.ws)))))
theorem sd_arraylength  (E : am_E p l R s m meth c D cA base t1 t2 sa q ad0 n0 c0 s0 r) (hk : am_S p l e R s m args below meth c D cA base q ad0 n0 c0 s0 Qt r (pc + len) k) (hck : am_ck q hs pc (.arraylength, len, ops, v) = true) : am_S p l e R s m args below meth c D cA base q ad0 n0 c0 s0 Qt r pc (am_1 cal hs J some (.arraylength, len, ops, v) k) := by
  obtain ⟨hx, hb, hml, hown, hret, hlk, hnm, hG, hbs, hfr, hlo, htr, had, hrc, hrs⟩ := E
  intro L st M hrun
  obtain ⟨h1, h2⟩ := am_an (show (am_dk q.2.1 pc .arraylength 1 len && (Nat.ble 10 (ops.headD 0) && Nat.blt (ops.headD 0) 17)) = true from hck)
  obtain ⟨hd, rfl⟩ := am_dk_ok h1
  obtain ⟨h2, h3⟩ := am_an h2
  have h2 : 10 ≤ ops.headD 0 := Nat.le_of_ble_eq_true h2
  obtain ⟨a, w, rfl, h⟩ := iv_A1 (show am_A1 st _ = some r from hrun)
  obtain ⟨n9, h9, h⟩ := iv_b h
  obtain ⟨fs, ha, rfl⟩ := am_ln_iff.mp h9
  obtain ⟨hm, hk⟩ := hk _ _ _ h
  refine ⟨hm, fun H locs ls ad cells slots I => ?_⟩
  obtain ⟨cell, g1, g2, g3, g4, g5, -⟩ := ac_arr I.rl hG.2.2.1 ha h2
  exact W.alen hx hb g1 g2 g5 rfl rfl hd (hk H locs ls ad cells slots (I.stk (am_ws_c ac_wf_int (am_ws_t I.ws))))
theorem sd_getstatic {j : Nat} (E : am_E p l R s m meth c D cA base t1 t2 sa q ad0 n0 c0 s0 r) (hk : am_S p l e R s m args below meth c D cA base q ad0 n0 c0 s0 Qt r (pc + len) k) (hck : am_ck q hs pc (.getstatic j, len, ops, v) = true) : am_S p l e R s m args below meth c D cA base q ad0 n0 c0 s0 Qt r pc (am_1 cal hs J some (.getstatic j, len, ops, v) k) := by
  obtain ⟨hx, hb, hml, hown, hret, hlk, hnm, hG, hbs, hfr, hlo, htr, had, hrc, hrs⟩ := E
  intro L st M hrun
  obtain ⟨h1, h2⟩ := am_an hck
  obtain ⟨hd, rfl⟩ := am_dk_ok h1
  obtain ⟨hm, hk⟩ := hk _ _ _ (show k L (.ref (ops.headD 0) :: st) M = some r from hrun)
  refine ⟨hm, fun H locs ls ad cells slots I => ?_⟩
  have hS : va_S (ac_A base) s.heap H locs := I.sm
  dsimp only at h2
  split at h2
  · rename_i a w t
    have hn0 := I.2.1
    simp only [Bool.or_eq_true, Bool.and_eq_true] at h2
    rcases h2 with ⟨g1, g2⟩ | ⟨g1, g2⟩
    · have e1 := Nat.eq_of_beq_eq_true g1
      subst e1
      have e2 : ad 1 = t1 := (I.1 1 (by omega)).trans had.1
      refine va_gets hx hb hG.2.2.2.1 hS hown (hG.word g2 args) (fun _ h => h) hd ?_
      have hk2 := hk H locs ls ad cells slots (I.stk (am_ws_c (ac_wf_ref (by show 1 < _; omega)) I.ws))
      rw [← e2]
      exact hk2
    · have e1 := Nat.eq_of_beq_eq_true g1
      subst e1
      have e2 : ad 2 = t2 := (I.1 2 (by omega)).trans had.2.1
      refine va_gets hx hb hG.2.2.2.2.1 hS hown (hG.word g2 args) (fun _ h => h) hd ?_
      have hk2 := hk H locs ls ad cells slots (I.stk (am_ws_c (ac_wf_ref (by show 2 < _; omega)) I.ws))
      rw [← e2]
      exact hk2
  · exact nomatch h2
theorem sd_ineg  (E : am_E p l R s m meth c D cA base t1 t2 sa q ad0 n0 c0 s0 r) (hk : am_S p l e R s m args below meth c D cA base q ad0 n0 c0 s0 Qt r (pc + len) k) (hck : am_ck q hs pc (.ineg, len, ops, v) = true) : am_S p l e R s m args below meth c D cA base q ad0 n0 c0 s0 Qt r pc (am_1 cal hs J some (.ineg, len, ops, v) k) := by
  obtain ⟨hx, hb, hml, hown, hret, hlk, hnm, hG, hbs, hfr, hlo, htr, had, hrc, hrs⟩ := E
  intro L st M hrun
  obtain ⟨hd, rfl⟩ := am_dk_ok (show am_dk q.2.1 pc (.ineg) 1 len = true from hck)
  obtain ⟨x, w, rfl, h⟩ := iv_I1 (show am_I1 st _ = some r from hrun)
  obtain ⟨hm, hk⟩ := hk _ _ _ h
  refine ⟨hm, fun H locs ls ad cells slots I => lv_ineg hx hb hd ?_⟩
  have hk2 := hk H locs ls ad cells slots (I.stk (am_ws_c ac_wf_int (am_ws_t I.ws)))
  rw [Int32.zero_sub] at hk2
  exact hk2
end SIM2
end
section
/-! ONE INSTRUCTION: switches, what is made, ends -/
theorem iv_sw {β : Type} {z : β} {J : Nat → aL → List Value → aM → Option β} {x : Int32} {d : Nat} {lv : List Nat} {L : aL} {st : List Value} {M : aM} : ∀ (ts : List Nat) (n : Nat), am_sw J x d lv L st M n ts = some z →
    (∃ i t, ts[i]? = some t ∧ x = nI (n + i) ∧ J t (am_pj lv L) st M = some z) ∨ ((∀ i, i < ts.length → x ≠ nI (n + i)) ∧ J d (am_pj lv L) st M = some z)
  | [], n, h => Or.inr ⟨fun i hi => absurd hi (Nat.not_lt_zero i), h⟩
  | t :: r, n, h => by
    have h : (if x = nI n then J t (am_pj lv L) st M else am_sw J x d lv L st M (n + 1) r) = some z := h
    by_cases e : x = nI n
    · rw [if_pos e] at h
      exact Or.inl ⟨0, t, rfl, e, h⟩
    · rw [if_neg e] at h
      rcases iv_sw r (n + 1) h with ⟨i, t', h1, h2, h3⟩ | ⟨h1, h2⟩
      · exact Or.inl ⟨i + 1, t', h1, by rw [h2]; congr 1; omega, h3⟩
      · refine Or.inr ⟨fun i hi => ?_, h2⟩
        cases i with
        | zero => exact e
        | succ i =>
          have := h1 i (by simpa using hi)
          rw [show n + (i + 1) = n + 1 + i by omega]
          exact this
/-- the heap has grown -/
theorem ac_R.grow {D : va_G} {cA : Nat → ClassId} {base : Nat} {ad : Nat → Nat} {M : aM} {U : State} {H H1 : Heap} (h : ac_R D cA base ad M U H) (hs : H.size ≤ H1.size) (hq : ∀ q, q < H.size → H1[q]? = H[q]?) : ac_R D cA base ad M U H1 :=
  ⟨fun k c hc => (h.1 k c hc).kept (hq _ (h.1 k c hc).lt), h.2.1, h.2.2.1, h.2.2.2.1, Nat.le_trans h.2.2.2.2 hs⟩
theorem ac_R.mk1 {D : va_G} {cA : Nat → ClassId} {base : Nat} {ad : Nat → Nat} {M : aM} {U : State} {H H1 : Heap} (hR : ac_R D cA base ad M U H) (hs : H.size ≤ H1.size) (hq1 : ∀ q, q < H.size → H1[q]? = H[q]?) {ad' : Nat → Nat} (he : ∀ k, k < M.1.length → ad' k = ad k) (hq : ad' M.1.length = H.size) {c : aC} (hv : ∀ v ∈ c.2, ac_wf M.1.length v) {x : Nat × Nat}
    (hn : ac_ok D cA base ad' U H1 M.1.length c) : ac_R D cA base ad' (M.1 ++ [c], x) U H1 := by
  obtain ⟨r1, r2, r3, r4, r5⟩ := id hR
  have hl : (M.1 ++ [c]).length = M.1.length + 1 := by simp
  refine ⟨fun k d hd => ?_, fun i j hi hj e => ?_, fun k h1 h2 => ?_, fun k d hd => ?_, by omega⟩
  · have hd : (M.1 ++ [c])[k]? = some d := hd
    by_cases e : k < M.1.length
    · rw [List.getElem?_append_left e] at hd
      refine ((r1 k d hd).ext he e (r4 k d hd)).kept ?_
      rw [he k e]
      exact hq1 _ (hR.lt e)
    · have hk : k = M.1.length := by
        have := (List.getElem?_eq_some_iff.mp hd).1
        omega
      subst hk
      have : d = c := by simpa using hd.symm
      subst this
      exact hn
  · have hi : i < (M.1 ++ [c]).length := hi
    have hj : j < (M.1 ++ [c]).length := hj
    rw [hl] at hi hj
    by_cases e1 : i < M.1.length <;> by_cases e2 : j < M.1.length
    · rw [he i e1, he j e2] at e
      exact r2 i j e1 e2 e
    · have : j = M.1.length := by omega
      subst this
      rw [he i e1, hq] at e
      have := hR.lt e1
      omega
    · have : i = M.1.length := by omega
      subst this
      rw [he j e2, hq] at e
      have := hR.lt e2
      omega
    · omega
  · have h2 : k < (M.1 ++ [c]).length := h2
    rw [hl] at h2
    by_cases e1 : k < M.1.length
    · rw [he k e1]; exact r3 k h1 e1
    · have : k = M.1.length := by omega
      subst this
      rw [hq]; exact r5
  · have hd : (M.1 ++ [c])[k]? = some d := hd
    show ∀ v ∈ d.2, ac_wf (M.1 ++ [c]).length v
    rw [hl]
    intro v hv'
    by_cases e : k < M.1.length
    · rw [List.getElem?_append_left e] at hd
      exact ac_wf_le (r4 k d hd v hv') (Nat.le_succ _)
    · have hk : k = M.1.length := by
        have := (List.getElem?_eq_some_iff.mp hd).1
        omega
      subst hk
      have : d = c := by simpa using hd.symm
      subst this
      exact ac_wf_le (hv v hv') (Nat.le_succ _)
theorem arrV_congr {cI : ClassId} {N : Nat} {f g : Nat → Value} (h : ∀ j, j < N → f j = g j) : arrV cI N f = arrV cI N g := by
  have e : (Array.ofFn (n := N) fun j => f j.val) = (Array.ofFn (n := N) fun j => g j.val) := by
    congr 1
    funext j
    exact h j.val j.isLt
  unfold arrV
  rw [e]
theorem am_map_ext {ad ad' : Nat → Nat} {n : Nat} {st : List Value} (he : ∀ k, k < n → ad' k = ad k) (h : am_ws n st) : st.map (ac ad') = st.map (ac ad) := List.map_congr_left fun v hv => ac_ext he (h v hv)
theorem am_lc_ext {ad ad' : Nat → Nat} {n : Nat} {L : aL} (he : ∀ k, k < n → ad' k = ad k) (h : am_wl n L) : am_lc ad' L = am_lc ad L := List.map_congr_left fun q hq => by rw [ac_ext he (h q hq)]
theorem ac_def (ad : Nat → Nat) (t : FieldType) : ac ad (defaultValue t) = defaultValue t := by cases t <;> rfl
/-- the addresses with one more -/
def ac_nx (ad : Nat → Nat) (n a : Nat) : Nat → Nat := fun k => if k = n then a else ad k
theorem ac_nx_lt {ad : Nat → Nat} {n a : Nat} (k : Nat) (h : k < n) : ac_nx ad n a k = ad k := if_neg (by omega)
theorem ac_nx_n {ad : Nat → Nat} {n a : Nat} : ac_nx ad n a n = a := if_pos rfl
section
variable {D : va_G} {cA : Nat → ClassId} {base : Nat} {q : aS} {ad0 : Nat → Nat} {n0 c0 s0 : Nat} {s : State} {L : aL} {st : List Value} {M : aM} {H : Heap} {locs : List Loc} {ls : Array Slot} {ad : Nat → Nat} {cells slots : Nat}
theorem am_I.mk {st' : List Value} {x : aC} {H' : Heap} (I : am_I D cA base q ad0 n0 c0 s0 s L st M H locs ls ad cells slots) (hs : H.size ≤ H'.size) (hq : ∀ q, q < H.size → H'[q]? = H[q]?) (hv : ∀ v ∈ x.2, ac_wf M.1.length v) (hn : ac_ok D cA base (ac_nx ad M.1.length H.size) s H' M.1.length x) (hw : am_ws M.1.length st') :
    am_I D cA base q ad0 n0 c0 s0 s L (.ref M.1.length :: st') (am_nw M x.1 x.2) H' locs ls (ac_nx ad M.1.length H.size) (cells + 1) (slots + x.2.length) := by
  have hl : (M.1 ++ [x]).length = M.1.length + 1 := by simp
  obtain ⟨i1, i2, i3, i4, i5, i6, i7, i8, i9⟩ := I
  refine ⟨fun k hk => (ac_nx_lt k (by omega)).trans (i1 k hk), ?_, i3.mk1 hs hq ac_nx_lt ac_nx_n hv hn, ⟨Nat.le_trans i4.1 hs, fun z h1 h2 => ?_, i4.2.2⟩, ?_, ?_, ?_, ?_, ?_⟩
  · show n0 ≤ (M.1 ++ [x]).length
    omega
  · rw [hq z (Nat.lt_of_lt_of_le h1 i4.1)]
    exact i4.2.1 z h1 h2
  · rw [am_lc_ext ac_nx_lt i6]
    exact i5
  · show am_wl (M.1 ++ [x]).length L
    exact fun z hz => ac_wf_le (i6 z hz) (by omega)
  · show am_ws (M.1 ++ [x]).length _
    exact am_ws_c (ac_wf_ref (by omega)) (fun z hz => ac_wf_le (hw z hz) (by omega))
  · show M.2.1 + 1 = _
    omega
  · show M.2.2 + x.2.length = _
    omega
end
def ac_Qc (D : va_G) (cA : Nat → ClassId) (base : Nat) (ad0 : Nat → Nat) (n0 : Nat) (r : aR) : Array Value → State → Outcome → State → Prop := fun _ st o t =>
  (∃ (v : Option Value) (ad : Nat → Nat), r.1 = .inl v ∧ o = .returned (v.map (ac ad)) ∧ (∀ k, k < n0 → ad k = ad0 k) ∧ n0 ≤ r.2.1.length ∧ ac_R D cA base ad r.2 t t.heap ∧ (∀ x, v = some x → ac_wf r.2.1.length x)) ∧ va_F (ac_A base) st t
def ac_XC (D : va_G) (cA : Nat → ClassId) (base : Nat) (ad0 : Nat → Nat) (n0 : Nat) (r : aR) : String → State → State → Prop := fun E st t =>
  (∃ (e : Nat) (ad : Nat → Nat), r.1 = .inr e ∧ e < 5 ∧ E = ac_E e ∧ (∀ k, k < n0 → ad k = ad0 k) ∧ n0 ≤ r.2.1.length ∧ ac_R D cA base ad r.2 t t.heap) ∧ va_F (ac_A base) st t
abbrev am_Q (D : va_G) (cA : Nat → ClassId) (base : Nat) (ad0 : Nat → Nat) (n0 : Nat) (r : aR) (below : List Frame) (args : Array Value) (s : State) (mc ms : Nat) : State → Prop := vx_MQ below (ac_Qc D cA base ad0 n0 r) (ac_XC D cA base ad0 n0 r) args s mc ms (ac_A base)
theorem am_thrw : ∀ q ∈ am_thr, q.2 ≠ 2 → ∀ w ∈ vx_atS "ActorMachine" q.1 (ac_E q.2) am_nms, (decide (w ∈ lw_tbl) && (am_okw w && vx_ot w)) = true := by decide +kernel
theorem am_thrf : ∀ e, e < 5 → Bundle.fit (ac_E e) = true := by decide +kernel
theorem am_nmsf : ∀ n ∈ am_nms, Bundle.fit n = true := by decide +kernel
section SIM3
variable {p : Program} {l : Launch} {e : Env} {R : Room} {s : State} {m : MethodId} {args : Array Value} {below : List Frame} {meth : Method} {c : Code} {D : va_G} {cA : Nat → ClassId} {base t1 t2 : Nat} {sa : Nat → Nat} {q : aS} {ad0 : Nat → Nat} {n0 c0 s0 : Nat} {Qt : State → Prop} {r : aR}
variable {cal : aY} {hs : List aH} {J : Nat → aL → List Value → aM → Option aR} {k : aL → List Value → aM → Option aR} {pc len : Nat} {ops : List Nat} {v : Value}
theorem sd_tableswitch {d lo hi : Int} {offs : Array Int} (E : am_E p l R s m meth c D cA base t1 t2 sa q ad0 n0 c0 s0 r) (hJ : ∀ z, am_S p l e R s m args below meth c D cA base q ad0 n0 c0 s0 Qt r z (J z)) (hck : am_ck q hs pc (.tableswitch d lo hi offs, len, ops, v) = true) : am_S p l e R s m args below meth c D cA base q ad0 n0 c0 s0 Qt r pc (am_1 cal hs J some (.tableswitch d lo hi offs, len, ops, v) k) := by
  obtain ⟨hx, hb, hml, hown, hret, hlk, hnm, hG, hbs, hfr, hlo, htr, had, hrc, hrs⟩ := E
  intro L st M hrun
  obtain ⟨h1, h2⟩ := am_an hck
  obtain ⟨hd, -⟩ := am_dk_ok h1
  have h3 : ∃ n dd mm w, ops = n :: dd :: mm :: w ∧ (n : Int) = lo ∧ (pc : Int) + d = (dd : Int) ∧ offs.toList.map (fun x => (pc : Int) + x) = (w.drop mm).map (fun (x : Nat) => (x : Int)) ∧ hi = lo + ((w.drop mm).length : Int) - 1 ∧ n + (w.drop mm).length ≤ 1000 := by
    dsimp only at h2
    split at h2
    · obtain ⟨g1, g2⟩ := am_an h2
      obtain ⟨g2, g3⟩ := am_an g2
      obtain ⟨g3, g4⟩ := am_an g3
      obtain ⟨g4, g5⟩ := am_an g4
      exact ⟨_, _, _, _, rfl, of_decide_eq_true g1, of_decide_eq_true g2, of_decide_eq_true g3, of_decide_eq_true g4, Nat.le_of_ble_eq_true g5⟩
    · exact nomatch h2
  obtain ⟨n, dd, mm, w, rfl, hlo2, hdd, hoffs, hhi, hlen⟩ := h3
  obtain ⟨x, w', rfl, h⟩ := iv_I1 (show am_I1 st _ = some r from hrun)
  rcases iv_sw (w.drop mm) n h with ⟨i, t, h4, h5, h6⟩ | ⟨h4, h6⟩
  · obtain ⟨hm, hk⟩ := hJ _ _ _ _ h6
    have hi2 := (List.getElem?_eq_some_iff.mp h4).1
    have hxi : x.toInt = ((n + i : Nat) : Int) := by rw [h5]; exact nI_toInt (by omega)
    have hoff : ∃ off, offs[i]? = some off ∧ (pc : Int) + off = (t : Int) := by
      have e1 : (offs.toList.map (fun x => (pc : Int) + x))[i]? = some (t : Int) := by rw [hoffs, List.getElem?_map, h4]; rfl
      rw [List.getElem?_map] at e1
      cases ho : offs.toList[i]? with
      | none => rw [ho] at e1; exact nomatch e1
      | some off =>
        rw [ho] at e1
        exact ⟨off, by rw [← Array.getElem?_toList]; exact ho, Option.some.inj e1⟩
    obtain ⟨off, ho, ht⟩ := hoff
    have hidx : (x.toInt - lo).toNat = i := by omega
    exact ⟨hm, fun H locs ls ad cells slots I => lv_tableIn hx hb hd (by omega) (by omega) (by rw [hidx]; exact ho) ht (hk H locs ls ad cells slots (I.pj _ (am_ws_t I.ws)))⟩
  · obtain ⟨hm, hk⟩ := hJ _ _ _ _ h6
    have hout : x.toInt < lo ∨ hi < x.toInt := by
      rcases Int.lt_or_le x.toInt lo with h | h
      · exact Or.inl h
      · rcases Int.lt_or_le hi x.toInt with h' | h'
        · exact Or.inr h'
        · have hx0 : ¬ x < 0 := fun hz => by
            have := Int32.lt_iff_toInt_lt.mp hz
            have e0 : (0 : Int32).toInt = 0 := rfl
            omega
          obtain ⟨j, hj, e9⟩ := nI_of hx0
          have e8 : x.toInt = (j : Int) := by rw [e9]; exact nI_toInt hj
          exact absurd (by rw [e9]; congr 1; omega) (h4 (j - n) (by omega))
    exact ⟨hm, fun H locs ls ad cells slots I => lv_tableOut hx hb hd hout hdd (hk H locs ls ad cells slots (I.pj _ (am_ws_t I.ws)))⟩
theorem sd_newarray {at_ : ArrayType} (E : am_E p l R s m meth c D cA base t1 t2 sa q ad0 n0 c0 s0 r) (hk : am_S p l e R s m args below meth c D cA base q ad0 n0 c0 s0 Qt r (pc + len) k) (hck : am_ck q hs pc (.newarray at_, len, ops, v) = true) : am_S p l e R s m args below meth c D cA base q ad0 n0 c0 s0 Qt r pc (am_1 cal hs J some (.newarray at_, len, ops, v) k) := by
  obtain ⟨hx, hb, hml, hown, hret, hlk, hnm, hG, hbs, hfr, hlo, htr, had, hrc, hrs⟩ := E
  intro L st M hrun
  obtain ⟨h1, h2⟩ := am_an (show (am_dk q.2.1 pc (.newarray at_) 2 len && (Nat.ble 10 (ops.headD 0) && (Nat.blt (ops.headD 0) 14 && (decide (newarray.typeOf at_ = ac_ty (ops.headD 0)) && am_at (ops.getD 1 0) (.arrayClass (ac_ty (ops.headD 0))))))) = true from hck)
  obtain ⟨hd, rfl⟩ := am_dk_ok h1
  obtain ⟨h2, h3⟩ := am_an h2
  obtain ⟨h3, h4⟩ := am_an h3
  obtain ⟨h4, h5⟩ := am_an h4
  have h2 : 10 ≤ ops.headD 0 := Nat.le_of_ble_eq_true h2
  have h3 : ops.headD 0 < 14 := Nat.le_of_ble_eq_true h3
  have h4 := of_decide_eq_true h4
  obtain ⟨x, w, rfl, h⟩ := iv_I1 (show am_I1 st _ = some r from hrun)
  obtain ⟨j, h6, h⟩ := iv_b h
  obtain ⟨hn, rfl⟩ := iv_ix h6
  obtain ⟨h7, h⟩ := iv_c h
  have h7 : x.toNatClampNeg ≤ 1000 := Nat.le_of_ble_eq_true h7
  generalize hN : x.toNatClampNeg = N at h h7
  generalize hkd : ops.headD 0 = kd at h2 h3 h4 h5
  have h : k L (.ref M.1.length :: w) (am_nw M kd (List.replicate N (am_dv kd))) = some r := by rw [← hkd]; exact h
  obtain ⟨hm, hk⟩ := hk _ _ _ h
  refine ⟨⟨Nat.le_trans (Nat.le_add_right _ _) hm.1, Nat.le_trans (Nat.le_add_right _ _) hm.2⟩, fun H locs ls ad cells slots I => ?_⟩
  have hm1 : M.2.1 + 1 ≤ r.2.2.1 := hm.1
  have hm2 : M.2.2 + N ≤ r.2.2.2 := by have := hm.2; simpa [am_nw] using this
  have hc1 : M.2.1 = c0 + cells := I.2.2.2.2.2.2.2.1
  have hc2 : M.2.2 = s0 + slots := I.2.2.2.2.2.2.2.2
  have hdv : am_dv kd = defaultValue (ac_ty kd) := by
    have : kd = 10 ∨ kd = 11 ∨ kd = 12 ∨ kd = 13 := by omega
    rcases this with h | h | h | h <;> rw [h] <;> rfl
  have hcb : componentBytes (ac_ty kd) ≤ 8 := by
    have : kd = 10 ∨ kd = 11 ∨ kd = 12 ∨ kd = 13 := by omega
    rcases this with h | h | h | h <;> rw [h] <;> decide
  refine W.newa hx hb (by rw [h4]; exact hG.word h5 args) rfl hd rfl hn (by rw [hN, h4]; calc N * componentBytes (ac_ty kd) ≤ 1000 * 8 := Nat.mul_le_mul h7 hcb
                                                                              _ ≤ _ := by decide) (by omega) (by rw [hN]; omega) (fun cA' kA comp f1 f2 f3 => ?_)
  rw [hN, h4] at *
  have e9 : cA' = cA kd := by
    have hRA := (hG.2.2.1 kd h2 (by omega)).2
    have hRA : s.vm.findClass ("[" ++ (ac_ty kd).toString) = some (cA kd) := by
      have : kd = 10 ∨ kd = 11 ∨ kd = 12 ∨ kd = 13 := by omega
      rcases this with h | h | h | h <;> rw [h] at hRA ⊢ <;> exact hRA
    exact Option.some.inj (f1.symm.trans hRA)
  subst e9
  have hsz : H.size ≤ (H.push { cls := cA kd, slots := Array.replicate N (defaultValue (ac_ty kd)), vm := .none }).size := by rw [Array.size_push]; omega
  have hqq : ∀ z, z < H.size → (H.push { cls := cA kd, slots := Array.replicate N (defaultValue (ac_ty kd)), vm := .none })[z]? = H[z]? := fun z hz => by rw [Array.getElem?_push_lt hz, Array.getElem?_eq_getElem hz]
  have I2 := I.mk (x := (kd, List.replicate N (am_dv kd))) (st' := w) hsz hqq (fun v hv => by rw [List.eq_of_mem_replicate hv, hdv]; cases ac_ty kd <;> exact fun a h => nomatch h) ?_ (am_ws_t I.ws)
  · have hk2 := hk _ locs ls _ (cells + 1) (slots + N) (by simpa using I2)
    have e1 : ((Value.ref M.1.length :: w).map (ac (ac_nx ad M.1.length H.size))) = .ref H.size :: w.map (ac ad) := by
      show Value.ref (ac_nx ad M.1.length H.size M.1.length) :: w.map (ac (ac_nx ad M.1.length H.size)) = _
      rw [ac_nx_n, am_map_ext ac_nx_lt (am_ws_t I.ws)]
    rw [e1] at hk2
    exact hk2
  · refine ⟨fun h => absurd h (Nat.not_lt.mpr h2), fun _ => ⟨by show kd < 17; omega, by show (List.replicate N (am_dv kd)).length < 2 ^ 31; rw [List.length_replicate]; omega, fun _ => ?_, fun h => ?_⟩⟩
    · show (H.push _)[ac_nx ad M.1.length H.size M.1.length]? = _
      rw [ac_nx_n, Array.getElem?_push_size, arrV_new]
      show some (arrV (cA kd) N _) = some (arrV (cA kd) (List.replicate N (am_dv kd)).length _)
      rw [List.length_replicate]
      refine congrArg some (arrV_congr fun j hj => ?_)
      show defaultValue (ac_ty kd) = ac _ ((List.replicate N (am_dv kd)).getD j .null)
      rw [am_getD (v := am_dv kd) (by simp [hj]), hdv, ac_def]
    · have := I.2.1
      have h : M.1.length < 3 := h
      omega
theorem sd_anewarray {j : Nat} (E : am_E p l R s m meth c D cA base t1 t2 sa q ad0 n0 c0 s0 r) (hk : am_S p l e R s m args below meth c D cA base q ad0 n0 c0 s0 Qt r (pc + len) k) (hck : am_ck q hs pc (.anewarray j, len, ops, v) = true) : am_S p l e R s m args below meth c D cA base q ad0 n0 c0 s0 Qt r pc (am_1 cal hs J some (.anewarray j, len, ops, v) k) := by
  obtain ⟨hx, hb, hml, hown, hret, hlk, hnm, hG, hbs, hfr, hlo, htr, had, hrc, hrs⟩ := E
  intro L st M hrun
  obtain ⟨h1, h2⟩ := am_an (show (am_dk q.2.1 pc (.anewarray j) 3 len && (Nat.ble 14 (ops.headD 0) && (Nat.blt (ops.headD 0) 17 && (am_at (ops.getD 1 0) (.classLink q.1.cls j (ac_cn (ops.headD 0))) && am_at (ops.getD 2 0) (.arrayOver (.object (ac_cn (ops.headD 0)))))))) = true from hck)
  obtain ⟨hd, rfl⟩ := am_dk_ok h1
  obtain ⟨h2, h3⟩ := am_an h2
  obtain ⟨h3, h4⟩ := am_an h3
  obtain ⟨h4, h5⟩ := am_an h4
  have h2 : 14 ≤ ops.headD 0 := Nat.le_of_ble_eq_true h2
  have h3 : ops.headD 0 < 17 := Nat.le_of_ble_eq_true h3
  obtain ⟨x, w, rfl, h⟩ := iv_I1 (show am_I1 st _ = some r from hrun)
  obtain ⟨j', h6, h⟩ := iv_b h
  obtain ⟨hn, rfl⟩ := iv_ix h6
  obtain ⟨h7, h⟩ := iv_c h
  have h7 : x.toNatClampNeg ≤ 1000 := Nat.le_of_ble_eq_true h7
  generalize hN : x.toNatClampNeg = N at h h7
  generalize hkd : ops.headD 0 = kd at h2 h3 h4 h5
  have h : k L (.ref M.1.length :: w) (am_nw M kd (List.replicate N .null)) = some r := by rw [← hkd]; exact h
  obtain ⟨hm, hk⟩ := hk _ _ _ h
  refine ⟨⟨Nat.le_trans (Nat.le_add_right _ _) hm.1, Nat.le_trans (Nat.le_add_right _ _) hm.2⟩, fun H locs ls ad cells slots I => ?_⟩
  have hm1 : M.2.1 + 1 ≤ r.2.2.1 := hm.1
  have hm2 : M.2.2 + N ≤ r.2.2.2 := by have := hm.2; simpa [am_nw] using this
  have hc1 : M.2.1 = c0 + cells := I.2.2.2.2.2.2.2.1
  have hc2 : M.2.2 = s0 + slots := I.2.2.2.2.2.2.2.2
  have hty : ac_ty kd = .object (ac_cn kd) := by
    have : kd = 14 ∨ kd = 15 ∨ kd = 16 := by omega
    rcases this with h | h | h <;> rw [h] <;> rfl
  refine W.anew hx hb hown (hG.word h4 args) (hG.word h5 args) rfl hd rfl hn (by rw [hN]; omega) (by omega) (by rw [hN]; omega) (fun cA' kA comp f1 f2 f3 f4 => ?_)
  rw [hN] at *
  have e9 : cA' = cA kd := by
    have hRA := (hG.2.2.1 kd (by omega) h3).2
    rw [hty] at hRA
    obtain ⟨_, _, -, -, -, g9⟩ := hRA
    exact Option.some.inj (f1.symm.trans g9)
  subst e9
  have hsz : H.size ≤ (H.push { cls := cA kd, slots := Array.replicate N .null, vm := .none }).size := by rw [Array.size_push]; omega
  have hqq : ∀ z, z < H.size → (H.push { cls := cA kd, slots := Array.replicate N .null, vm := .none })[z]? = H[z]? := fun z hz => by rw [Array.getElem?_push_lt hz, Array.getElem?_eq_getElem hz]
  have I2 := I.mk (x := (kd, List.replicate N .null)) (st' := w) hsz hqq (fun v hv => by rw [List.eq_of_mem_replicate hv]; exact ac_wf_null) ?_ (am_ws_t I.ws)
  · have hk2 := hk _ locs ls _ (cells + 1) (slots + N) (by simpa using I2)
    have e1 : ((Value.ref M.1.length :: w).map (ac (ac_nx ad M.1.length H.size))) = .ref H.size :: w.map (ac ad) := by
      show Value.ref (ac_nx ad M.1.length H.size M.1.length) :: w.map (ac (ac_nx ad M.1.length H.size)) = _
      rw [ac_nx_n, am_map_ext ac_nx_lt (am_ws_t I.ws)]
    rw [e1] at hk2
    exact hk2
  · refine ⟨fun h => absurd h (Nat.not_lt.mpr (by show 10 ≤ kd; omega)), fun _ => ⟨by show kd < 17; omega, by show (List.replicate N Value.null).length < 2 ^ 31; rw [List.length_replicate]; omega, fun _ => ?_, fun h => ?_⟩⟩
    · show (H.push _)[ac_nx ad M.1.length H.size M.1.length]? = _
      rw [ac_nx_n, Array.getElem?_push_size, arrV_new]
      show some (arrV (cA kd) N _) = some (arrV (cA kd) (List.replicate N Value.null).length _)
      rw [List.length_replicate]
      refine congrArg some (arrV_congr fun j hj => ?_)
      show Value.null = ac _ ((List.replicate N Value.null).getD j .null)
      rw [am_getD (v := .null) (by simp [hj])]
      rfl
    · have := I.2.1
      have h : M.1.length < 3 := h
      omega
theorem sd_newobj {j : Nat} (E : am_E p l R s m meth c D cA base t1 t2 sa q ad0 n0 c0 s0 r) (hk : am_S p l e R s m args below meth c D cA base q ad0 n0 c0 s0 Qt r (pc + len) k) (hne : ops.headD 0 ≠ 999) (hck : am_ck q hs pc (.new j, len, ops, v) = true) : am_S p l e R s m args below meth c D cA base q ad0 n0 c0 s0 Qt r pc (am_1 cal hs J some (.new j, len, ops, v) k) := by
  obtain ⟨hx, hb, hml, hown, hret, hlk, hnm, hG, hbs, hfr, hlo, htr, had, hrc, hrs⟩ := E
  intro L st M hrun
  obtain ⟨h1, h2⟩ := am_an hck
  obtain ⟨hd, rfl⟩ := am_dk_ok h1
  have h3 : ∃ ci w1 w2 w3, ci < 10 ∧ am_at w1 (.classLink q.1.cls j (ac_C ci)) = true ∧ am_at w2 (.instantiable (ac_C ci) (ac_N ci)) = true ∧ am_at w3 (.initialized (ac_C ci)) = true ∧ k L (.ref M.1.length :: st) (am_nw M ci (am_df ci)) = some r := by
    dsimp only at h2
    split at h2
    · exact absurd rfl hne
    · rename_i ci z w1 w2 w3 t hh
      obtain ⟨g1, g2⟩ := am_an h2
      obtain ⟨g2, g3⟩ := am_an g2
      obtain ⟨g3, g4⟩ := am_an g3
      have g1 : ci < 10 := Nat.le_of_ble_eq_true g1
      have e0 : Nat.beq ci 999 = false := by
        cases hb : Nat.beq ci 999 with
        | false => rfl
        | true => have := Nat.eq_of_beq_eq_true hb; omega
      have hrun : (bif Nat.beq ci 999 then (bif Nat.beq (am_cs st) 0 then some (.inr z, am_tk M 1 6) else none) else k L (.ref M.1.length :: st) (am_nw M ci (am_df ci))) = some r := hrun
      rw [e0] at hrun
      exact ⟨ci, w1, w2, w3, g1, g2, g3, g4, hrun⟩
    · exact nomatch h2
  obtain ⟨ci, w1, w2, w3, hci, g2, g3, g4, h⟩ := h3
  obtain ⟨hm, hk⟩ := hk _ _ _ h
  obtain ⟨hdl, hdf⟩ := ac_dfok ci hci
  refine ⟨⟨Nat.le_trans (Nat.le_add_right _ _) hm.1, Nat.le_trans (Nat.le_add_right _ _) hm.2⟩, fun H locs ls ad cells slots I => ?_⟩
  have hm1 : M.2.1 + 1 ≤ r.2.2.1 := hm.1
  have hm2 : M.2.2 + ac_N ci ≤ r.2.2.2 := by have := hm.2; rw [← hdl]; exact this
  have hc1 : M.2.1 = c0 + cells := I.2.2.2.2.2.2.2.1
  have hc2 : M.2.2 = s0 + slots := I.2.2.2.2.2.2.2.2
  obtain ⟨hS, hfc, kC0, hkC0, hkind⟩ := hG.2.1 ci hci
  refine W.newcK hx hb hown (hG.word g2 args) (hG.word g3 args) (hG.word g4 args) rfl hd (by omega) (by omega) hfc rfl (fun H' kC f1 f2 f3 f4 => ?_)
  have I2 := I.mk (x := (ci, am_df ci)) (st' := st) (H' := H') (by omega) f4 (fun v hv => ?_) ?_ I.ws
  · have hk2 := hk _ locs ls _ (cells + 1) (slots + ac_N ci) (by rw [← hdl]; exact I2)
    have e1 : ((Value.ref M.1.length :: st).map (ac (ac_nx ad M.1.length H.size))) = .ref H.size :: st.map (ac ad) := by
      show Value.ref (ac_nx ad M.1.length H.size M.1.length) :: st.map (ac (ac_nx ad M.1.length H.size)) = _
      rw [ac_nx_n, am_map_ext ac_nx_lt I.ws]
    rw [e1] at hk2
    exact hk2
  · obtain ⟨i, hi⟩ := List.getElem?_of_mem hv
    have hil := (List.getElem?_eq_some_iff.mp hi).1
    rw [hdl] at hil
    have := hdf i hil
    rw [am_getD hi] at this
    rw [this]
    cases ac_F ci i <;> exact fun a h => nomatch h
  · refine ⟨fun _ => ⟨hdl, ?_, blank (D.1 ci) kC, ?_, rfl, rfl, fun k hk => ?_⟩, fun h => absurd hci (Nat.not_lt.mpr h)⟩
    · have := I.2.1
      show 3 ≤ M.1.length
      omega
    · rw [ac_nx_n]; exact f2
    · obtain ⟨cf, kf, fi, fd, hi, he⟩ := hS k hk
      have h3 := (u_facts hfc f1 (ac_lay hG hci hk args) hi).2.2
      rw [(State.fieldFound?_type hi (ac_tok ci hci k hk)).2] at h3
      rw [← he]
      show _ = some (ac _ ((am_df ci).getD k .null))
      rw [hdf k hk, ac_def]
      exact k2_blank h3
theorem sd_ireturn  {mc ms : Nat} (E : am_E p l R s m meth c D cA base t1 t2 sa q ad0 n0 c0 s0 r) (hmc : r.2.2.1 = c0 + mc) (hms : r.2.2.2 = s0 + ms) (hck : am_ck q hs pc (.ireturn, len, ops, v) = true) : am_S p l e R s m args below meth c D cA base q ad0 n0 c0 s0 (am_Q D cA base ad0 n0 r below args s mc ms) r pc (am_1 cal hs J some (.ireturn, len, ops, v) k) := by
  obtain ⟨hx, hb, hml, hown, hret, hlk, hnm, hG, hbs, hfr, hlo, htr, had, hrc, hrs⟩ := E
  intro L st M hrun
  obtain ⟨h1, h2⟩ := am_an hck
  obtain ⟨hd, rfl⟩ := am_dk_ok h1
  have h3 : ∃ t, q.2.2.2.1 = some t ∧ ops.headD 0 = ac_fc t ∧ (t = .int ∨ t = .boolean ∨ t = .char) := by
    dsimp only at h2
    split at h2
    · rename_i t ht
      obtain ⟨g1, g2⟩ := am_an h2
      exact ⟨t, ht, Nat.eq_of_beq_eq_true g1, of_decide_eq_true g2⟩
    · exact nomatch h2
  obtain ⟨t, ht, ho, htt⟩ := h3
  have h4 : ∃ x, st = [.int x] ∧ am_ft (ops.headD 0) (.int x) = true ∧ r = (.inl (some (.int x)), M) := by
    simp only [am_1] at hrun
    split at hrun
    · obtain ⟨g1, g2⟩ := iv_c hrun
      exact ⟨_, rfl, g1, (Option.some.inj g2).symm⟩
    · exact nomatch hrun
  obtain ⟨x, rfl, hft, rfl⟩ := h4
  refine ⟨⟨Nat.le_refl _, Nat.le_refl _⟩, fun H locs ls ad cells slots I => ?_⟩
  obtain ⟨i1, i2, i3, i4, i5, i6, i7, i8, i9⟩ := I
  have e1 : cells = mc := by have : M.2.1 = c0 + mc := hmc; omega
  have e2 : slots = ms := by have : M.2.2 = s0 + ms := hms; omega
  subst e1; subst e2
  rw [ho] at hft
  refine vx_ret (W.zret hx hb (hret.trans ht) (am_ft_ok (ad := ad) hft).1 (fun t' ht' hW => ⟨⟨some (.int x), ad, rfl, rfl, i1, i2, ?_, fun y hy => by cases hy; exact ac_wf_int⟩, i4.F ht'⟩) i4.2.2 hd hlk)
  rw [ht']
  exact i3.moved hW.alike
theorem sd_lreturn  {mc ms : Nat} (E : am_E p l R s m meth c D cA base t1 t2 sa q ad0 n0 c0 s0 r) (hmc : r.2.2.1 = c0 + mc) (hms : r.2.2.2 = s0 + ms) (hck : am_ck q hs pc (.lreturn, len, ops, v) = true) : am_S p l e R s m args below meth c D cA base q ad0 n0 c0 s0 (am_Q D cA base ad0 n0 r below args s mc ms) r pc (am_1 cal hs J some (.lreturn, len, ops, v) k) := by
  obtain ⟨hx, hb, hml, hown, hret, hlk, hnm, hG, hbs, hfr, hlo, htr, had, hrc, hrs⟩ := E
  intro L st M hrun
  obtain ⟨h1, h2⟩ := am_an (show (am_dk q.2.1 pc .lreturn 1 len && decide (q.2.2.2.1 = some .long)) = true from hck)
  obtain ⟨hd, rfl⟩ := am_dk_ok h1
  have h2 := of_decide_eq_true h2
  have h4 : ∃ x, st = [.long x] ∧ r = (.inl (some (.long x)), M) := by
    simp only [am_1] at hrun
    split at hrun
    · exact ⟨_, rfl, (Option.some.inj hrun).symm⟩
    · exact nomatch hrun
  obtain ⟨x, rfl, rfl⟩ := h4
  refine ⟨⟨Nat.le_refl _, Nat.le_refl _⟩, fun H locs ls ad cells slots I => ?_⟩
  obtain ⟨i1, i2, i3, i4, i5, i6, i7, i8, i9⟩ := I
  have e1 : cells = mc := by have : M.2.1 = c0 + mc := hmc; omega
  have e2 : slots = ms := by have : M.2.2 = s0 + ms := hms; omega
  subst e1; subst e2
  refine vx_ret (W.lret hx hb (hret.trans h2) (fun t' ht' hW => ⟨⟨some (.long x), ad, rfl, rfl, i1, i2, ?_, fun y hy => by cases hy; exact ac_wf_long⟩, i4.F ht'⟩) i4.2.2 hd hlk)
  rw [ht']
  exact i3.moved hW.alike
theorem sd_areturn  {mc ms : Nat} (E : am_E p l R s m meth c D cA base t1 t2 sa q ad0 n0 c0 s0 r) (hmc : r.2.2.1 = c0 + mc) (hms : r.2.2.2 = s0 + ms) (hck : am_ck q hs pc (.areturn, len, ops, v) = true) : am_S p l e R s m args below meth c D cA base q ad0 n0 c0 s0 (am_Q D cA base ad0 n0 r below args s mc ms) r pc (am_1 cal hs J some (.areturn, len, ops, v) k) := by
  obtain ⟨hx, hb, hml, hown, hret, hlk, hnm, hG, hbs, hfr, hlo, htr, had, hrc, hrs⟩ := E
  intro L st M hrun
  obtain ⟨h1, h2⟩ := am_an hck
  obtain ⟨hd, rfl⟩ := am_dk_ok h1
  have h3 : ∃ t, q.2.2.2.1 = some (.object t) := by
    try dsimp only at h2
    split at h2
    · rename_i t ht
      exact ⟨t, ht⟩
    · exact nomatch h2
  obtain ⟨t, ht⟩ := h3
  have h4 : ∃ x, st = [.ref x] ∧ r = (.inl (some (.ref x)), M) := by
    simp only [am_1] at hrun
    split at hrun
    · exact ⟨_, rfl, (Option.some.inj hrun).symm⟩
    · exact nomatch hrun
  obtain ⟨x, rfl, rfl⟩ := h4
  refine ⟨⟨Nat.le_refl _, Nat.le_refl _⟩, fun H locs ls ad cells slots I => ?_⟩
  obtain ⟨i1, i2, i3, i4, i5, i6, i7, i8, i9⟩ := I
  have e1 : cells = mc := by have : M.2.1 = c0 + mc := hmc; omega
  have e2 : slots = ms := by have : M.2.2 = s0 + ms := hms; omega
  subst e1; subst e2
  refine vx_ret (W.aret hx hb (hret.trans ht) (Or.inl ⟨t, rfl⟩) (Or.inr ⟨ad x, rfl⟩) (fun t' ht' hW => ⟨⟨some (.ref x), ad, rfl, rfl, i1, i2, ?_, fun y hy => by cases hy; exact am_ws_h i7⟩, i4.F ht'⟩) i4.2.2 hd hlk)
  rw [ht']
  exact i3.moved hW.alike
theorem sd_return  {mc ms : Nat} (E : am_E p l R s m meth c D cA base t1 t2 sa q ad0 n0 c0 s0 r) (hmc : r.2.2.1 = c0 + mc) (hms : r.2.2.2 = s0 + ms) (hck : am_ck q hs pc (.return_, len, ops, v) = true) : am_S p l e R s m args below meth c D cA base q ad0 n0 c0 s0 (am_Q D cA base ad0 n0 r below args s mc ms) r pc (am_1 cal hs J some (.return_, len, ops, v) k) := by
  obtain ⟨hx, hb, hml, hown, hret, hlk, hnm, hG, hbs, hfr, hlo, htr, had, hrc, hrs⟩ := E
  intro L st M hrun
  obtain ⟨h1, h2⟩ := am_an (show (am_dk q.2.1 pc .return_ 1 len && decide (q.2.2.2.1 = none)) = true from hck)
  obtain ⟨hd, rfl⟩ := am_dk_ok h1
  have h2 := of_decide_eq_true h2
  have h4 : st = [] ∧ r = (.inl none, M) := by
    simp only [am_1] at hrun
    split at hrun
    · exact ⟨rfl, (Option.some.inj hrun).symm⟩
    · exact nomatch hrun
  obtain ⟨rfl, rfl⟩ := h4
  refine ⟨⟨Nat.le_refl _, Nat.le_refl _⟩, fun H locs ls ad cells slots I => ?_⟩
  obtain ⟨i1, i2, i3, i4, i5, i6, i7, i8, i9⟩ := I
  have e1 : cells = mc := by have : M.2.1 = c0 + mc := hmc; omega
  have e2 : slots = ms := by have : M.2.2 = s0 + ms := hms; omega
  subst e1; subst e2
  refine vx_ret (W.vret hx hb (hret.trans h2) (fun t' ht' hW => ⟨⟨none, ad, rfl, rfl, i1, i2, ?_, fun y hy => nomatch hy⟩, i4.F ht'⟩) i4.2.2 hd hlk)
  rw [ht']
  exact i3.moved hW.alike
end SIM3
end
section
/-! CALLS AND THROWS -/
def am_tb (q : aS) (c : Code) : Prop := (q.2.2.2.2.1 = [] → ∀ x ∈ c.exceptionTable.toList, False) ∧ (q.2.2.2.2.1 ≠ [] → c.exceptionTable.toList = tableOf q.2.2.2.2.1)
def ac_Pc (D : va_G) (cA : Nat → ClassId) (base t1 t2 : Nat) (sa : Nat → Nat) (ad : Nat → Nat) (M : aM) (as : List Value) : Array Value → State → Prop := fun v U => v = (as.map (ac ad)).toArray ∧ ac_G D cA base t1 t2 sa U U.heap ∧ ac_R D cA base ad M U U.heap
def am_rm (d mc ms : Nat) : Room := { frames := d + 8, cells := mc, slots := ms, locals := 64 * d + 200 }
def am_Snd (l : Launch) (D : va_G) (cA : Nat → ClassId) (base t1 t2 : Nat) (sa : Nat → Nat) (d : Nat) (cal : aY) : Prop := ∀ (mi : Nat) (as : List Value) (M : aM) (r : aR), mi < 157 → am_at (am_sp mi).2.2.2.2.2 (am_cw (am_sp mi)) = true → cal mi as M = some r →
  (M.2.1 ≤ r.2.2.1 ∧ M.2.2 ≤ r.2.2.2) ∧ ∀ (ad : Nat → Nat) (mc ms : Nat), ad 1 = t1 → ad 2 = t2 → 3 ≤ M.1.length → am_ws M.1.length as → r.2.2.1 = M.2.1 + mc → r.2.2.2 = M.2.2 + ms →
    vx_Met l (am_sp mi).1 [am_cw (am_sp mi)] (am_rm d mc ms) (ac_Pc D cA base t1 t2 sa ad M as) (ac_Qc D cA base ad M.1.length r) (ac_XC D cA base ad M.1.length r) mc ms (ac_A base)
theorem ac_Pc_blind {D : va_G} {cA : Nat → ClassId} {base t1 t2 : Nat} {sa : Nat → Nat} {ad : Nat → Nat} {M : aM} {as : List Value} : FrameBlind (ac_Pc D cA base t1 t2 sa ad M as) := fun a U g mk h =>
  ⟨h.1, ac_G.go (s := U) (U := U.calling g mk a) (State.WarmedH.refl U) (fun _ _ _ => rfl) h.2.1, ac_R.moved (u := U) (U := U.calling g mk a) (Vm.Alike.refl U.vm) h.2.2⟩
theorem ac_Pc_at {D : va_G} {cA : Nat → ClassId} {base t1 t2 : Nat} {sa : Nat → Nat} {ad : Nat → Nat} {M : aM} {as : List Value} {s : State} {H : Heap} {locs : List Loc} (hG : ac_G D cA base t1 t2 sa s s.heap) (hR : ac_R D cA base ad M s H) (hS : va_S (ac_A base) s.heap H locs) : ∀ U : State, U.heap = H → s.WarmedH U.vm → ac_Pc D cA base t1 t2 sa ad M as ((as.map (ac ad)).toArray) U := fun U hU hW =>
  ⟨rfl, by rw [hU]; exact hG.go hW hS.2.1, by rw [hU]; exact hR.moved hW.alike⟩
theorem am_cs0 {st : List Value} (h : am_cs st = 0) : st = [] := by
  cases st with
  | nil => rfl
  | cons v r =>
    have h : v.category + am_cs r = 0 := by simpa [am_cs] using h
    have h1 : 1 ≤ v.category := by cases v <;> simp [Value.category]
    omega
theorem am_cs_map (ad : Nat → Nat) (st : List Value) : ((st.map (ac ad)).map fun v => v.category).sum = am_cs st := by
  unfold am_cs
  rw [List.map_map]
  congr 1
  apply List.map_congr_left
  intro v _
  exact ac_cat ad v
theorem iv_cI {o : Option aR} {k : Int32 → aM → Option aR} {x : Nat → aM → Option aR} {z : aR} (h : am_cI o k x = some z) : ∃ out M1, o = some (out, M1) ∧ ((∃ v, out = .inl (some (.int v)) ∧ k v M1 = some z) ∨ ∃ e, out = .inr e ∧ x e M1 = some z) := by
  unfold am_cI at h
  split at h
  · exact ⟨_, _, rfl, Or.inl ⟨_, rfl, h⟩⟩
  · exact ⟨_, _, rfl, Or.inr ⟨_, rfl, h⟩⟩
  · exact nomatch h
theorem iv_cJ {o : Option aR} {k : Int64 → aM → Option aR} {x : Nat → aM → Option aR} {z : aR} (h : am_cJ o k x = some z) : ∃ out M1, o = some (out, M1) ∧ ((∃ v, out = .inl (some (.long v)) ∧ k v M1 = some z) ∨ ∃ e, out = .inr e ∧ x e M1 = some z) := by
  unfold am_cJ at h
  split at h
  · exact ⟨_, _, rfl, Or.inl ⟨_, rfl, h⟩⟩
  · exact ⟨_, _, rfl, Or.inr ⟨_, rfl, h⟩⟩
  · exact nomatch h
theorem iv_cA {o : Option aR} {k : Nat → aM → Option aR} {x : Nat → aM → Option aR} {z : aR} (h : am_cA o k x = some z) : ∃ out M1, o = some (out, M1) ∧ ((∃ v, out = .inl (some (.ref v)) ∧ k v M1 = some z) ∨ ∃ e, out = .inr e ∧ x e M1 = some z) := by
  unfold am_cA at h
  split at h
  · exact ⟨_, _, rfl, Or.inl ⟨_, rfl, h⟩⟩
  · exact ⟨_, _, rfl, Or.inr ⟨_, rfl, h⟩⟩
  · exact nomatch h
theorem iv_cV {o : Option aR} {k : aM → Option aR} {x : Nat → aM → Option aR} {z : aR} (h : am_cV o k x = some z) : ∃ out M1, o = some (out, M1) ∧ ((out = .inl none ∧ k M1 = some z) ∨ ∃ e, out = .inr e ∧ x e M1 = some z) := by
  unfold am_cV at h
  split at h
  · exact ⟨_, _, rfl, Or.inl ⟨rfl, h⟩⟩
  · exact ⟨_, _, rfl, Or.inr ⟨_, rfl, h⟩⟩
  · exact nomatch h
/-- what comes back from a call's row -/
theorem iv_iv {cal : aY} {hs : List aH} {J : Nat → aL → List Value → aM → Option aR} {R : aR → Option aR} {mm n rk h : Nat} {o : List Nat} {k : aL → List Value → aM → Option aR} {L : aL} {st : List Value} {M : aM} {z : aR} (hh : am_iv cal hs J R (mm :: n :: rk :: h :: o) k L st M = some z) :
    n ≤ st.length ∧ am_cs (st.drop n) ≤ 8 ∧ ∃ out M1, cal mm (st.take n).reverse M = some (out, M1) ∧ ((∃ v, out = .inl v ∧ k L (v.toList ++ st.drop n) M1 = some z) ∨ ∃ e, out = .inr e ∧ am_ct J R (hs.getD h []) e L M1 = some z) := by
  simp only [am_iv] at hh
  obtain ⟨h1, h2⟩ := iv_c hh
  obtain ⟨h1, h3⟩ := am_an h1
  refine ⟨Nat.le_of_ble_eq_true h1, Nat.le_of_ble_eq_true h3, ?_⟩
  split at h2
  · obtain ⟨out, M1, h4, ⟨v, h5, h6⟩ | ⟨x, h5, h6⟩⟩ := iv_cI h2
    · exact ⟨out, M1, h4, Or.inl ⟨_, h5, h6⟩⟩
    · exact ⟨out, M1, h4, Or.inr ⟨x, h5, h6⟩⟩
  · obtain ⟨out, M1, h4, ⟨v, h5, h6⟩ | ⟨x, h5, h6⟩⟩ := iv_cJ h2
    · exact ⟨out, M1, h4, Or.inl ⟨_, h5, h6⟩⟩
    · exact ⟨out, M1, h4, Or.inr ⟨x, h5, h6⟩⟩
  · obtain ⟨out, M1, h4, ⟨v, h5, h6⟩ | ⟨x, h5, h6⟩⟩ := iv_cA h2
    · exact ⟨out, M1, h4, Or.inl ⟨_, h5, h6⟩⟩
    · exact ⟨out, M1, h4, Or.inr ⟨x, h5, h6⟩⟩
  · obtain ⟨out, M1, h4, ⟨h5, h6⟩ | ⟨x, h5, h6⟩⟩ := iv_cV h2
    · exact ⟨out, M1, h4, Or.inl ⟨none, h5, h6⟩⟩
    · exact ⟨out, M1, h4, Or.inr ⟨x, h5, h6⟩⟩
section SIM4
variable {p : Program} {l : Launch} {e : Env} {R : Room} {s : State} {m : MethodId} {args : Array Value} {below : List Frame} {meth : Method} {c : Code} {D : va_G} {cA : Nat → ClassId} {base t1 t2 : Nat} {sa : Nat → Nat} {q : aS} {ad0 : Nat → Nat} {n0 c0 s0 : Nat} {Qt : State → Prop} {r : aR}
variable {cal : aY} {hs : List aH} {J : Nat → aL → List Value → aM → Option aR} {k : aL → List Value → aM → Option aR} {pc len : Nat} {ops : List Nat} {v : Value}
/-- behind a call: the answer and the memory, or what was thrown -/
theorem am_back {L : aL} {st rest : List Value} {M : aM} {H : Heap} {locs : List Loc} {ls : Array Slot} {ad : Nat → Nat} {cells slots mc' ms' : Nat} {r' : aR} {As : Array Value} {g : JFrame} (I : am_I D cA base q ad0 n0 c0 s0 s L st M H locs ls ad cells slots) (hg : g = F0 m pc ls (st.map (ac ad))) (hw : am_ws M.1.length rest) (hmc : r'.2.2.1 = M.2.1 + mc') (hms : r'.2.2.2 = M.2.2 + ms')
    (hr : vx_Run p l e R s m args below meth c H locs cells slots mc' ms' g (rest.map (ac ad)) (ac_Qc D cA base ad M.1.length r' As) (ac_XC D cA base ad M.1.length r') (ac_A base))
    (kret : ∀ (v : Option Value) (H1 : Heap) (locs1 : List Loc) (ad1 : Nat → Nat), r'.1 = .inl v → am_I D cA base q ad0 n0 c0 s0 s L (v.toList ++ rest) r'.2 H1 locs1 ls ad1 (cells + mc') (slots + ms') → W p l e R s m args below meth c H1 locs1 (cells + mc') (slots + ms') Qt (F0 m (pc + 3) ls ((v.toList ++ rest).map (ac ad1))))
    (kthr : ∀ (x : Nat) (H1 : Heap) (locs1 : List Loc) (ad1 : Nat → Nat) (qq : Nat) (ce : Cell), r'.1 = .inr x → x < 5 → am_I D cA base q ad0 n0 c0 s0 s L rest r'.2 H1 locs1 ls ad1 (cells + mc') (slots + ms') → H1[qq]? = some ce → ce.vm = .none → s.vm.findClass (ac_E x) = some ce.cls → vx_W p l e R s m args below meth c H1 locs1 (cells + mc') (slots + ms') Qt (F0 m pc ls (rest.map (ac ad1))) qq) :
    W p l e R s m args below meth c H locs cells slots Qt g := by
  obtain ⟨i1, i2, i3, i4, i5, i6, i7, i8, i9⟩ := I
  intro T hT X
  have key : ∀ (ad1 : Nat → Nat) (st₀ t T' : State) (L' : List Loc) (st1 : List Value), st₀.heap = H → T'.heap = t.heap → T'.vm = t.vm → s.WarmedH T'.vm → (∀ k, k < M.1.length → ad1 k = ad k) → M.1.length ≤ r'.2.1.length → ac_R D cA base ad1 r'.2 t t.heap → va_F (ac_A base) st₀ t → (∀ z ∈ L', ac_A base z.base) → am_ws r'.2.1.length st1 →
      am_I D cA base q ad0 n0 c0 s0 s L st1 r'.2 T'.heap (locs ++ L') ls ad1 (cells + mc') (slots + ms') := by
    intro ad1 st₀ t T' L' st1 h0 e1 e2 hW he hl hR1 hF hL hst
    refine ⟨fun z hz => (he z (by omega)).trans (i1 z hz), by omega, ?_, ?_, ?_, fun z hz => ac_wf_le (i6 z hz) hl, hst, by omega, by omega⟩
    · rw [e1]
      exact hR1.moved (by rw [← e2]; exact hW.alike.symm)
    · have hz := hF.1
      rw [h0] at hz
      refine ⟨by rw [e1]; exact Nat.le_trans i4.1 hz, fun z g1 g2 => ?_, fun z hz => ?_⟩
      · rw [e1, hF.2 z (by rw [h0]; exact Nat.lt_of_lt_of_le g1 i4.1) g2, h0]
        exact i4.2.1 z g1 g2
      · rcases List.mem_append.mp hz with h | h
        · exact i4.2.2 z h
        · exact hL z h
    · rw [am_lc_ext he i6]
      exact i5
  rcases hr T hT X with ⟨v, st₀, t, T', L', h0, X', hL, e1, e2, ⟨⟨v', ad1, hv, ho, he, hl, hR1, hwv⟩, hF⟩, go⟩ | ⟨qq, st₀, t, T', L', E, ce, h0, X', hL, e1, e2, ⟨⟨x, ad1, hx, hx5, hE, he, hl, hR1⟩, hF⟩, hce, hcv, hcl, go⟩
  · cases ho
    have hst : am_ws r'.2.1.length (v'.toList ++ rest) := fun z hz => by
      rcases List.mem_append.mp hz with h | h
      · exact hwv z (by cases v' with
          | none => exact nomatch h
          | some y => have := List.mem_singleton.mp h; rw [this])
      · exact ac_wf_le (hw z h) hl
    obtain ⟨t2, a1, b1⟩ := kret v' T'.heap (locs ++ L') ad1 hv (key ad1 st₀ t T' L' _ h0 e1 e2 X'.warmed he hl hR1 hF hL hst) T' rfl X'
    refine ⟨t2, go t2 ?_, b1⟩
    have e9 : (v'.toList ++ rest).map (ac ad1) = (v'.map (ac ad1)).toList ++ rest.map (ac ad) := by
      rw [List.map_append, am_map_ext he hw]
      cases v' <;> rfl
    rw [e9] at a1
    subst hg
    exact a1
  · subst hE
    obtain ⟨t2, a1, b1⟩ := kthr x T'.heap (locs ++ L') ad1 qq ce hx hx5 (key ad1 st₀ t T' L' _ h0 e1 e2 X'.warmed he hl hR1 hF hL (fun z hz => ac_wf_le (hw z hz) hl)) (by rw [e1]; exact hce) hcv hcl T' rfl X'
    refine ⟨t2, go.trans ?_, b1⟩
    rw [am_map_ext he hw] at a1
    subst hg
    exact a1
end SIM4
end
section
/-! CALLS: handlers, static, virtual, constructors -/
section SIM5
variable {p : Program} {l : Launch} {e : Env} {R : Room} {s : State} {m : MethodId} {args : Array Value} {below : List Frame} {meth : Method} {c : Code} {D : va_G} {cA : Nat → ClassId} {base t1 t2 : Nat} {sa : Nat → Nat} {q : aS} {ad0 : Nat → Nat} {n0 c0 s0 : Nat} {Qt : State → Prop} {r : aR}
variable {cal : aY} {hs : List aH} {J : Nat → aL → List Value → aM → Option aR} {k : aL → List Value → aM → Option aR} {pc len : Nat} {ops : List Nat} {v : Value}
theorem am_cxo {x : Nat} (hx5 : x < 5) (hG : ac_G D cA base t1 t2 sa s s.heap) (hx : p.tables.exec = Jvm.exec) (hb : c.code = q.2.1) (hown : s.vm.findClass q.1.cls = some m.cls) (hJ : ∀ z, am_S p l e R s m args below meth c D cA base q ad0 n0 c0 s0 Qt r z (J z)) {L : aL} {M1 : aM} :
    ∀ (xs : List (Nat × Nat × Nat × Nat)) (hl : aH) (pre : List ExceptionTableEntry), c.exceptionTable.toList = pre ++ tableOf xs → (∀ z ∈ pre, covers z pc = false ∨ (z.catchType ≠ 0 ∧ ∃ nm : String, (Cond.classLink q.1.cls z.catchType nm).before args s = true ∧ va_Nc (ac_E x) nm s)) → am_hk q pc xs hl = true → am_cx J hl x L M1 = some r →
    (M1.2.1 ≤ r.2.2.1 ∧ M1.2.2 ≤ r.2.2.2) ∧ ∀ (H1 : Heap) (locs1 : List Loc) (ls : Array Slot) (ad1 : Nat → Nat) (cells1 slots1 qq : Nat) (ce : Cell) (rest : List Value), am_I D cA base q ad0 n0 c0 s0 s L rest M1 H1 locs1 ls ad1 cells1 slots1 → H1[qq]? = some ce → ce.vm = .none → s.vm.findClass (ac_E x) = some ce.cls → vx_W p l e R s m args below meth c H1 locs1 cells1 slots1 Qt (F0 m pc ls (rest.map (ac ad1))) qq := by
  intro xs
  induction xs with
  | nil =>
    intro hl pre _ _ hk hc
    cases hl with
    | nil => exact nomatch hc
    | cons h t => exact nomatch hk
  | cons y ys ih =>
    intro hl pre htab hpass hhk hc
    cases hl with
    | nil => exact nomatch hc
    | cons h t =>
      simp only [am_hk, Bool.and_eq_true, decide_eq_true_eq] at hhk
      obtain ⟨k1, k2, k3, k4, k5, k6, k7, k8, k9⟩ := hhk
      have k1 : y.1 ≤ pc := Nat.le_of_ble_eq_true k1
      have k2 : pc < y.2.1 := Nat.le_of_ble_eq_true k2
      have k3 : h.1 < 5 := Nat.le_of_ble_eq_true k3
      have k7 : 0 < y.2.2.2 := Nat.le_of_ble_eq_true k7
      have hcl : (Cond.classLink q.1.cls y.2.2.2 (ac_E h.1)).before args s = true := am_okw_at (State.WarmedH.refl s) rfl (hG.1 _ k5 rfl)
      have hca : (Cond.castable (ac_E h.1) (ac_E h.1)).before args s = true := am_okw_at (State.WarmedH.refl s) rfl (hG.1 _ k6 rfl)
      have hc : (bif Nat.beq x h.1 then J h.2.1 (am_pj h.2.2 L) [] M1 else am_cx J t x L M1) = some r := hc
      cases hbq : Nat.beq x h.1 with
      | true =>
        rw [hbq] at hc
        have e1 := Nat.eq_of_beq_eq_true hbq
        subst e1
        rw [k4] at hc
        obtain ⟨hm, hk⟩ := hJ _ _ _ _ hc
        refine ⟨hm, fun H1 locs1 ls ad1 cells1 slots1 qq ce rest I hq1 hq2 hq3 => ?_⟩
        refine vx_catch hown pre ⟨y.1, y.2.1, y.2.2.1, y.2.2.2⟩ (tableOf ys) htab hpass (by simp [covers, k1, k2]) (Nat.ne_of_gt k7) hcl hca hq1 hq2 hq3 ?_
        have fin : ∀ ls' : Array Slot, ls'.size = q.2.2.1 → lv_wf ls' → W p l e R s m args below meth c H1 locs1 cells1 slots1 Qt (F0 m h.2.1 ls' []) := fun ls' g1 g2 => hk H1 locs1 ls' ad1 cells1 slots1 (I.lo ⟨g1, g2, fun z hz => nomatch hz⟩ (fun z hz => nomatch hz) (fun z hz => nomatch hz))
        show W p l e R s m args below meth c H1 locs1 cells1 slots1 Qt (F0 m y.2.2.1 ls [.ref qq])
        split at k8
        · rename_i j hd
          obtain ⟨g1, g2⟩ := am_an k8
          have g2 := Nat.eq_of_beq_eq_true g2
          rw [g2] at fin
          exact lv_astore hx hb hd I.lv (Nat.le_of_ble_eq_true g1) rfl (fun ls' hl' => fin ls' hl'.1 hl'.2.1)
        · rename_i j hd
          obtain ⟨g1, g2⟩ := am_an k8
          have g2 := Nat.eq_of_beq_eq_true g2
          rw [g2] at fin
          exact lv_astore_n hx hb hd rfl I.lv (Nat.le_of_ble_eq_true g1) rfl (fun ls' hl' => fin ls' hl'.1 hl'.2.1)
        · exact nomatch k8
      | false =>
        rw [hbq] at hc
        have hne : x ≠ h.1 := fun e0 => by rw [e0, Nat.beq_refl] at hbq; exact nomatch hbq
        refine ih t (pre ++ [⟨y.1, y.2.1, y.2.2.1, y.2.2.2⟩]) (by rw [htab]; simp [tableOf]) (fun z hz => ?_) k9 hc
        rcases List.mem_append.mp hz with h1 | h1
        · exact hpass z h1
        · have h1 := List.mem_singleton.mp h1
          subst h1
          exact Or.inr ⟨Nat.ne_of_gt k7, _, hcl, hG.2.2.2.2.2.2.2.2 x h.1 hx5 k3 hne⟩
theorem am_thro {mc ms : Nat} (E : am_E p l R s m meth c D cA base t1 t2 sa q ad0 n0 c0 s0 r) (hmc : r.2.2.1 = c0 + mc) (hms : r.2.2.2 = s0 + ms) (hT : am_tb q c) (hJ : ∀ z, am_S p l e R s m args below meth c D cA base q ad0 n0 c0 s0 (am_Q D cA base ad0 n0 r below args s mc ms) r z (J z)) {h x : Nat} {L : aL} {M1 : aM} (hcki : am_cki q hs pc h = true) (hx5 : x < 5) (hct : am_ct J some (hs.getD h []) x L M1 = some r) :
    (M1.2.1 ≤ r.2.2.1 ∧ M1.2.2 ≤ r.2.2.2) ∧ ∀ (H1 : Heap) (locs1 : List Loc) (ls : Array Slot) (ad1 : Nat → Nat) (cells1 slots1 qq : Nat) (ce : Cell) (rest : List Value), am_I D cA base q ad0 n0 c0 s0 s L rest M1 H1 locs1 ls ad1 cells1 slots1 → H1[qq]? = some ce → ce.vm = .none → s.vm.findClass (ac_E x) = some ce.cls → vx_W p l e R s m args below meth c H1 locs1 cells1 slots1 (am_Q D cA base ad0 n0 r below args s mc ms) (F0 m pc ls (rest.map (ac ad1))) qq := by
  obtain ⟨hx, hb, hml, hown, hret, hlk, hnm, hG, hbs, hfr, hlo, htr, had, hrc, hrs⟩ := E
  unfold am_cki at hcki
  split at hcki
  · rename_i hh
    have hcki := of_decide_eq_true hcki
    rw [hcki] at hct
    have e1 : r = (.inr x, M1) := (Option.some.inj hct).symm
    subst e1
    refine ⟨⟨Nat.le_refl _, Nat.le_refl _⟩, fun H1 locs1 ls ad1 cells1 slots1 qq ce rest I hq1 hq2 hq3 => ?_⟩
    obtain ⟨i1, i2, i3, i4, i5, i6, i7, i8, i9⟩ := I
    have hmc : M1.2.1 = c0 + mc := hmc
    have hms : M1.2.2 = s0 + ms := hms
    refine vx_out (fun z hz => (hT.1 hh z hz).elim) hlk hq1 hq2 hq3 (fun t ht hal => ⟨⟨x, ad1, rfl, hx5, rfl, i1, i2, ?_⟩, i4.F ht⟩) i4.2.2 (by omega) (by omega)
    rw [ht]
    exact i3.moved hal
  · rename_i y ys hh
    have htab := hT.2 (by rw [hh]; exact List.cons_ne_nil _ _)
    rw [hh] at htab
    have hct2 : am_cx J (hs.getD h []) x L M1 = some r := by
      cases hg : hs.getD h [] with
      | nil => rw [hg] at hcki; exact nomatch hcki
      | cons a b => rw [hg] at hct; exact hct
    exact am_cxo hx5 hG hx hb hown hJ (y :: ys) (hs.getD h []) [] htab (fun z hz => nomatch hz) hcki hct2
theorem vx_toMet {l : Launch} {y : MethodName} {ws : List Cond} {rm : Room} {Pc : Array Value → State → Prop} {Qc : Array Value → State → Outcome → State → Prop} {XC : String → State → State → Prop} {mc ms : Nat} {free : Addr → Prop} (h : vx_Met l y ws rm Pc Qc XC mc ms free) (hn : ∀ E st t, ¬ XC E st t) : Met l y ws rm Pc Qc mc ms free := by
  intro p e h1 h2 h3 s m args below h4 h5 h6 h7
  obtain ⟨n, o, g1, g2, g3, g4⟩ := h p e h1 h2 h3 s m args below h4 h5 h6 h7
  refine ⟨n, o, g1, g2, g3, ?_⟩
  rcases g4 with g4 | ⟨z, -, E, ce, L, hx, -⟩
  · exact g4
  · exact absurd hx (hn _ _ _)
theorem va_toRun {H : Heap} {locs : List Loc} {cells slots mc ms : Nat} {g : JFrame} {rest : List Value} {Qa : State → Outcome → State → Prop} {XC : String → State → State → Prop} {free : Addr → Prop} (h : va_Run p l e R s m args below meth c H locs cells slots mc ms g rest Qa free) : vx_Run p l e R s m args below meth c H locs cells slots mc ms g rest Qa XC free := fun T hT X => Or.inl (h T hT X)
theorem am_goodc (w : aS) : GoodIn [am_cw w] [am_cw w] := fun x hx => by
  have e1 := List.mem_singleton.mp hx
  subst e1
  refine ⟨hx, Or.inl ?_⟩
  unfold am_cw
  split <;> rfl
theorem am_split (ad : Nat → Nat) (st : List Value) (n : Nat) : st.map (ac ad) = ((st.take n).reverse.map (ac ad)).reverse ++ (st.drop n).map (ac ad) := by
  rw [← List.map_reverse, List.reverse_reverse, ← List.map_append, List.take_append_drop]
theorem am_ws_take {n k : Nat} {st : List Value} (h : am_ws n st) : am_ws n (st.take k).reverse := fun z hz => h z (List.mem_of_mem_take (List.mem_reverse.mp hz))
theorem am_ws_drop {n k : Nat} {st : List Value} (h : am_ws n st) : am_ws n (st.drop k) := fun z hz => h z (List.mem_of_mem_drop hz)
theorem am_cxm (hJ : ∀ z, am_S p l e R s m args below meth c D cA base q ad0 n0 c0 s0 Qt r z (J z)) {x : Nat} {L : aL} {M1 : aM} : ∀ (hl : aH), am_cx J hl x L M1 = some r → M1.2.1 ≤ r.2.2.1 ∧ M1.2.2 ≤ r.2.2.2
  | [], h => nomatch h
  | h :: t, hc => by
    have hc : (bif Nat.beq x h.1 then J h.2.1 (am_pj h.2.2 L) [] M1 else am_cx J t x L M1) = some r := hc
    cases hb : Nat.beq x h.1 with
    | true => rw [hb] at hc; exact (hJ _ _ _ _ hc).1
    | false => rw [hb] at hc; exact am_cxm hJ t hc
theorem sd_invstatic {j : Nat} {mc ms : Nat} (E : am_E p l R s m meth c D cA base t1 t2 sa q ad0 n0 c0 s0 r) (hmc : r.2.2.1 = c0 + mc) (hms : r.2.2.2 = s0 + ms) (hT : am_tb q c) (hk : am_S p l e R s m args below meth c D cA base q ad0 n0 c0 s0 (am_Q D cA base ad0 n0 r below args s mc ms) r (pc + len) k) (hJ : ∀ z, am_S p l e R s m args below meth c D cA base q ad0 n0 c0 s0 (am_Q D cA base ad0 n0 r below args s mc ms) r z (J z)) {d : Nat} (hRd : d + 9 ≤ R.frames ∧ 64 * d + 264 ≤ R.locals) (hcal : am_Snd l D cA base t1 t2 sa d cal) (hn1 : ops.headD 0 ≠ 1001) (hn3 : ops.headD 0 ≠ 1003) (hck : am_ck q hs pc (.invokestatic j, len, ops, v) = true) : am_S p l e R s m args below meth c D cA base q ad0 n0 c0 s0 (am_Q D cA base ad0 n0 r below args s mc ms) r pc (am_1 cal hs J some (.invokestatic j, len, ops, v) k) := by
  obtain ⟨hx, hb, hml, hown, hret, hlk, hnm, hG, hbs, hfr, hlo, htr, had, hrc, hrs⟩ := E
  intro L st M hrun
  obtain ⟨h1, h2⟩ := am_an hck
  obtain ⟨hd, rfl⟩ := am_dk_ok h1
  have h3 : ∃ mm n rk h w1 w2 w3 t, ops = mm :: n :: rk :: h :: w1 :: w2 :: w3 :: t ∧ am_ckm [mm] n = true ∧ am_cki q hs pc h = true ∧ am_at (am_sp mm).2.2.2.2.2 (am_cw (am_sp mm)) = true ∧ am_at w1 (.methodLink q.1.cls j (am_sp mm).1) = true ∧ am_at w2 (.static (am_sp mm).1) = true ∧ am_at w3 (.initialized (am_sp mm).1.cls) = true := by
    dsimp only at h2
    split at h2
    · exact absurd rfl hn1
    · exact absurd rfl hn3
    · obtain ⟨g1, g2⟩ := am_an h2
      obtain ⟨g2, g3⟩ := am_an g2
      obtain ⟨g3, g4⟩ := am_an g3
      obtain ⟨g4, g5⟩ := am_an g4
      obtain ⟨g5, g6⟩ := am_an g5
      exact ⟨_, _, _, _, _, _, _, _, rfl, g1, g2, g3, g4, g5, g6⟩
    · exact nomatch h2
  obtain ⟨mm, n, rk, h, w1, w2, w3, t, rfl, a1, a2, a3, a4, a5, a6⟩ := h3
  obtain ⟨b1, b2⟩ := am_an a1
  obtain ⟨b2, b3⟩ := am_an b2
  obtain ⟨b3, b4⟩ := am_an b3
  have b1 : mm < 157 := Nat.le_of_ble_eq_true b1
  have b2 := of_decide_eq_true b2
  have b3 := of_decide_eq_true b3
  have b4 : (am_sp mm).2.2.1 ≤ 40 := Nat.le_of_ble_eq_true b4
  have hrun2 : am_iv cal hs J some (mm :: n :: rk :: h :: w1 :: w2 :: w3 :: t) k L st M = some r := by
    simp only [am_1] at hrun
    split at hrun
    · rename_i hh; cases hh; omega
    · rename_i hh; cases hh; omega
    · exact hrun
  obtain ⟨c1, c2, out, M1, hc, hres⟩ := iv_iv hrun2
  obtain ⟨hmono, hmet⟩ := hcal mm _ M (out, M1) b1 a3 hc
  have hM : M1.2.1 ≤ r.2.2.1 ∧ M1.2.2 ≤ r.2.2.2 := by
    rcases hres with ⟨y, -, hy⟩ | ⟨x, hxx, hy⟩
    · exact (hk _ _ _ hy).1
    · cases hh : hs.getD h [] with
      | nil =>
        rw [hh] at hy
        have e1 : r = (.inr x, M1) := (Option.some.inj hy).symm
        subst e1
        exact ⟨Nat.le_refl _, Nat.le_refl _⟩
      | cons u w =>
        rw [hh] at hy
        exact am_cxm hJ (u :: w) hy
  have hmono1 : M.2.1 ≤ M1.2.1 := hmono.1
  have hmono2 : M.2.2 ≤ M1.2.2 := hmono.2
  refine ⟨⟨Nat.le_trans hmono1 hM.1, Nat.le_trans hmono2 hM.2⟩, fun H locs ls ad cells slots I => ?_⟩
  obtain ⟨mc', emc⟩ : ∃ z, M1.2.1 = M.2.1 + z := ⟨M1.2.1 - M.2.1, by omega⟩
  obtain ⟨ms', ems⟩ : ∃ z, M1.2.2 = M.2.2 + z := ⟨M1.2.2 - M.2.2, by omega⟩
  have i2 := I.2.1
  have i8 : M.2.1 = c0 + cells := I.2.2.2.2.2.2.2.1
  have i9 : M.2.2 = s0 + slots := I.2.2.2.2.2.2.2.2
  have met := hmet ad mc' ms' ((I.1 1 (by omega)).trans had.1) ((I.1 2 (by omega)).trans had.2.1) (by omega) (am_ws_take I.ws) emc ems
  have hlen : ((st.take n).reverse.map (ac ad)).length = n := by simp [c1]
  have hp : PreS s H (ac_Pc D cA base t1 t2 sa ad M (st.take n).reverse) ((st.take n).reverse.map (ac ad)) := ⟨ac_Pc_blind, ac_Pc_at hG I.rl I.sm⟩
  have hWs : 2 * (F0 m pc ls (st.map (ac ad))).monitorRoom + (((st.drop n).map (ac ad)).map fun v => v.category).sum ≤ 8 := by
    rw [am_cs_map, show (F0 m pc ls (st.map (ac ad))).monitorRoom = 0 from rfl]
    omega
  have hf : cells + mc' ≤ R.cells ∧ slots + ms' ≤ R.slots := ⟨by omega, by omega⟩
  have hwords : ∀ w ∈ [am_cw (am_sp mm)], w.before args s = true := fun w hw => by rw [List.mem_singleton.mp hw]; exact hG.word a3 args
  have run : vx_Run p l e R s m args below meth c H locs cells slots mc' ms' (F0 m pc ls (st.map (ac ad))) ((st.drop n).map (ac ad)) (ac_Qc D cA base ad M.1.length (out, M1) ((st.take n).reverse.map (ac ad)).toArray) (ac_XC D cA base ad M.1.length (out, M1)) (ac_A base) := by
    cases hhh : (am_sp mm).2.2.2.2.1 with
    | nil =>
      have ecw : [am_cw (am_sp mm)] = Cond.code (am_sp mm).1 (am_sp mm).2.1 (am_sp mm).2.2.1 (am_sp mm).2.2.2.1 :: [] := by
        unfold am_cw
        rw [hhh]
      exact vx_runS ⟨hx, hb, hml, hown, hwords⟩ met ⟨callB_of n hwords (am_goodc _) ecw rfl rfl (hG.word a6 args) (hG.word a4 args) ⟨b3.1, b3.2, b2⟩ ⟨hRd.1, by have := hRd.2; show 8 + ((am_sp mm).2.2.1 + 11) + (64 * d + 200) ≤ R.locals; omega⟩, hG.word a5 args⟩ hp rfl hlen I.lv.1 (am_split ad st n) hWs hd hf
    | cons y ys =>
      have ecw : [am_cw (am_sp mm)] = Cond.codeWith (am_sp mm).1 (am_sp mm).2.1 (am_sp mm).2.2.1 (am_sp mm).2.2.2.1 (y :: ys) :: [] := by
        unfold am_cw
        rw [hhh]
      have hgood : GoodIn (va_wsS q.1.cls j (am_sp mm).1 [am_cw (am_sp mm)]) (va_wsS q.1.cls j (am_sp mm).1 [am_cw (am_sp mm)]) := fun w hw => by
        refine ⟨hw, Or.inl ?_⟩
        have hw : w ∈ [Cond.methodLink q.1.cls j (am_sp mm).1, Cond.static (am_sp mm).1, Cond.initialized (am_sp mm).1.cls, am_cw (am_sp mm)] := hw
        simp only [List.mem_cons, List.not_mem_nil, or_false] at hw
        rcases hw with rfl | rfl | rfl | rfl
        · rfl
        · rfl
        · rfl
        · unfold am_cw
          split <;> rfl
      have hall : ∀ w ∈ va_wsS q.1.cls j (am_sp mm).1 [am_cw (am_sp mm)], w.before args s = true := fun w hw => by
        have hw : w ∈ [Cond.methodLink q.1.cls j (am_sp mm).1, Cond.static (am_sp mm).1, Cond.initialized (am_sp mm).1.cls, am_cw (am_sp mm)] := hw
        simp only [List.mem_cons, List.not_mem_nil, or_false] at hw
        rcases hw with rfl | rfl | rfl | rfl
        · exact hG.word a4 args
        · exact hG.word a5 args
        · exact hG.word a6 args
        · exact hG.word a3 args
      exact vx_runSX ⟨hx, hb, hml, hown, hall⟩ met (vx_cwSW n hall hgood ecw rfl rfl ⟨b3.1, b3.2, b2⟩ ⟨hRd.1, by have := hRd.2; show 8 + ((am_sp mm).2.2.1 + 11) + (64 * d + 200) ≤ R.locals; omega⟩) hp rfl hlen I.lv.1 (am_split ad st n) hWs hd hf
  refine am_back I rfl (am_ws_drop I.ws) emc ems run (fun y H1 locs1 ad1 hy I1 => ?_) (fun x H1 locs1 ad1 qq ce hxx hx5 I1 hq1 hq2 hq3 => ?_)
  · rcases hres with ⟨y', e1, hy'⟩ | ⟨x', e1, -⟩
    · have : y' = y := by have hy : out = .inl y := hy; rw [e1] at hy; cases hy; rfl
      subst this
      exact (hk _ _ _ hy').2 H1 locs1 ls ad1 _ _ I1
    · have hy : out = .inl y := hy
      rw [e1] at hy
      cases hy
  · rcases hres with ⟨y', e1, -⟩ | ⟨x', e1, hy'⟩
    · have hxx : out = .inr x := hxx
      rw [e1] at hxx
      cases hxx
    · have : x' = x := by have hxx : out = .inr x := hxx; rw [e1] at hxx; cases hxx; rfl
      subst this
      exact (am_thro ⟨hx, hb, hml, hown, hret, hlk, hnm, hG, hbs, hfr, hlo, htr, had, hrc, hrs⟩ hmc hms hT hJ a2 hx5 hy').2 H1 locs1 ls ad1 _ _ qq ce _ I1 hq1 hq2 hq3
end SIM5
end
section
/-! CALLS: virtual, constructors, what the library does -/
section SIM6
variable {p : Program} {l : Launch} {e : Env} {R : Room} {s : State} {m : MethodId} {args : Array Value} {below : List Frame} {meth : Method} {c : Code} {D : va_G} {cA : Nat → ClassId} {base t1 t2 : Nat} {sa : Nat → Nat} {q : aS} {ad0 : Nat → Nat} {n0 c0 s0 : Nat} {Qt : State → Prop} {r : aR}
variable {cal : aY} {hs : List aH} {J : Nat → aL → List Value → aM → Option aR} {k : aL → List Value → aM → Option aR} {pc len : Nat} {ops : List Nat} {v : Value}
theorem sd_invvirtual {j : Nat} {mc ms : Nat} (E : am_E p l R s m meth c D cA base t1 t2 sa q ad0 n0 c0 s0 r) (hmc : r.2.2.1 = c0 + mc) (hms : r.2.2.2 = s0 + ms) (hT : am_tb q c) (hk : am_S p l e R s m args below meth c D cA base q ad0 n0 c0 s0 (am_Q D cA base ad0 n0 r below args s mc ms) r (pc + len) k) (hJ : ∀ z, am_S p l e R s m args below meth c D cA base q ad0 n0 c0 s0 (am_Q D cA base ad0 n0 r below args s mc ms) r z (J z)) {d : Nat} (hRd : d + 9 ≤ R.frames ∧ 64 * d + 264 ≤ R.locals) (hcal : am_Snd l D cA base t1 t2 sa d cal) (hck : am_ck q hs pc (.invokevirtual j, len, ops, v) = true) : am_S p l e R s m args below meth c D cA base q ad0 n0 c0 s0 (am_Q D cA base ad0 n0 r below args s mc ms) r pc (am_1 cal hs J some (.invokevirtual j, len, ops, v) k) := by
  obtain ⟨hx, hb, hml, hown, hret, hlk, hnm, hG, hbs, hfr, hlo, htr, had, hrc, hrs⟩ := E
  intro L st M hrun
  obtain ⟨h1, h2⟩ := am_an hck
  obtain ⟨hd, rfl⟩ := am_dk_ok h1
  have h3 : ∃ mm n rk h ci w1 w2 w3 w4 t, ops = mm :: n :: rk :: h :: ci :: w1 :: w2 :: w3 :: w4 :: t ∧ am_ckm [mm] (n - 1) = true ∧ 1 ≤ n ∧ am_cki q hs pc h = true ∧ ci < 10 ∧ (am_sp mm).1.cls = ac_C ci ∧ (am_sp mm).2.2.2.2.1 = [] ∧ am_at (am_sp mm).2.2.2.2.2 (am_cw (am_sp mm)) = true ∧ am_at w1 (.methodLink q.1.cls j (am_sp mm).1) = true ∧ am_at w2 (.instanceMethod (am_sp mm).1) = true ∧ am_at w3 (.selects (am_sp mm).1.cls (am_sp mm).1 (am_sp mm).1) = true ∧ am_at w4 (.initialized (am_sp mm).1.cls) = true := by
    dsimp only at h2
    split at h2
    · obtain ⟨g1, g2⟩ := am_an h2
      obtain ⟨g2, g3⟩ := am_an g2
      obtain ⟨g3, g4⟩ := am_an g3
      obtain ⟨g4, g5⟩ := am_an g4
      obtain ⟨g5, g6⟩ := am_an g5
      obtain ⟨g6, g7⟩ := am_an g6
      obtain ⟨g7, g8⟩ := am_an g7
      obtain ⟨g8, g9⟩ := am_an g8
      obtain ⟨g9, g10⟩ := am_an g9
      obtain ⟨g10, g11⟩ := am_an g10
      exact ⟨_, _, _, _, _, _, _, _, _, _, rfl, g1, Nat.le_of_ble_eq_true g2, g3, Nat.le_of_ble_eq_true g4, of_decide_eq_true g5, of_decide_eq_true g6, g7, g8, g9, g10, g11⟩
    · exact nomatch h2
  obtain ⟨mm, n, rk, h, ci, w1, w2, w3, w4, t, rfl, a1, hn1, a2, hci, hcls, hhh, a3, a4, a5, a7, a6⟩ := h3
  obtain ⟨b1, b2⟩ := am_an a1
  obtain ⟨b2, b3⟩ := am_an b2
  obtain ⟨b3, b4⟩ := am_an b3
  have b1 : mm < 157 := Nat.le_of_ble_eq_true b1
  have b2 := of_decide_eq_true b2
  have b3 := of_decide_eq_true b3
  have b4 : (am_sp mm).2.2.1 ≤ 40 := Nat.le_of_ble_eq_true b4
  have hrun2 : ∃ a tl nn, (st.take n).reverse = .ref a :: tl ∧ am_ln M a ci = some nn ∧ am_iv cal hs J some [mm, n, rk, h] k L st M = some r := by
    simp only [am_1] at hrun
    split at hrun
    · rename_i hh
      obtain ⟨nn, g1, g2⟩ := iv_b hrun
      exact ⟨_, _, nn, hh, g1, g2⟩
    · exact nomatch hrun
  obtain ⟨a, tl, nn, hargs, hrec, hrun2⟩ := hrun2
  obtain ⟨fa, hfa, -⟩ := am_ln_iff.mp hrec
  obtain ⟨c1, c2, out, M1, hc, hres⟩ := iv_iv hrun2
  obtain ⟨hmono, hmet⟩ := hcal mm _ M (out, M1) b1 a3 hc
  have hM : M1.2.1 ≤ r.2.2.1 ∧ M1.2.2 ≤ r.2.2.2 := by
    rcases hres with ⟨y, -, hy⟩ | ⟨x, hxx, hy⟩
    · exact (hk _ _ _ hy).1
    · cases hh : hs.getD h [] with
      | nil =>
        rw [hh] at hy
        have e1 : r = (.inr x, M1) := (Option.some.inj hy).symm
        subst e1
        exact ⟨Nat.le_refl _, Nat.le_refl _⟩
      | cons u w =>
        rw [hh] at hy
        exact am_cxm hJ (u :: w) hy
  have hmono1 : M.2.1 ≤ M1.2.1 := hmono.1
  have hmono2 : M.2.2 ≤ M1.2.2 := hmono.2
  refine ⟨⟨Nat.le_trans hmono1 hM.1, Nat.le_trans hmono2 hM.2⟩, fun H locs ls ad cells slots I => ?_⟩
  obtain ⟨mc', emc⟩ : ∃ z, M1.2.1 = M.2.1 + z := ⟨M1.2.1 - M.2.1, by omega⟩
  obtain ⟨ms', ems⟩ : ∃ z, M1.2.2 = M.2.2 + z := ⟨M1.2.2 - M.2.2, by omega⟩
  have i2 := I.2.1
  have i8 : M.2.1 = c0 + cells := I.2.2.2.2.2.2.2.1
  have i9 : M.2.2 = s0 + slots := I.2.2.2.2.2.2.2.2
  have met := hmet ad mc' ms' ((I.1 1 (by omega)).trans had.1) ((I.1 2 (by omega)).trans had.2.1) (by omega) (am_ws_take I.ws) emc ems
  obtain ⟨-, -, cellB, y1, y2, y3, -⟩ := (I.rl.1 a _ hfa).1 hci
  obtain ⟨-, hfc, -⟩ := hG.2.1 ci hci
  have hlen : (tl.map (ac ad)).length = n - 1 := by
    have e1 : ((st.take n).reverse).length = n := by simp [c1]
    rw [hargs] at e1
    rw [List.length_map]
    simp only [List.length_cons] at e1
    omega
  have hp : PreV s H (am_sp mm).1.cls (ad a) (ac_Pc D cA base t1 t2 sa ad M (st.take n).reverse) (tl.map (ac ad)) := by
    refine ⟨ac_Pc_blind, ⟨cellB, y1, by rw [y3]; rfl, by rw [hcls, y2]; exact hfc⟩, fun U hU hW => ?_⟩
    have := ac_Pc_at (as := (st.take n).reverse) hG I.rl I.sm U hU hW
    rw [hargs] at this ⊢
    exact this
  have hsp : st.map (ac ad) = (tl.map (ac ad)).reverse ++ .ref (ad a) :: (st.drop n).map (ac ad) := by
    have e1 := am_split ad st n
    rw [hargs] at e1
    rw [e1]
    show (Value.ref (ad a) :: tl.map (ac ad)).reverse ++ _ = _
    rw [List.reverse_cons, List.append_assoc]
    rfl
  have hWs : 2 * (F0 m pc ls (st.map (ac ad))).monitorRoom + (((st.drop n).map (ac ad)).map fun v => v.category).sum ≤ 8 := by
    rw [am_cs_map, show (F0 m pc ls (st.map (ac ad))).monitorRoom = 0 from rfl]
    omega
  have hf : cells + mc' ≤ R.cells ∧ slots + ms' ≤ R.slots := ⟨by omega, by omega⟩
  have hwords : ∀ w ∈ [am_cw (am_sp mm)], w.before args s = true := fun w hw => by rw [List.mem_singleton.mp hw]; exact hG.word a3 args
  have run : vx_Run p l e R s m args below meth c H locs cells slots mc' ms' (F0 m pc ls (st.map (ac ad))) ((st.drop n).map (ac ad)) (ac_Qc D cA base ad M.1.length (out, M1) ((st.take n).reverse.map (ac ad)).toArray) (ac_XC D cA base ad M.1.length (out, M1)) (ac_A base) := by
    have ecw : [am_cw (am_sp mm)] = Cond.code (am_sp mm).1 (am_sp mm).2.1 (am_sp mm).2.2.1 (am_sp mm).2.2.2.1 :: [] := by
      unfold am_cw
      rw [hhh]
    have e0 : ((st.take n).reverse.map (ac ad)).toArray = (Value.ref (ad a) :: tl.map (ac ad)).toArray := by rw [hargs]; rfl
    rw [e0]
    exact vx_runV ⟨hx, hb, hml, hown, hwords⟩ met ⟨callB_of (n - 1) hwords (am_goodc _) ecw rfl rfl (hG.word a6 args) (hG.word a4 args) ⟨b3.1, b3.2, b2⟩ ⟨hRd.1, by have := hRd.2; show 8 + ((am_sp mm).2.2.1 + 11) + (64 * d + 200) ≤ R.locals; omega⟩, hG.word a5 args, hG.word a7 args⟩ hp rfl hlen I.lv.1 hsp hWs hd hf
  refine am_back I rfl (am_ws_drop I.ws) emc ems run (fun y H1 locs1 ad1 hy I1 => ?_) (fun x H1 locs1 ad1 qq ce hxx hx5 I1 hq1 hq2 hq3 => ?_)
  · rcases hres with ⟨y', e1, hy'⟩ | ⟨x', e1, -⟩
    · have : y' = y := by have hy : out = .inl y := hy; rw [e1] at hy; cases hy; rfl
      subst this
      exact (hk _ _ _ hy').2 H1 locs1 ls ad1 _ _ I1
    · have hy : out = .inl y := hy
      rw [e1] at hy
      cases hy
  · rcases hres with ⟨y', e1, -⟩ | ⟨x', e1, hy'⟩
    · have hxx : out = .inr x := hxx
      rw [e1] at hxx
      cases hxx
    · have : x' = x := by have hxx : out = .inr x := hxx; rw [e1] at hxx; cases hxx; rfl
      subst this
      exact (am_thro ⟨hx, hb, hml, hown, hret, hlk, hnm, hG, hbs, hfr, hlo, htr, had, hrc, hrs⟩ hmc hms hT hJ a2 hx5 hy').2 H1 locs1 ls ad1 _ _ qq ce _ I1 hq1 hq2 hq3
theorem sd_invspecial {j : Nat} {mc ms : Nat} (E : am_E p l R s m meth c D cA base t1 t2 sa q ad0 n0 c0 s0 r) (hmc : r.2.2.1 = c0 + mc) (hms : r.2.2.2 = s0 + ms) (hT : am_tb q c) (hk : am_S p l e R s m args below meth c D cA base q ad0 n0 c0 s0 (am_Q D cA base ad0 n0 r below args s mc ms) r (pc + len) k) (hJ : ∀ z, am_S p l e R s m args below meth c D cA base q ad0 n0 c0 s0 (am_Q D cA base ad0 n0 r below args s mc ms) r z (J z)) {d : Nat} (hRd : d + 9 ≤ R.frames ∧ 64 * d + 264 ≤ R.locals) (hcal : am_Snd l D cA base t1 t2 sa d cal) (hn1 : ops.headD 0 ≠ 1002) (hck : am_ck q hs pc (.invokespecial j, len, ops, v) = true) : am_S p l e R s m args below meth c D cA base q ad0 n0 c0 s0 (am_Q D cA base ad0 n0 r below args s mc ms) r pc (am_1 cal hs J some (.invokespecial j, len, ops, v) k) := by
  obtain ⟨hx, hb, hml, hown, hret, hlk, hnm, hG, hbs, hfr, hlo, htr, had, hrc, hrs⟩ := E
  intro L st M hrun
  obtain ⟨h1, h2⟩ := am_an hck
  obtain ⟨hd, rfl⟩ := am_dk_ok h1
  have h3 : ∃ mm n z1 z2 w1 w2 w3 t, ops = mm :: n :: z1 :: z2 :: w1 :: w2 :: w3 :: t ∧ am_ckm [mm] (n - 1) = true ∧ 1 ≤ n ∧ (am_sp mm).1.name = "<init>" ∧ (am_sp mm).2.2.2.1 = none ∧ (am_sp mm).2.2.2.2.1 = [] ∧ am_at (am_sp mm).2.2.2.2.2 (am_cw (am_sp mm)) = true ∧ am_at w1 (.methodLink q.1.cls j (am_sp mm).1) = true ∧ am_at w2 (.instanceMethod (am_sp mm).1) = true ∧ am_at w3 (.initialized (am_sp mm).1.cls) = true := by
    dsimp only at h2
    split at h2
    · exact absurd rfl hn1
    · obtain ⟨g1, g2⟩ := am_an h2
      obtain ⟨g2, g3⟩ := am_an g2
      obtain ⟨g3, g4⟩ := am_an g3
      obtain ⟨g4, g5⟩ := am_an g4
      obtain ⟨g5, g6⟩ := am_an g5
      obtain ⟨g6, g7⟩ := am_an g6
      obtain ⟨g7, g8⟩ := am_an g7
      obtain ⟨g8, g9⟩ := am_an g8
      exact ⟨_, _, _, _, _, _, _, _, rfl, g1, Nat.le_of_ble_eq_true g2, of_decide_eq_true g3, of_decide_eq_true g4, of_decide_eq_true g5, g6, g7, g8, g9⟩
    · exact nomatch h2
  obtain ⟨mm, n, z1, z2, w1, w2, w3, t, rfl, a1, hn2, hini, hret2, hhh, a3, a4, a5, a6⟩ := h3
  obtain ⟨b1, b2⟩ := am_an a1
  obtain ⟨b2, b3⟩ := am_an b2
  obtain ⟨b3, b4⟩ := am_an b3
  have b1 : mm < 157 := Nat.le_of_ble_eq_true b1
  have b2 := of_decide_eq_true b2
  have b3 := of_decide_eq_true b3
  have b4 : (am_sp mm).2.2.1 ≤ 40 := Nat.le_of_ble_eq_true b4
  have hrun2 : ∃ a tl, (st.take n).reverse = .ref a :: tl ∧ (n ≤ st.length ∧ am_cs (st.drop n) ≤ 8) ∧ am_cV (cal mm (.ref a :: tl) M) (fun M' => k L (st.drop n) M') (fun _ _ => none) = some r := by
    simp only [am_1] at hrun
    split at hrun
    · rename_i hh; cases hh; omega
    · rename_i hh
      cases hh
      split at hrun
      · rename_i hh
        obtain ⟨g1, g2⟩ := iv_c hrun
        obtain ⟨g1, g3⟩ := am_an g1
        exact ⟨_, _, hh, ⟨Nat.le_of_ble_eq_true g1, Nat.le_of_ble_eq_true g3⟩, g2⟩
      · exact nomatch hrun
    · exact nomatch hrun
  obtain ⟨a, tl, hargs, ⟨c1, c2⟩, hrun2⟩ := hrun2
  obtain ⟨out, M1, hc, ⟨e1, hy'⟩ | ⟨x, -, hy'⟩⟩ := iv_cV hrun2
  case inr => exact nomatch hy'
  subst e1
  rw [← hargs] at hc
  obtain ⟨hmono, hmet⟩ := hcal mm _ M (.inl none, M1) b1 a3 hc
  have hM : M1.2.1 ≤ r.2.2.1 ∧ M1.2.2 ≤ r.2.2.2 := (hk _ _ _ hy').1
  have hmono1 : M.2.1 ≤ M1.2.1 := hmono.1
  have hmono2 : M.2.2 ≤ M1.2.2 := hmono.2
  refine ⟨⟨Nat.le_trans hmono1 hM.1, Nat.le_trans hmono2 hM.2⟩, fun H locs ls ad cells slots I => ?_⟩
  obtain ⟨mc', emc⟩ : ∃ z, M1.2.1 = M.2.1 + z := ⟨M1.2.1 - M.2.1, by omega⟩
  obtain ⟨ms', ems⟩ : ∃ z, M1.2.2 = M.2.2 + z := ⟨M1.2.2 - M.2.2, by omega⟩
  have i2 := I.2.1
  have i8 : M.2.1 = c0 + cells := I.2.2.2.2.2.2.2.1
  have i9 : M.2.2 = s0 + slots := I.2.2.2.2.2.2.2.2
  have met := hmet ad mc' ms' ((I.1 1 (by omega)).trans had.1) ((I.1 2 (by omega)).trans had.2.1) (by omega) (am_ws_take I.ws) emc ems
  have met := vx_toMet met (fun E st' t' hX => by
    obtain ⟨⟨_, _, hX, -⟩, -⟩ := hX
    cases hX)
  have hlen : (tl.map (ac ad)).length = n - 1 := by
    have e1 : ((st.take n).reverse).length = n := by simp [c1]
    rw [hargs] at e1
    rw [List.length_map]
    simp only [List.length_cons] at e1
    omega
  have hp : PreS s H (ac_Pc D cA base t1 t2 sa ad M (st.take n).reverse) (.ref (ad a) :: tl.map (ac ad)) := by
    refine ⟨ac_Pc_blind, fun U hU hW => ?_⟩
    have := ac_Pc_at (as := (st.take n).reverse) hG I.rl I.sm U hU hW
    rw [hargs] at this ⊢
    exact this
  have hsp : st.map (ac ad) = (tl.map (ac ad)).reverse ++ .ref (ad a) :: (st.drop n).map (ac ad) := by
    have e1 := am_split ad st n
    rw [hargs] at e1
    rw [e1]
    show (Value.ref (ad a) :: tl.map (ac ad)).reverse ++ _ = _
    rw [List.reverse_cons, List.append_assoc]
    rfl
  have hWs : 2 * (F0 m pc ls (st.map (ac ad))).monitorRoom + (((st.drop n).map (ac ad)).map fun v => v.category).sum ≤ 8 := by
    rw [am_cs_map, show (F0 m pc ls (st.map (ac ad))).monitorRoom = 0 from rfl]
    omega
  have hf : cells + mc' ≤ R.cells ∧ slots + ms' ≤ R.slots := ⟨by omega, by omega⟩
  have hwords : ∀ w ∈ [am_cw (am_sp mm)], w.before args s = true := fun w hw => by rw [List.mem_singleton.mp hw]; exact hG.word a3 args
  have run : vx_Run p l e R s m args below meth c H locs cells slots mc' ms' (F0 m pc ls (st.map (ac ad))) ((st.drop n).map (ac ad)) (ac_Qc D cA base ad M.1.length (.inl none, M1) ((st.take n).reverse.map (ac ad)).toArray) (ac_XC D cA base ad M.1.length (.inl none, M1)) (ac_A base) := by
    have ecw : [am_cw (am_sp mm)] = Cond.code (am_sp mm).1 (am_sp mm).2.1 (am_sp mm).2.2.1 none :: [] := by
      unfold am_cw
      rw [hhh, hret2]
    have e0 : ((st.take n).reverse.map (ac ad)).toArray = (Value.ref (ad a) :: tl.map (ac ad)).toArray := by rw [hargs]; rfl
    rw [e0]
    exact va_toRun (va_runI ⟨hx, hb, hml, hown, hwords⟩ met ⟨callB_of (n - 1) hwords (am_goodc _) ecw rfl rfl (hG.word a6 args) (hG.word a4 args) ⟨b3.1, b3.2, b2⟩ ⟨hRd.1, by have := hRd.2; show 8 + ((am_sp mm).2.2.1 + 11) + (64 * d + 200) ≤ R.locals; omega⟩, hini, hG.word a5 args⟩ hp rfl hlen I.lv.1 hsp hWs hd hf)
  refine am_back I rfl (am_ws_drop I.ws) emc ems run (fun y H1 locs1 ad1 hy I1 => ?_) (fun x H1 locs1 ad1 qq ce hxx hx5 I1 hq1 hq2 hq3 => ?_)
  · have hy : (Sum.inl none : Option Value ⊕ Nat) = .inl y := hy
    cases hy
    exact (hk _ _ _ hy').2 H1 locs1 ls ad1 _ _ I1
  · have hxx : (Sum.inl none : Option Value ⊕ Nat) = .inr x := hxx
    cases hxx
end SIM6
end
