/-! words of the tables that stay true along a run, and what else does -/
def am_okw (w : Cond) : Bool := match w with
  | .castable _ _ => true
  | .declares _ => true
  | .arrayOver t => (match t with
    | .object _ => true
    | _ => false)
  | w => goodWord w
theorem am_okw_at {args a' : Array Value} {s U : State} (hW : s.WarmedH U.vm) {w : Cond} (hw : am_okw w = true) (h : w.before args s = true) : w.before a' U = true := by
  cases w with
  | castable C T => exact va_Nw.use rfl (va_Nw.warmC hW (va_Nw.of rfl h))
  | declares x => exact va_Nw.use rfl (va_Nw.warmD hW (va_Nw.of rfl h))
  | arrayOver t =>
    cases t with
    | object C => exact va_AO.use ((va_AO.of h).moved hW.alike)
    | _ => exact nomatch hw
  | _ => exact word_at hW (good_of_word hw) h
def am_at (pos : Nat) (w : Cond) : Bool := decide (lw_tbl[pos]? = some w) && am_okw w
def am_str : List (Nat × String) := [(209, "a number is out of range"), (52, "the text would be longer than 60 signs"), (75, "the text is no whole program"), (92, "the program is not checked or no actor is free"), (103, "four are under way already"), (115, "nothing is under way there"), (142, "the mailbox is full"), (212, "the actor is not alive"), (162, "no message fits a clause"), (169, "the actor ended by a fault"), (173, "the actor ended by a division by 0"), (188, "the actor is not ended")]
def am_txt (i : Nat) : String := ((am_str.find? (fun q => Nat.beq q.1 i)).map (·.2)).getD ""
/-! what is looked at in a method's table, once, by evaluation -/
def am_dk (cc : ByteArray) (pc : Nat) (ins : Instr) (n len : Nat) : Bool := decide (decode cc pc = .ok (ins, n)) && Nat.beq len n
def ac_cn (kd : Nat) : String := match kd with
  | 14 => "ActorMachine$Text"
  | 15 => "ActorMachine$Actor"
  | _ => "ActorMachine$Row"
def ac_fc (t : FieldType) : Nat := match t with
  | .int => 0
  | .long => 1
  | .boolean => 3
  | .char => 4
  | .object _ => 2
  | .array _ => 2
  | _ => 9
/-- the throws of the class: the place of the constructor, the exception -/
def am_thr : List (Nat × Nat) := [(54, 0), (77, 4), (117, 2), (175, 3), (211, 1)]
def am_nms : List String := ["java/lang/RuntimeException", "java/lang/Exception"]
def am_cw (q : aS) : Cond := match q.2.2.2.2.1 with
  | [] => .code q.1 q.2.1 q.2.2.1 q.2.2.2.1
  | h :: t => .codeWith q.1 q.2.1 q.2.2.1 q.2.2.2.1 (h :: t)
/-- the rows of a handler table at a place -/
def am_hk (q : aS) (pc : Nat) : List (Nat × Nat × Nat × Nat) → aH → Bool
  | [], [] => true
  | x :: xs, h :: hl => Nat.ble x.1 pc && (Nat.blt pc x.2.1 && (Nat.blt h.1 5 && (decide (h.2.2 = []) && (decide (Cond.classLink q.1.cls x.2.2.2 (ac_E h.1) ∈ lw_tbl) && (decide (Cond.castable (ac_E h.1) (ac_E h.1) ∈ lw_tbl) && (Nat.blt 0 x.2.2.2 &&
      ((match decode q.2.1 x.2.2.1 with
        | .ok (.astore j, 2) => Nat.blt j q.2.2.1 && Nat.beq h.2.1 (x.2.2.1 + 2)
        | .ok (.astore_n j, 1) => Nat.blt j.val q.2.2.1 && Nat.beq h.2.1 (x.2.2.1 + 1)
        | _ => false) && am_hk q pc xs hl)))))))
  | _, _ => false
def am_cki (q : aS) (hs : List aH) (pc : Nat) (h : Nat) : Bool := match q.2.2.2.2.1 with
  | [] => decide (hs.getD h [] = [])
  | x :: xs => am_hk q pc (x :: xs) (hs.getD h [])
def am_ckm (o : List Nat) (n : Nat) : Bool := Nat.blt (o.headD 0) 157 && (decide ((parseMethodDescriptor (am_sp (o.headD 0)).1.desc).map (fun d => d.parameters.length) = some n) && (decide ((am_sp (o.headD 0)).1.cls ≠ "java/lang/invoke/MethodHandle" ∧ (am_sp (o.headD 0)).1.cls ≠ "java/lang/invoke/VarHandle") && Nat.ble (am_sp (o.headD 0)).2.2.1 40))
def am_ck (q : aS) (hs : List aH) (pc : Nat) (i : aI) : Bool := match i.1 with
  | .iconst n => am_dk q.2.1 pc (.iconst n) 1 i.2.1 && decide (i.2.2.2 = .int (Int32.ofInt n))
  | .bipush n => am_dk q.2.1 pc (.bipush n) 2 i.2.1 && decide (i.2.2.2 = .int (Int8.ofInt n).toInt32)
  | .sipush n => am_dk q.2.1 pc (.sipush n) 3 i.2.1 && decide (i.2.2.2 = .int (Int16.ofInt n).toInt32)
  | .lconst n => am_dk q.2.1 pc (.lconst n) 1 i.2.1 && decide (i.2.2.2 = .long (Int64.ofNat (n : Nat)))
  | .ldc_w j => am_dk q.2.1 pc (.ldc_w j) 3 i.2.1 && (match i.2.2.2 with
    | .int v => am_at (i.2.2.1.headD 0) (.constant q.1.cls j v)
    | _ => false)
  | .ldc2_w j => am_dk q.2.1 pc (.ldc2_w j) 3 i.2.1 && (match i.2.2.2 with
    | .long v => am_at (i.2.2.1.headD 0) (.constantLong q.1.cls j v)
    | _ => false)
  | .iload_n n => am_dk q.2.1 pc (.iload_n n) 1 i.2.1 && Nat.beq n.val (i.2.2.1.headD 0)
  | .lload_n n => am_dk q.2.1 pc (.lload_n n) 1 i.2.1 && Nat.beq n.val (i.2.2.1.headD 0)
  | .aload_n n => am_dk q.2.1 pc (.aload_n n) 1 i.2.1 && Nat.beq n.val (i.2.2.1.headD 0)
  | .iload n => am_dk q.2.1 pc (.iload n) 2 i.2.1 && Nat.beq n (i.2.2.1.headD 0)
  | .lload n => am_dk q.2.1 pc (.lload n) 2 i.2.1 && Nat.beq n (i.2.2.1.headD 0)
  | .aload n => am_dk q.2.1 pc (.aload n) 2 i.2.1 && Nat.beq n (i.2.2.1.headD 0)
  | .istore_n n => am_dk q.2.1 pc (.istore_n n) 1 i.2.1 && (Nat.beq n.val (i.2.2.1.headD 0) && Nat.blt (i.2.2.1.headD 0) q.2.2.1)
  | .lstore_n n => am_dk q.2.1 pc (.lstore_n n) 1 i.2.1 && (Nat.beq n.val (i.2.2.1.headD 0) && Nat.blt (i.2.2.1.headD 0 + 1) q.2.2.1)
  | .astore_n n => am_dk q.2.1 pc (.astore_n n) 1 i.2.1 && (Nat.beq n.val (i.2.2.1.headD 0) && Nat.blt (i.2.2.1.headD 0) q.2.2.1)
  | .istore n => am_dk q.2.1 pc (.istore n) 2 i.2.1 && (Nat.beq n (i.2.2.1.headD 0) && Nat.blt (i.2.2.1.headD 0) q.2.2.1)
  | .lstore n => am_dk q.2.1 pc (.lstore n) 2 i.2.1 && (Nat.beq n (i.2.2.1.headD 0) && Nat.blt (i.2.2.1.headD 0 + 1) q.2.2.1)
  | .astore n => am_dk q.2.1 pc (.astore n) 2 i.2.1 && (Nat.beq n (i.2.2.1.headD 0) && Nat.blt (i.2.2.1.headD 0) q.2.2.1)
  | .iinc j n => am_dk q.2.1 pc (.iinc j n) 3 i.2.1 && (Nat.beq j (i.2.2.1.headD 0) && (Nat.blt (i.2.2.1.headD 0) q.2.2.1 && decide (i.2.2.2 = .int (Int32.ofInt n))))
  | .ifCond c off => am_dk q.2.1 pc (.ifCond c off) 3 i.2.1 && decide ((pc : Int) + off = ((i.2.2.1.headD 0 : Nat) : Int))
  | .if_icmp c off => am_dk q.2.1 pc (.if_icmp c off) 3 i.2.1 && decide ((pc : Int) + off = ((i.2.2.1.headD 0 : Nat) : Int))
  | .goto off => am_dk q.2.1 pc (.goto off) 3 i.2.1 && decide ((pc : Int) + off = ((i.2.2.1.headD 0 : Nat) : Int))
  | .nop => Nat.beq (i.2.2.1.headD 0) pc
  | .tableswitch d lo hi offs => am_dk q.2.1 pc (.tableswitch d lo hi offs) i.2.1 i.2.1 && (match i.2.2.1 with
    | n :: dd :: mm :: w => decide ((n : Int) = lo) && (decide ((pc : Int) + d = (dd : Int)) && (decide (offs.toList.map (fun x => (pc : Int) + x) = (w.drop mm).map (fun (x : Nat) => (x : Int))) && (decide (hi = lo + ((w.drop mm).length : Int) - 1) && Nat.ble (n + (w.drop mm).length) 1000)))
    | _ => false)
  | .getstatic j => am_dk q.2.1 pc (.getstatic j) 3 i.2.1 && (match i.2.2.1 with
    | a :: w :: _ => (Nat.beq a 1 && am_at w (.fieldLink q.1.cls j "ActorMachine$Term" "TENS" "[I")) || (Nat.beq a 2 && am_at w (.fieldLink q.1.cls j "ActorMachine$Term" "DEEPER" "[I"))
    | _ => false)
  | .getfield j => am_dk q.2.1 pc (.getfield j) 3 i.2.1 && (match i.2.2.1 with
    | ci :: f :: _ :: w :: _ => Nat.blt ci 10 && (Nat.blt f (ac_N ci) && am_at w (.fieldLink q.1.cls j (ac_T ci f).1 (ac_T ci f).2.1 (ac_T ci f).2.2.1))
    | _ => false)
  | .putfield j => am_dk q.2.1 pc (.putfield j) 3 i.2.1 && (match i.2.2.1 with
    | ci :: f :: ty :: w :: _ => Nat.blt ci 10 && (Nat.blt f (ac_N ci) && (am_at w (.fieldLink q.1.cls j (ac_T ci f).1 (ac_T ci f).2.1 (ac_T ci f).2.2.1) && (Nat.beq ty (ac_fc (ac_F ci f)) && decide ((ac_T ci f).2.2.2 = false ∨ ((ac_T ci f).2.2.2 = true ∧ q.1.name = "<init>" ∧ (ac_T ci f).1 = q.1.cls)))))
    | _ => false)
  | .aaload => am_dk q.2.1 pc .aaload 1 i.2.1 && (Nat.ble 14 (i.2.2.1.headD 0) && Nat.blt (i.2.2.1.headD 0) 17)
  | .aastore => am_dk q.2.1 pc .aastore 1 i.2.1 && (Nat.ble 14 (i.2.2.1.headD 0) && (Nat.blt (i.2.2.1.headD 0) 17 && (Nat.blt (i.2.2.1.getD 1 0) 10 && decide (ac_ty (i.2.2.1.headD 0) = .object (ac_C (i.2.2.1.getD 1 0))))))
  | .arraylength => am_dk q.2.1 pc .arraylength 1 i.2.1 && (Nat.ble 10 (i.2.2.1.headD 0) && Nat.blt (i.2.2.1.headD 0) 17)
  | .newarray at_ => am_dk q.2.1 pc (.newarray at_) 2 i.2.1 && (Nat.ble 10 (i.2.2.1.headD 0) && (Nat.blt (i.2.2.1.headD 0) 14 && (decide (newarray.typeOf at_ = ac_ty (i.2.2.1.headD 0)) && am_at (i.2.2.1.getD 1 0) (.arrayClass (ac_ty (i.2.2.1.headD 0))))))
  | .anewarray j => am_dk q.2.1 pc (.anewarray j) 3 i.2.1 && (Nat.ble 14 (i.2.2.1.headD 0) && (Nat.blt (i.2.2.1.headD 0) 17 && (am_at (i.2.2.1.getD 1 0) (.classLink q.1.cls j (ac_cn (i.2.2.1.headD 0))) && am_at (i.2.2.1.getD 2 0) (.arrayOver (.object (ac_cn (i.2.2.1.headD 0)))))))
  | .new j => am_dk q.2.1 pc (.new j) 3 i.2.1 && (match i.2.2.1 with
    | 999 :: e :: is :: ic :: w1 :: w2 :: _ => decide (q.1.cls = "ActorMachine") && (decide (q.2.2.2.2.1 = []) && (Nat.blt e 5 && (decide ((ic, e) ∈ am_thr) && (decide ((is, am_txt is) ∈ am_str) && (am_dk q.2.1 (pc + 3) .dup 1 1 && (am_dk q.2.1 (pc + 4) (.ldc is) 2 2 && (am_dk q.2.1 (pc + 6) (.invokespecial ic) 3 3 && (am_dk q.2.1 (pc + 9) .athrow 1 1 && (am_at w1 (.classLink q.1.cls j (ac_E e)) && am_at w2 (.initialized (ac_E e)))))))))))
    | ci :: _ :: w1 :: w2 :: w3 :: _ => Nat.blt ci 10 && (am_at w1 (.classLink q.1.cls j (ac_C ci)) && (am_at w2 (.instantiable (ac_C ci) (ac_N ci)) && am_at w3 (.initialized (ac_C ci))))
    | _ => false)
  | .invokevirtual j => am_dk q.2.1 pc (.invokevirtual j) 3 i.2.1 && (match i.2.2.1 with
    | mm :: n :: _ :: h :: ci :: w1 :: w2 :: w3 :: w4 :: _ => am_ckm [mm] (n - 1) && (Nat.ble 1 n && (am_cki q hs pc h && (Nat.blt ci 10 && (decide ((am_sp mm).1.cls = ac_C ci) && (decide ((am_sp mm).2.2.2.2.1 = []) && (am_at (am_sp mm).2.2.2.2.2 (am_cw (am_sp mm)) && (am_at w1 (.methodLink q.1.cls j (am_sp mm).1) && (am_at w2 (.instanceMethod (am_sp mm).1) && (am_at w3 (.selects (am_sp mm).1.cls (am_sp mm).1 (am_sp mm).1) && am_at w4 (.initialized (am_sp mm).1.cls))))))))))
    | _ => false)
  | .invokestatic j => am_dk q.2.1 pc (.invokestatic j) 3 i.2.1 && (match i.2.2.1 with
    | 1001 :: w1 :: w2 :: w3 :: w4 :: _ => am_at w1 (.methodLink q.1.cls j arraycopyName) && (am_at w2 (.static arraycopyName) && (am_at w3 (.native arraycopyName) && am_at w4 (.initialized "java/lang/System")))
    | 1003 :: w1 :: w2 :: w3 :: w4 :: _ => am_at w1 (.methodLink q.1.cls j Lib.Math.abs.name) && (am_at w2 (.static Lib.Math.abs.name) && (am_at w3 (.code Lib.Math.abs.name Lib.Math.abs.code 1 (some .int)) && am_at w4 (.initialized "java/lang/Math")))
    | mm :: n :: _ :: h :: w1 :: w2 :: w3 :: _ => am_ckm [mm] n && (am_cki q hs pc h && (am_at (am_sp mm).2.2.2.2.2 (am_cw (am_sp mm)) && (am_at w1 (.methodLink q.1.cls j (am_sp mm).1) && (am_at w2 (.static (am_sp mm).1) && am_at w3 (.initialized (am_sp mm).1.cls)))))
    | _ => false)
  | .invokespecial j => am_dk q.2.1 pc (.invokespecial j) 3 i.2.1 && (match i.2.2.1 with
    | 1002 :: w1 :: w2 :: w3 :: _ => am_at w1 (.methodLink q.1.cls j Lib.objectInit) && (am_at w2 (.instanceMethod Lib.objectInit) && am_at w3 (.code Lib.objectInit ⟨#[0xb1]⟩ 1 none))
    | mm :: n :: _ :: _ :: w1 :: w2 :: w3 :: _ => am_ckm [mm] (n - 1) && (Nat.ble 1 n && (decide ((am_sp mm).1.name = "<init>") && (decide ((am_sp mm).2.2.2.1 = none) && (decide ((am_sp mm).2.2.2.2.1 = []) && (am_at (am_sp mm).2.2.2.2.2 (am_cw (am_sp mm)) && (am_at w1 (.methodLink q.1.cls j (am_sp mm).1) && (am_at w2 (.instanceMethod (am_sp mm).1) && am_at w3 (.initialized (am_sp mm).1.cls))))))))
    | _ => false)
  | .ireturn => am_dk q.2.1 pc .ireturn 1 i.2.1 && (match q.2.2.2.1 with
    | some t => Nat.beq (i.2.2.1.headD 0) (ac_fc t) && decide (t = .int ∨ t = .boolean ∨ t = .char)
    | none => false)
  | .lreturn => am_dk q.2.1 pc .lreturn 1 i.2.1 && decide (q.2.2.2.1 = some .long)
  | .areturn => am_dk q.2.1 pc .areturn 1 i.2.1 && (match q.2.2.2.1 with
    | some (.object _) => true
    | _ => false)
  | .return_ => am_dk q.2.1 pc .return_ 1 i.2.1 && decide (q.2.2.2.1 = none)
  | ins => am_dk q.2.1 pc ins 1 i.2.1
def am_ckb (q : aS) (hs : List aH) : Nat → List aI → Bool
  | _, [] => true
  | pc, i :: r => am_ck q hs pc i && am_ckb q hs (pc + i.2.1) r
def am_ckk (q : aS) (K : aK) : Bool := K.1.all (fun b => am_ckb q K.2.1 b.1 b.2) && (decide (plainName q.1.cls = true) && (Nat.ble q.2.2.1 40 && decide (am_cw q = am_cw q)))
