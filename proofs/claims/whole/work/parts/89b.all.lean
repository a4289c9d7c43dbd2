/-! THE WHOLE: from an instruction to a method -/
section SIM9
variable {p : Program} {l : Launch} {e : Env} {R : Room} {s : State} {m : MethodId} {args : Array Value} {below : List Frame} {meth : Method} {c : Code} {D : va_G} {cA : Nat → ClassId} {base t1 t2 : Nat} {sa : Nat → Nat} {q : aS} {ad0 : Nat → Nat} {n0 c0 s0 : Nat} {r : aR} {mc ms d : Nat}
variable {cal : aY} {hs : List aH} {J : Nat → aL → List Value → aM → Option aR} {k : aL → List Value → aM → Option aR} {pc : Nat}
theorem sd_1 (E : am_E p l R s m meth c D cA base t1 t2 sa q ad0 n0 c0 s0 r) (hmc : r.2.2.1 = c0 + mc) (hms : r.2.2.2 = s0 + ms) (hT : am_tb q c) (hRd : d + 9 ≤ R.frames ∧ 64 * d + 264 ≤ R.locals) (hcal : am_Snd l D cA base t1 t2 sa d cal) (i : aI) (hck : am_ck q hs pc i = true) (hk : am_S p l e R s m args below meth c D cA base q ad0 n0 c0 s0 (am_Q D cA base ad0 n0 r below args s mc ms) r (pc + i.2.1) k) (hJ : ∀ z, am_S p l e R s m args below meth c D cA base q ad0 n0 c0 s0 (am_Q D cA base ad0 n0 r below args s mc ms) r z (J z)) : am_S p l e R s m args below meth c D cA base q ad0 n0 c0 s0 (am_Q D cA base ad0 n0 r below args s mc ms) r pc (am_1 cal hs J some i k) := by
  obtain ⟨ins, len, ops, v⟩ := i
  cases ins
  case iconst _ => exact sd_iconst E hk hck
  case bipush _ => exact sd_bipush E hk hck
  case sipush _ => exact sd_sipush E hk hck
  case lconst _ => exact sd_lconst E hk hck
  case ldc_w _ => exact sd_ldc_w E hk hck
  case ldc2_w _ => exact sd_ldc2_w E hk hck
  case iload_n _ => exact sd_iload_n E hk hck
  case iload _ => exact sd_iload E hk hck
  case lload_n _ => exact sd_lload_n E hk hck
  case lload _ => exact sd_lload E hk hck
  case aload_n _ => exact sd_aload_n E hk hck
  case aload _ => exact sd_aload E hk hck
  case istore_n _ => exact sd_istore_n E hk hck
  case istore _ => exact sd_istore E hk hck
  case lstore_n _ => exact sd_lstore_n E hk hck
  case lstore _ => exact sd_lstore E hk hck
  case astore_n _ => exact sd_astore_n E hk hck
  case astore _ => exact sd_astore E hk hck
  case iinc _ _ => exact sd_iinc E hk hck
  case iadd => exact sd_iadd E hk hck
  case isub => exact sd_isub E hk hck
  case imul => exact sd_imul E hk hck
  case idiv => exact sd_idiv E hk hck
  case irem => exact sd_irem E hk hck
  case ineg => exact sd_ineg E hk hck
  case iand => exact sd_iand E hk hck
  case ior => exact sd_ior E hk hck
  case ixor => exact sd_ixor E hk hck
  case ishl => exact sd_ishl E hk hck
  case ishr => exact sd_ishr E hk hck
  case iushr => exact sd_iushr E hk hck
  case ladd => exact sd_ladd E hk hck
  case lsub => exact sd_lsub E hk hck
  case land => exact sd_land E hk hck
  case lor => exact sd_lor E hk hck
  case lshl => exact sd_lshl E hk hck
  case lshr => exact sd_lshr E hk hck
  case lushr => exact sd_lushr E hk hck
  case i2l => exact sd_i2l E hk hck
  case l2i => exact sd_l2i E hk hck
  case i2c => exact sd_i2c E hk hck
  case lcmp => exact sd_lcmp E hk hck
  case dup => exact sd_dup E hk hck
  case dup2 => exact sd_dup2 E hk hck
  case pop => exact sd_pop E hk hck
  case pop2 => exact sd_pop2 E hk hck
  case getstatic _ => exact sd_getstatic E hk hck
  case getfield _ => exact sd_getfield E hk hck
  case putfield _ => exact sd_putfield E hk hck
  case iaload => exact sd_iaload E hk hck
  case laload => exact sd_laload E hk hck
  case baload => exact sd_baload E hk hck
  case caload => exact sd_caload E hk hck
  case aaload => exact sd_aaload E hk hck
  case iastore => exact sd_iastore E hk hck
  case lastore => exact sd_lastore E hk hck
  case bastore => exact sd_bastore E hk hck
  case castore => exact sd_castore E hk hck
  case aastore => exact sd_aastore E hk hck
  case arraylength => exact sd_arraylength E hk hck
  case newarray _ => exact sd_newarray E hk hck
  case anewarray _ => exact sd_anewarray E hk hck
  case ifCond cnd off =>
    cases cnd
    · exact sd_if_eq E hk hJ hck
    · exact sd_if_ne E hk hJ hck
    · exact sd_if_lt E hk hJ hck
    · exact sd_if_ge E hk hJ hck
    · exact sd_if_gt E hk hJ hck
    · exact sd_if_le E hk hJ hck
  case if_icmp cnd off =>
    cases cnd
    · exact sd_icmp_eq E hk hJ hck
    · exact sd_icmp_ne E hk hJ hck
    · exact sd_icmp_lt E hk hJ hck
    · exact sd_icmp_ge E hk hJ hck
    · exact sd_icmp_gt E hk hJ hck
    · exact sd_icmp_le E hk hJ hck
  case goto _ => exact sd_goto E hJ hck
  case nop => exact sd_nop E hJ hck
  case tableswitch _ _ _ _ => exact sd_tableswitch E hJ hck
  case new _ =>
    by_cases h9 : ops.headD 0 = 999
    · exact sd_throw E hmc hms hT h9 hck
    · exact sd_newobj E hk h9 hck
  case invokevirtual _ => exact sd_invvirtual E hmc hms hT hk hJ hRd hcal hck
  case invokestatic _ =>
    by_cases h1 : ops.headD 0 = 1001
    · exact sd_acopy E hk h1 hck
    · by_cases h3 : ops.headD 0 = 1003
      · exact sd_mabs E hk h3 hck
      · exact sd_invstatic E hmc hms hT hk hJ hRd hcal h1 h3 hck
  case invokespecial _ =>
    by_cases h2 : ops.headD 0 = 1002
    · exact sd_objinit E hk h2 hck
    · exact sd_invspecial E hmc hms hT hk hJ hRd hcal h2 hck
  case ireturn => exact sd_ireturn E hmc hms hck
  case lreturn => exact sd_lreturn E hmc hms hck
  case areturn => exact sd_areturn E hmc hms hck
  case return_ => exact sd_return E hmc hms hck
  all_goals exact fun L st M h => nomatch (show (none : Option aR) = some r from h)
theorem sd_go (E : am_E p l R s m meth c D cA base t1 t2 sa q ad0 n0 c0 s0 r) (hmc : r.2.2.1 = c0 + mc) (hms : r.2.2.2 = s0 + ms) (hT : am_tb q c) (hRd : d + 9 ≤ R.frames ∧ 64 * d + 264 ≤ R.locals) (hcal : am_Snd l D cA base t1 t2 sa d cal) (hJ : ∀ z, am_S p l e R s m args below meth c D cA base q ad0 n0 c0 s0 (am_Q D cA base ad0 n0 r below args s mc ms) r z (J z)) : ∀ (is : List aI) (pc : Nat), am_ckb q hs pc is = true → am_S p l e R s m args below meth c D cA base q ad0 n0 c0 s0 (am_Q D cA base ad0 n0 r below args s mc ms) r pc (am_go cal hs J some is)
  | [], _, _ => fun _ _ _ h => nomatch h
  | i :: t, pc, h => by
    obtain ⟨h1, h2⟩ := am_an (show (am_ck q hs pc i && am_ckb q hs (pc + i.2.1) t) = true from h)
    exact sd_1 E hmc hms hT hRd hcal i h1 (sd_go E hmc hms hT hRd hcal hJ t _ h2) hJ
theorem am_bk_ck {hs : List aH} : ∀ (bs : List (Nat × List aI)) (pc : Nat), bs.all (fun b => am_ckb q hs b.1 b.2) = true → am_ckb q hs pc (am_bk bs pc) = true
  | [], _, _ => rfl
  | b :: t, pc, h => by
    obtain ⟨h1, h2⟩ := am_an (show (am_ckb q hs b.1 b.2 && t.all (fun b => am_ckb q hs b.1 b.2)) = true from h)
    show am_ckb q hs pc (bif Nat.beq b.1 pc then b.2 else am_bk t pc) = true
    cases hb : Nat.beq b.1 pc with
    | true =>
      have e1 := Nat.eq_of_beq_eq_true hb
      subst e1
      exact h1
    | false => exact am_bk_ck t pc h2
theorem sd_ex {K : aK} (E : am_E p l R s m meth c D cA base t1 t2 sa q ad0 n0 c0 s0 r) (hmc : r.2.2.1 = c0 + mc) (hms : r.2.2.2 = s0 + ms) (hT : am_tb q c) (hRd : d + 9 ≤ R.frames ∧ 64 * d + 264 ≤ R.locals) (hcal : am_Snd l D cA base t1 t2 sa d cal) (hK : K.1.all (fun b => am_ckb q K.2.1 b.1 b.2) = true) : ∀ (n pc : Nat), am_S p l e R s m args below meth c D cA base q ad0 n0 c0 s0 (am_Q D cA base ad0 n0 r below args s mc ms) r pc (am_ex cal K n pc)
  | 0, _ => fun _ _ _ h => nomatch h
  | n + 1, pc => sd_go E hmc hms hT hRd hcal (sd_ex E hmc hms hT hRd hcal hK n) (am_bk K.1 pc) pc (am_bk_ck K.1 pc hK)
end SIM9
theorem am_ar_eq (ad : Nat → Nat) : ∀ (as : List Value) (i : Nat), am_lc ad (am_ar i as) = lv_args i (as.map (ac ad))
  | [], _ => rfl
  | v :: r, i => by
    have e1 : (if (ac ad v).category = 2 then i + 2 else i + 1) = i + v.category := by
      rw [ac_cat]
      cases v <;> rfl
    show (i, ac ad v) :: am_lc ad (am_ar (i + v.category) r) = (i, ac ad v) :: lv_args (if (ac ad v).category = 2 then i + 2 else i + 1) (r.map (ac ad))
    rw [am_ar_eq ad r, e1]
theorem am_ar_wf {n : Nat} : ∀ (as : List Value) (i : Nat), am_ws n as → am_wl n (am_ar i as)
  | [], _, _ => fun _ h => nomatch h
  | v :: r, i, h => fun z hz => by
    rcases List.mem_cons.mp hz with rfl | hz
    · exact am_ws_h h
    · exact am_ar_wf r _ (am_ws_t h) z hz
theorem am_sl_len : ∀ (vs : List Value), (lg_sl vs).length = (vs.map fun v => v.category).sum
  | [] => rfl
  | v :: r => by
    have e0 : lg_sl (v :: r) = (if v.category = 2 then [.val v, .second] else [.val v]) ++ lg_sl r := rfl
    rw [e0, List.length_append, am_sl_len r]
    cases v <;> simp [Value.category]
theorem am_ML_ok : ∀ m, m < 157 → am_ML.getD m 0 = (am_sp m).2.2.1 := by decide +kernel
theorem am_law_no : am_at (am_sp 155).2.2.2.2.2 (am_cw (am_sp 155)) = false := by decide +kernel
/-- every method of the table, to any depth -/
theorem sd_Y {l : Launch} (htr : l.stackTraces = false) {D : va_G} {cA : Nat → ClassId} {base t1 t2 : Nat} {sa : Nat → Nat} (ckall : ∀ mi, mi < 157 → mi ≠ 155 → am_ckk (am_sp mi) (am_K mi) = true) : ∀ d, am_Snd l D cA base t1 t2 sa d (am_Y d)
  | 0 => fun _ _ _ _ _ _ h => nomatch h
  | d + 1 => fun mi as M r hmi hat hrun => by
    refine ⟨mo_Y (d + 1) mi as M r hrun, fun ad mc ms had1 had2 hlen hws hmc hms => ?_⟩
    obtain ⟨hcs, hrun⟩ := iv_c (show (bif Nat.ble (am_cs as) (am_ML.getD mi 0) then am_X (am_Y d) (am_K mi) 0 (am_pj (am_K mi).2.2 (am_ar 0 as)) [] M else none) = some r from hrun)
    have hcs : am_cs as ≤ (am_sp mi).2.2.1 := by rw [← am_ML_ok mi hmi]; exact Nat.le_of_ble_eq_true hcs
    obtain ⟨n, hn⟩ := am_X_iff.mp hrun
    have hck := ckall mi hmi (fun h => by rw [h, am_law_no] at hat; exact nomatch hat)
    obtain ⟨hck, hck2⟩ := am_an hck
    obtain ⟨hpn, -⟩ := am_an hck2
    have hpn := of_decide_eq_true hpn
    have hall := sd_Y htr (D := D) (cA := cA) (base := base) (t1 := t1) (t2 := t2) (sa := sa) ckall d
    have body : ∀ (p : Program) (e : Env) (s : State) (m : MethodId) (args : Array Value) (below : List Frame) (meth : Method) (c : Code) (s₁ : State), BodyLoose p l (am_sp mi).1 (headSpec [am_cw (am_sp mi)] (am_rm (d + 1) mc ms)) (am_sp mi).2.1 (am_sp mi).2.2.1 (am_sp mi).2.2.2.1 e s m args below meth c s₁ → c.maxLocals = (am_sp mi).2.2.1 → am_tb (am_sp mi) c → ac_Pc D cA base t1 t2 sa ad M as args s →
        W p l e (headSpec [am_cw (am_sp mi)] (am_rm (d + 1) mc ms)).room s m args below meth c s.heap [] 0 0 (vx_MQ below (ac_Qc D cA base ad M.1.length r) (ac_XC D cA base ad M.1.length r) args s mc ms (ac_A base)) (entryFrame m args (am_sp mi).2.2.1) := by
      intro p e s m args below meth c s₁ B hml hT hv
      obtain ⟨rfl, hG, hR⟩ := hv
      have E : am_E p l (am_rm (d + 1) mc ms) s m meth c D cA base t1 t2 sa (am_sp mi) ad M.1.length M.2.1 M.2.2 r :=
        ⟨B.exec, B.bytes, hml, findClass_of_methodNamed B.named, B.returns, B.notSynchronized, (name_of_methodNamed B.named B.method).1, hG, hR.2.2.2.2, by show 8 ≤ d + 1 + 8; omega, by show 200 ≤ 64 * (d + 1) + 200; omega, htr, ⟨had1, had2, hlen⟩, by show r.2.2.1 ≤ M.2.1 + mc; omega, by show r.2.2.2 ≤ M.2.2 + ms; omega⟩
      have key := (sd_ex (e := e) (args := (as.map (ac ad)).toArray) (below := below) E hmc hms hT ⟨by show d + 9 ≤ d + 1 + 8; omega, by show 64 * d + 264 ≤ 64 * (d + 1) + 200; omega⟩ hall hck n 0 _ _ _ hn).2
      rw [lg_entry_eq]
      have hl := lv_entry (as.map (ac ad)) (n := (am_sp mi).2.2.1) (by rw [am_sl_len, am_cs_map]; exact hcs)
      rw [← am_ar_eq] at hl
      exact key s.heap [] _ ad 0 0 ⟨fun _ _ => rfl, Nat.le_refl _, hR, va_S.rf, am_lc_pj hl _, am_wl_pj (am_ar_wf as 0 hws) _, (fun _ h => nomatch h), rfl, rfl⟩
    cases hh : (am_sp mi).2.2.2.2.1 with
    | nil =>
      have ecw : [am_cw (am_sp mi)] = Cond.code (am_sp mi).1 (am_sp mi).2.1 (am_sp mi).2.2.1 (am_sp mi).2.2.2.1 :: [] := by
        unfold am_cw
        rw [hh]
      exact vx_ofW hpn ecw (fun p e s m args below meth c s₁ B hml hex hv => body p e s m args below meth c s₁ B hml ⟨fun _ => hex, fun h => absurd hh h⟩ hv)
    | cons y ys =>
      have ecw : [am_cw (am_sp mi)] = Cond.codeWith (am_sp mi).1 (am_sp mi).2.1 (am_sp mi).2.2.1 (am_sp mi).2.2.2.1 (y :: ys) :: [] := by
        unfold am_cw
        rw [hh]
      refine vx_ofWH hpn ecw (fun p e s m args below meth c s₁ B hml hv => body p e s m args below meth c s₁ B hml ⟨(fun h => by rw [hh] at h; exact nomatch h), fun _ => ?_⟩ hv)
      rw [hh]
      refine vx_table (x := (am_sp mi).1) B (bytes := (am_sp mi).2.1) (maxL' := (am_sp mi).2.2.1) (ret' := (am_sp mi).2.2.2.1) ?_
      have := hv.2.1.word hat args
      unfold am_cw at this
      rw [hh] at this
      exact this
