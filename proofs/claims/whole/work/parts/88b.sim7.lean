/-! WHAT THE LIBRARY DOES, AND THROWS -/
section SIM7
variable {p : Program} {l : Launch} {e : Env} {R : Room} {s : State} {m : MethodId} {args : Array Value} {below : List Frame} {meth : Method} {c : Code} {D : va_G} {cA : Nat → ClassId} {base t1 t2 : Nat} {sa : Nat → Nat} {q : aS} {ad0 : Nat → Nat} {n0 c0 s0 : Nat} {Qt : State → Prop} {r : aR}
variable {cal : aY} {hs : List aH} {J : Nat → aL → List Value → aM → Option aR} {k : aL → List Value → aM → Option aR} {pc len : Nat} {ops : List Nat} {v : Value}
theorem sd_objinit {j : Nat} (E : am_E p l R s m meth c D cA base t1 t2 sa q ad0 n0 c0 s0 r) (hk : am_S p l e R s m args below meth c D cA base q ad0 n0 c0 s0 Qt r (pc + len) k) (hn : ops.headD 0 = 1002) (hck : am_ck q hs pc (.invokespecial j, len, ops, v) = true) : am_S p l e R s m args below meth c D cA base q ad0 n0 c0 s0 Qt r pc (am_1 cal hs J some (.invokespecial j, len, ops, v) k) := by
  obtain ⟨hx, hb, hml, hown, hret, hlk, hnm, hG, hbs, hfr, hlo, htr, had, hrc, hrs⟩ := E
  intro L st M hrun
  obtain ⟨h1, h2⟩ := am_an hck
  obtain ⟨hd, rfl⟩ := am_dk_ok h1
  have h3 : ∃ w1 w2 w3 t, ops = 1002 :: w1 :: w2 :: w3 :: t ∧ am_at w1 (.methodLink q.1.cls j Lib.objectInit) = true ∧ am_at w2 (.instanceMethod Lib.objectInit) = true ∧ am_at w3 (.code Lib.objectInit ⟨#[0xb1]⟩ 1 none) = true := by
    dsimp only at h2
    split at h2
    · obtain ⟨g1, g2⟩ := am_an h2
      obtain ⟨g2, g3⟩ := am_an g2
      exact ⟨_, _, _, _, rfl, g1, g2, g3⟩
    · rename_i hne _ _ _ _ _ _ _ _
      obtain ⟨g1, -⟩ := am_an h2
      obtain ⟨g1, -⟩ := am_an g1
      have g1 := Nat.le_of_ble_eq_true g1
      have hn : _ = 1002 := hn
      simp only [List.headD] at hn g1
      omega
    · exact nomatch h2
  obtain ⟨w1, w2, w3, t, rfl, a1, a2, a3⟩ := h3
  obtain ⟨a, w, rfl, h⟩ := iv_A1 (show am_A1 st _ = some r from hrun)
  obtain ⟨h4, h⟩ := iv_c h
  have h4 : am_cs w ≤ 100 := Nat.le_of_ble_eq_true h4
  obtain ⟨hm, hk⟩ := hk _ _ _ h
  refine ⟨hm, fun H locs ls ad cells slots I => ?_⟩
  exact W.objInit hx hb hown (hG.word a1 args) (hG.word a2 args) (hG.word a3 args) rfl (I.lv.1.trans hml.symm) rfl hd (by omega) (by
    show 2 * 0 + ((w.map (ac ad)).map fun v => v.category).sum + 12 ≤ R.locals
    rw [am_cs_map]
    omega) (hk H locs ls ad cells slots (I.stk (am_ws_t I.ws)))
theorem sd_mabs {j : Nat} (E : am_E p l R s m meth c D cA base t1 t2 sa q ad0 n0 c0 s0 r) (hk : am_S p l e R s m args below meth c D cA base q ad0 n0 c0 s0 Qt r (pc + len) k) (hn : ops.headD 0 = 1003) (hck : am_ck q hs pc (.invokestatic j, len, ops, v) = true) : am_S p l e R s m args below meth c D cA base q ad0 n0 c0 s0 Qt r pc (am_1 cal hs J some (.invokestatic j, len, ops, v) k) := by
  obtain ⟨hx, hb, hml, hown, hret, hlk, hnm, hG, hbs, hfr, hlo, htr, had, hrc, hrs⟩ := E
  intro L st M hrun
  obtain ⟨h1, h2⟩ := am_an hck
  obtain ⟨hd, rfl⟩ := am_dk_ok h1
  have h3 : ∃ w1 w2 w3 w4 t, ops = 1003 :: w1 :: w2 :: w3 :: w4 :: t ∧ am_at w1 (.methodLink q.1.cls j Lib.Math.abs.name) = true ∧ am_at w2 (.static Lib.Math.abs.name) = true ∧ am_at w3 (.code Lib.Math.abs.name Lib.Math.abs.code 1 (some .int)) = true ∧ am_at w4 (.initialized "java/lang/Math") = true := by
    dsimp only at h2
    split at h2
    · exact absurd (show (1001 : Nat) = 1003 from hn) (by decide)
    · obtain ⟨g1, g2⟩ := am_an h2
      obtain ⟨g2, g3⟩ := am_an g2
      obtain ⟨g3, g4⟩ := am_an g3
      exact ⟨_, _, _, _, _, rfl, g1, g2, g3, g4⟩
    · obtain ⟨g1, -⟩ := am_an h2
      obtain ⟨g1, -⟩ := am_an g1
      have g1 := Nat.le_of_ble_eq_true g1
      have hn : _ = 1003 := hn
      simp only [List.headD] at hn g1
      omega
    · exact nomatch h2
  obtain ⟨w1, w2, w3, w4, t, rfl, a1, a2, a3, a4⟩ := h3
  obtain ⟨x, w, rfl, h⟩ := iv_I1 (show am_I1 st _ = some r from hrun)
  obtain ⟨h4, h⟩ := iv_c h
  have h4 : am_cs w ≤ 100 := Nat.le_of_ble_eq_true h4
  obtain ⟨hm, hk⟩ := hk _ _ _ h
  refine ⟨hm, fun H locs ls ad cells slots I => ?_⟩
  have i8 : M.2.1 = c0 + cells := I.2.2.2.2.2.2.2.1
  have i9 : M.2.2 = s0 + slots := I.2.2.2.2.2.2.2.2
  have m1 := hm.1
  have m2 := hm.2
  exact va_mabs hx hb (hml.trans I.lv.1.symm) hown (hG.word a1 args) (hG.word a2 args) (hG.word a4 args) (hG.word a3 args) (by omega) (by rw [am_cs_map]; omega) (by omega) (by omega) hd (hk H locs ls ad cells slots (I.stk (am_ws_c ac_wf_int (am_ws_t I.ws))))
/-- System.arraycopy from the beginning of one array of chars to that of another (follows the kit's va_copyi, with what else the heap holds) -/
theorem ar_copy {cc : ByteArray} {H : Heap} {locs : List Loc} {cells slots : Nat} {ls : Array Slot} {rest : List Value} (hexec : p.tables.exec = Jvm.exec) (hb : c.code = cc) (hml : c.maxLocals = ls.size) {own : String} {index : Nat} (hown : s.vm.findClass own = some m.cls) (hlink : (Cond.methodLink own index arraycopyName).before args s = true) (hnat : (Cond.native arraycopyName).before args s = true) (hstat : (Cond.static arraycopyName).before args s = true) (hini : (Cond.initialized "java/lang/System").before args s = true)
    {a0 a1 : Nat} {c0 : ClassId} {n0 n1 : Nat} {f g : Nat → Value} (hA : ArrOfT s c0 .char) (hc0 : H[a0]? = some (arrV c0 n0 f)) (hc1 : H[a1]? = some (arrV c0 n1 g)) {n : Int32} (h3 : ¬ n < 0) (h4 : n.toNatClampNeg ≤ n0) (h5 : n.toNatClampNeg ≤ n1) (hfit : ∀ i, i < n.toNatClampNeg → fits .char (f i) = true ∧ ∀ z, f i ≠ .ref z)
    (hframes : 1 ≤ R.frames) (hlocals : (rest.map fun v => v.category).sum + (nativeFrameWords "java/lang/System" "arraycopy" 5 + 11) ≤ R.locals) (hdg : decode cc pc = .ok (.invokestatic index, 3))
    (kk : ∀ (H1 : Heap) (L : List Loc), (∀ z ∈ L, z.base = a1) → H1[a1]? = some (arrV c0 n1 (va_cpy f g 0 0 n.toNatClampNeg)) → H1.size = H.size → (∀ z, z ≠ a1 → H1[z]? = H[z]?) → W p l e R s m args below meth c H1 (locs ++ L) cells slots Qt (F0 m (pc + 3) ls rest)) : W p l e R s m args below meth c H locs cells slots Qt (F0 m pc ls (.int n :: .int 0 :: .ref a1 :: .int 0 :: .ref a0 :: rest)) := by
  have nn : ∀ z : Int32, ¬ z < 0 → z.toInt = (z.toNatClampNeg : Int) := by
    intro z hz
    have hz0 : (0 : Int) ≤ z.toInt := by
      have := Int32.not_lt.mp hz
      simpa using Int32.le_iff_toInt_le.mp this
    show z.toInt = ((z.toInt.toNat : Nat) : Int)
    omega
  have z0 : ((0 : Int32)).toInt = 0 := rfl
  intro T hT X
  obtain ⟨-, k0, hk0, cm0, hkk0⟩ := hA n0 f
  obtain ⟨-, k1, hk1, cm1, hkk1⟩ := hA n1 g
  obtain ⟨vm', X', step⟩ := X.arraycopy hexec hown hlink hnat hstat hini (src := a0) (dst := a1) (cs := arrV c0 n0 f) (cd := arrV c0 n1 g) (srcPos := 0) (destPos := 0) (n := n) (by rw [hT]; exact hc0) (by rw [hT]; exact hc1)
    (fun _ h => by cases h) (fun _ h => by cases h) (fun h => by cases h) (fun h => by cases h) hk0 hk1 hkk0 hkk1 (by simp [refKind]) (by decide) (by decide) h3
    (by rw [z0, nn n h3, arrV_size]; omega)
    (by rw [z0, nn n h3, arrV_size]; omega)
    (fun vm₁ _ i hi => by
      have e : (arrV c0 n0 f).slots.getD (((0 : Int32)).toNatClampNeg + i) .null = f i := by
        have e0 : ((0 : Int32)).toNatClampNeg + i = i := by rw [sb_cl0]; omega
        rw [e0, Array.getD_eq_getD_getElem?, arrV_read _ _ (by omega)]
        rfl
      refine ⟨?_, ?_⟩
      · rw [e]
        exact (hfit i hi).1
      · rw [e]
        have := (hfit i hi).2
        cases hfi : f i <;> first | exact trivial | exact absurd hfi (this _))
    (g := F0 m pc ls (.int n :: .int 0 :: .ref a1 :: .int 0 :: .ref a0 :: rest)) rfl (by rw [hml]) (rest := rest) rfl (by rw [hb]; exact hdg) hframes (by show 2 * 0 + _ + _ ≤ _; omega)
  have e1 : copied (arrV c0 n0 f) (arrV c0 n1 g) 0 0 n = arrV c0 n1 (va_cpy f g 0 0 n.toNatClampNeg) := va_copied (fun z => z) c0 c0 f g (by rw [sb_cl0]; omega)
  rw [e1] at X' step
  have hl : a1 < H.size := (Array.getElem?_eq_some_iff.mp hc1).1
  have hheap : ((T.setVm vm').setCell a1 (arrV c0 n1 (va_cpy f g 0 0 n.toNatClampNeg))).heap = H.setIfInBounds a1 (arrV c0 n1 (va_cpy f g 0 0 n.toNatClampNeg)) := by rw [← hT]; rfl
  obtain ⟨t, a2, b1⟩ := kk _ _ (fun z hz => by obtain ⟨y, -, hy⟩ := List.mem_map.mp hz; rw [← hy]) (show (H.setIfInBounds a1 _)[a1]? = some _ by simp [Array.getElem?_setIfInBounds, hl]) (by simp) (fun z hz => by simp [Array.getElem?_setIfInBounds, Ne.symm hz]) _ hheap X'
  exact ⟨t, step t a2, b1⟩
theorem sd_acopy {j : Nat} (E : am_E p l R s m meth c D cA base t1 t2 sa q ad0 n0 c0 s0 r) (hk : am_S p l e R s m args below meth c D cA base q ad0 n0 c0 s0 Qt r (pc + len) k) (hn : ops.headD 0 = 1001) (hck : am_ck q hs pc (.invokestatic j, len, ops, v) = true) : am_S p l e R s m args below meth c D cA base q ad0 n0 c0 s0 Qt r pc (am_1 cal hs J some (.invokestatic j, len, ops, v) k) := by
  obtain ⟨hx, hb, hml, hown, hret, hlk, hnm, hG, hbs, hfr, hlo, htr, had, hrc, hrs⟩ := E
  intro L st M hrun
  obtain ⟨h1, h2⟩ := am_an hck
  obtain ⟨hd, rfl⟩ := am_dk_ok h1
  have h3 : ∃ w1 w2 w3 w4 t, ops = 1001 :: w1 :: w2 :: w3 :: w4 :: t ∧ am_at w1 (.methodLink q.1.cls j arraycopyName) = true ∧ am_at w2 (.static arraycopyName) = true ∧ am_at w3 (.native arraycopyName) = true ∧ am_at w4 (.initialized "java/lang/System") = true := by
    dsimp only at h2
    split at h2
    · obtain ⟨g1, g2⟩ := am_an h2
      obtain ⟨g2, g3⟩ := am_an g2
      obtain ⟨g3, g4⟩ := am_an g3
      exact ⟨_, _, _, _, _, rfl, g1, g2, g3, g4⟩
    · exact absurd (show (1003 : Nat) = 1001 from hn) (by decide)
    · obtain ⟨g1, -⟩ := am_an h2
      obtain ⟨g1, -⟩ := am_an g1
      have g1 := Nat.le_of_ble_eq_true g1
      have hn : _ = 1001 := hn
      simp only [List.headD] at hn g1
      omega
    · exact nomatch h2
  obtain ⟨w1, w2, w3, w4, t, rfl, a1, a2, a3, a4⟩ := h3
  obtain ⟨n, u1, rfl, z1⟩ := iv_I1 (show am_I1 st _ = some r from hrun)
  obtain ⟨dp, u2, rfl, z2⟩ := iv_I1 z1
  obtain ⟨b, u3, rfl, z3⟩ := iv_A1 z2
  obtain ⟨sp, u4, rfl, z4⟩ := iv_I1 z3
  obtain ⟨a, w, rfl, z5⟩ := iv_A1 z4
  obtain ⟨h4, h⟩ := iv_c z5
  have h4 : am_cs w ≤ 100 := Nat.le_of_ble_eq_true h4
  by_cases hz : sp = 0 ∧ dp = 0
  · rw [if_pos hz] at h
    obtain ⟨rfl, rfl⟩ := hz
    obtain ⟨j', h6, h⟩ := iv_b h
    obtain ⟨hn2, rfl⟩ := iv_ix h6
    obtain ⟨M', hcp, h⟩ := iv_b h
    unfold am_cp at hcp
    obtain ⟨⟨kc, fa⟩, g1, hcp⟩ := iv_b hcp
    obtain ⟨⟨kd, fb⟩, g2, hcp⟩ := iv_b hcp
    obtain ⟨g3, hcp⟩ := iv_c hcp
    have e1 : M' = (M.1.set b (kd, fa.take n.toNatClampNeg ++ fb.drop n.toNatClampNeg), M.2) := (Option.some.inj hcp).symm
    subst e1
    simp only [Bool.and_eq_true] at g3
    obtain ⟨f1, f2, ⟨f3, f4⟩, f5, f6, f7⟩ := g3
    have f1 := Nat.eq_of_beq_eq_true f1
    have f2 := Nat.eq_of_beq_eq_true f2
    subst f1; subst f2
    have f3 : am_ro ≤ a := Nat.le_of_ble_eq_true f3
    have f4 : am_ro ≤ b := Nat.le_of_ble_eq_true f4
    have f5 : n.toNatClampNeg ≤ fa.length := Nat.le_of_ble_eq_true f5
    have f6 : n.toNatClampNeg ≤ fb.length := Nat.le_of_ble_eq_true f6
    have f7 := List.all_eq_true.mp f7
    obtain ⟨hm, hk⟩ := hk _ _ _ h
    refine ⟨hm, fun H locs ls ad cells slots I => ?_⟩
    obtain ⟨-, q1, q2, -⟩ := (I.rl.1 a _ g1).2 (show 10 ≤ 13 by decide)
    obtain ⟨-, q3, q4, -⟩ := (I.rl.1 b _ g2).2 (show 10 ≤ 13 by decide)
    have hnw : nativeFrameWords "java/lang/System" "arraycopy" 5 ≤ 60 := by decide
    have q2 := q2 f3
    have q4 := q4 f4
    have hbl : b < M.1.length := (List.getElem?_eq_some_iff.mp g2).1
    refine ar_copy hx hb (hml.trans I.lv.1.symm) hown (hG.word a1 args) (hG.word a3 args) (hG.word a2 args) (hG.word a4 args) (hG.2.2.1 13 (by decide) (by decide)).1 q2 q4 hn2 f5 f6 (fun i hi => ?_) (by omega) (by rw [am_cs_map]; omega) hd (fun H1 L' r1 r2 r3 r4 => ?_)
    · have hia : i < fa.length := by omega
      have hmem : fa[i]'hia ∈ fa.take n.toNatClampNeg := by
        rw [List.mem_take_iff_getElem]
        exact ⟨i, by omega, rfl⟩
      have h9 := f7 _ hmem
      have e9 : fa.getD i .null = fa[i]'hia := by simp [hia]
      show fits .char (ac ad (fa.getD i .null)) = true ∧ ∀ z, ac ad (fa.getD i .null) ≠ .ref z
      rw [e9]
      refine ⟨(am_ft_ok (ad := ad) (t := .char) h9).2, fun z hz => ?_⟩
      generalize fa[i]'hia = vv at h9 hz
      cases vv with
      | ref _ => exact nomatch h9
      | _ => exact nomatch hz
    · have hwf : ∀ u ∈ fa.take n.toNatClampNeg ++ fb.drop n.toNatClampNeg, ac_wf M.1.length u := fun u hu => by
        rcases List.mem_append.mp hu with h8 | h8
        · exact I.rl.2.2.2.1 a _ g1 u (List.mem_of_mem_take h8)
        · exact I.rl.2.2.2.1 b _ g2 u (List.mem_of_mem_drop h8)
      have hlen : (fa.take n.toNatClampNeg ++ fb.drop n.toNatClampNeg).length = fb.length := by simp; omega
      have hS2 : va_S (ac_A base) s.heap H1 (locs ++ L') := by
        have i4 := I.sm
        refine ⟨by rw [r3]; exact i4.1, fun z z1 z2 => ?_, fun z hz => ?_⟩
        · rw [r4 z (fun e9 => z2 (by rw [e9]; exact I.rl.2.2.1 b f4 hbl))]
          exact i4.2.1 z z1 z2
        · rcases List.mem_append.mp hz with h8 | h8
          · exact i4.2.2 z h8
          · rw [r1 z h8]; exact I.rl.2.2.1 b f4 hbl
      refine hk H1 _ ls ad cells slots (I.put (I.rl.set f4 g2 hwf r3 r4 ⟨fun h8 => absurd (show 13 < 10 from h8) (by decide), fun _ => ⟨show 13 < 17 by decide, by rw [hlen]; exact q3, fun _ => ?_, fun h8 => absurd f4 (Nat.not_le.mpr h8)⟩⟩) hS2 (am_ws_t (am_ws_t (am_ws_t (am_ws_t (am_ws_t I.ws))))))
      rw [r2]
      show some (arrV (cA 13) fb.length _) = some (arrV (cA 13) (fa.take n.toNatClampNeg ++ fb.drop n.toNatClampNeg).length _)
      rw [hlen]
      refine congrArg some (arrV_congr fun i hi => ?_)
      show va_cpy (fun j => ac ad (fa.getD j .null)) (fun j => ac ad (fb.getD j .null)) 0 0 n.toNatClampNeg i = ac ad ((fa.take n.toNatClampNeg ++ fb.drop n.toNatClampNeg).getD i .null)
      unfold va_cpy
      by_cases h8 : i < n.toNatClampNeg
      · rw [if_pos ⟨Nat.zero_le _, by omega⟩]
        show ac ad (fa.getD (0 + (i - 0)) .null) = _
        congr 1
        rw [List.getD_eq_getElem?_getD, List.getD_eq_getElem?_getD, List.getElem?_append_left (by simp; omega), List.getElem?_take_of_lt h8]
        simp
      · rw [if_neg (by omega)]
        show ac ad (fb.getD i .null) = _
        congr 1
        rw [List.getD_eq_getElem?_getD, List.getD_eq_getElem?_getD, List.getElem?_append_right (by simp; omega), List.getElem?_drop]
        have e7 : n.toNatClampNeg + (i - (fa.take n.toNatClampNeg).length) = i := by
          rw [List.length_take]
          omega
        rw [e7]
  · rw [if_neg hz] at h
    exact nomatch h
end SIM7
