section NXT
variable {p : Program} {l : Launch} {e : Env} {R : Room} {s : State} {m : MethodId} {args : Array Value} {below : List Frame} {meth : Method} {c : Code} {H : Heap} {locs : List Loc} {cells slots : Nat} {Q : State → Prop}
variable {mc ms : Nat} {free : Addr → Prop} {A0 A1 : Nat → Prop} {H0 : Heap} {a : Array Value} {ls : Array Slot} {st0 rest : List Value}
variable {Qc : Array Value → State → Outcome → State → Prop} {XC : String → State → State → Prop}
theorem nx_throwS {cc : ByteArray} {pc : Nat} (hexec : p.tables.exec = Jvm.exec) (hb : c.code = cc) (hl : l.stackTraces = false) {own text : String} {ik is ic mc ms sa : Nat} {A : Nat → Prop}
    (hown : s.vm.findClass own = some m.cls) (hcls : Bundle.fit nx_cls = true)
    (hk : (Cond.classLink own ik nx_cls).before args s = true) (hini : (Cond.initialized nx_cls).before args s = true) (hstr : vk_R own is text sa s) (hat : ∀ w ∈ (nx_own own ic).filter vx_no, w.before args s = true)
    (hgood : ∀ w ∈ Cond.classLink own ik nx_cls :: Cond.initialized nx_cls :: (nx_own own ic).filter vx_no, vx_ot w = true)
    (hU : vx_Zq Bundle.tN "UNASSIGNED_STACK" Bundle.steD A s s.heap) (hN : vx_Zq Bundle.tN "SUPPRESSED_SENTINEL" Bundle.listD A s s.heap) (hS : va_S A s.heap H locs) (hsize : ls.size = c.maxLocals)
    (d0 : decode cc pc = .ok (.new ik, 3)) (d3 : decode cc (pc + 3) = .ok (.dup, 1)) (d4 : decode cc (pc + 4) = .ok (.ldc is, 2)) (d6 : decode cc (pc + 6) = .ok (.invokespecial ic, 3)) (d9 : decode cc (pc + 9) = .ok (.athrow, 1))
    (hout : ∀ x ∈ c.exceptionTable.toList, covers x (pc + 9) = false)
    (hRframes : 2 + 3 < R.frames) (hRlocals : (rest.map fun v => v.category).sum + (13 * (2 + 1) + 43) ≤ R.locals) (hRcells : cells + 1 ≤ R.cells) (hRslots : slots + 6 ≤ R.slots) (hlocks : meth.locks = false)
    (hx : ∀ t : State, s.vm.Alike t.vm → H.size ≤ t.heap.size → (∀ q : Nat, q < H.size → t.heap[q]? = H[q]?) → XC nx_cls s t)
    (hf : ∀ z ∈ locs, free z.base) (hc : cells + 1 ≤ mc) (hs : slots + 6 ≤ ms) :
    W p l e R s m args below meth c H locs cells slots (vx_MQ below Qc XC args s mc ms free) (F0 m pc ls rest) := by
  intro T hT X
  have htr : e.platform.stackTraces = false := (show e.platform.stackTraces = l.stackTraces by rw [X.admits.platform]).trans hl
  have Y := vx_rebase X (R' := { frames := R.frames, locals := R.locals, cells := 1, slots := 6 }) (Nat.le_refl _) (Nat.le_refl _) hRcells hRslots
  obtain ⟨s', hA⟩ : ∃ z, z = (T.setVm s.vm).setFrames (.invoking m args :: below) := ⟨_, rfl⟩
  rw [← hA] at Y
  have hvm : s'.vm = s.vm := by rw [hA]; rfl
  have hhp : s'.heap = H := by rw [hA]; exact hT
  have hW0 : s.WarmedH s'.vm := by rw [hvm]; exact State.WarmedH.refl s
  have hat' : ∀ w ∈ (nx_own own ic).filter vx_no, w.before args s' = true := fun w hw => vx_ot_at hW0 hvm.symm (hgood w (List.mem_cons_of_mem _ (List.mem_cons_of_mem _ hw))) (hat w hw)
  have hk' : (Cond.classLink own ik nx_cls).before args s' = true := vx_ot_at hW0 hvm.symm (hgood _ List.mem_cons_self) hk
  have hini' : (Cond.initialized nx_cls).before args s' = true := vx_ot_at hW0 hvm.symm (hgood _ (List.mem_cons_of_mem _ List.mem_cons_self)) hini
  have hU' : vx_Zq Bundle.tN "UNASSIGNED_STACK" Bundle.steD A s' s'.heap := by rw [hhp]; exact vx_Zq.moved hW0.alike (hU.kept hS.2.1)
  have hN' : vx_Zq Bundle.tN "SUPPRESSED_SENTINEL" Bundle.listD A s' s'.heap := by rw [hhp]; exact vx_Zq.moved hW0.alike (hN.kept hS.2.1)
  have h : ∀ w ∈ nx_own own ic, w.before args s' = true := vx_own hat' (vx_isRefq hU'.1) (vx_isRefq hN'.1) hU'.2.word hN'.2.word
  have hown' : s'.vm.findClass own = some m.cls := by rw [hvm]; exact hown
  have hins : (Cond.instantiable nx_cls 6).before args s' = true := h _ (by simp [nx_own])
  obtain ⟨vm₁, cX, kX, hfX, hkX, -, -, X₁, st1⟩ := Y.newCold hexec (own := own) (C := nx_cls) (index := ik) (n := 6) hown' hk' hins hini'
    (g := F0 m pc ls rest) rfl (by rw [hb]; exact d0) (Nat.le_refl _) (Nat.le_refl _)
  generalize hT1 : (T.setVm vm₁).pushCell { cls := cX, slots := kX.instanceTypes.map defaultValue, vm := .none } = T1 at X₁ st1
  have hcat : (Value.ref T.heap.size).category = 1 := rfl
  have hcellA : T1.heap[T.heap.size]? = some (freshCell cX kX) := by rw [← hT1]; exact State.heap_pushCell_size _ _
  have d3' : decode c.code (pc + 3) = .ok (.dup, 1) := by rw [hb]; exact d3
  have d4' : decode c.code (pc + 4) = .ok (.ldc is, 2) := by rw [hb]; exact d4
  have hstr' : vk_R own is text sa s' := vk_R.warm hW0 hstr
  obtain ⟨U, hsteps, hrun, hend, hW, hsame, ce, hce, hOv, hOc⟩ := nx_ctor X₁ hexec htr (own := own) (ic := ic) hown' hcls h (fun x hx => nomatch hx) hfX hkX hcellA (by rw [hhp, hT]; exact Nat.le_refl _) (msg := .ref sa) rfl
    (g := { method := m, pc := pc + 6, locals := ls, stack := .ref sa :: .ref T.heap.size :: .ref T.heap.size :: rest, locked := none }) rfl hsize rfl rfl (rest := rest) rfl
    (by rw [hb]; exact d6) (by rw [hb]; exact d9) hout hRframes (by simp only [List.map_cons, List.sum_cons, hcat]; omega) hlocks
  obtain ⟨f1, f2⟩ := vx_frame hsame
  rw [hhp] at f1 f2
  have hWs : s.WarmedH U.vm := State.WarmedH.trans hW0 hW
  have hcl : s.vm.findClass nx_cls = some ce.cls := by
    have h9 := hOc
    rw [hvm] at h9
    exact h9
  have hall : s.sameButNew ({ U with vm := s.vm } : State) locs mc ms := by
    subst hA
    obtain ⟨e1, e2⟩ := hsame
    rw [State.setFrames_setFrames] at e1
    have h2 : (T.setVm s.vm).sameButNew ({ U with vm := s.vm } : State) [] (0 + 1) (0 + 6) := ⟨e1, e2⟩
    have h3 := X.same.trans h2
    rw [List.append_nil] at h3
    exact h3.mono hc hs
  refine ⟨U, ?_, .threw T.heap.size, hrun, hend, Or.inr ⟨T.heap.size, rfl, nx_cls, ce, locs, hx U hWs.alike f1 (fun q hq => f2 q hq (fun z hz => nomatch hz)), hce, hOv, hcl, hWs, hall, hf⟩⟩
  refine st1 _ ?_
  show Steps p.tables e below (T1.setTop { method := m, pc := pc + 3, locals := ls, stack := .ref T.heap.size :: rest, locked := none }) _
  jvm_step X₁.here [X₁.here.top, hexec, d3', Value.category]
  exact X₁.ldcString hexec (own := own) (text := text) (index := is) (a := sa) hown' hstr'.1 hstr'.2
    (g := { method := m, pc := pc + 4, locals := ls, stack := .ref T.heap.size :: .ref T.heap.size :: rest, locked := none }) rfl d4' _ hsteps
end NXT
theorem nx_thrw : ∀ w ∈ (nx_own "ActorMachine" 117).filter vx_no, (decide (w ∈ lw_tbl) && (am_okw w && vx_ot w)) = true := by decide +kernel
theorem am_thr2 : ∀ z ∈ am_thr, z.2 = 2 → z.1 = 117 := by decide +kernel
section SIM8
variable {p : Program} {l : Launch} {e : Env} {R : Room} {s : State} {m : MethodId} {args : Array Value} {below : List Frame} {meth : Method} {c : Code} {D : va_G} {cA : Nat → ClassId} {base t1 t2 : Nat} {sa : Nat → Nat} {q : aS} {ad0 : Nat → Nat} {n0 c0 s0 : Nat} {Qt : State → Prop} {r : aR}
variable {cal : aY} {hs : List aH} {J : Nat → aL → List Value → aM → Option aR} {k : aL → List Value → aM → Option aR} {pc len : Nat} {ops : List Nat} {v : Value}
theorem sd_throw {j : Nat} {mc ms : Nat} (E : am_E p l R s m meth c D cA base t1 t2 sa q ad0 n0 c0 s0 r) (hmc : r.2.2.1 = c0 + mc) (hms : r.2.2.2 = s0 + ms) (hT : am_tb q c) (hn : ops.headD 0 = 999) (hck : am_ck q hs pc (.new j, len, ops, v) = true) : am_S p l e R s m args below meth c D cA base q ad0 n0 c0 s0 (am_Q D cA base ad0 n0 r below args s mc ms) r pc (am_1 cal hs J some (.new j, len, ops, v) k) := by
  obtain ⟨hx, hb, hml, hown, hret, hlk, hnm, hG, hbs, hfr, hlo, htr, had, hrc, hrs⟩ := E
  intro L st M hrun
  obtain ⟨h1, h2⟩ := am_an hck
  obtain ⟨hd, -⟩ := am_dk_ok h1
  have h3 : ∃ x is ic w1 w2 t, ops = 999 :: x :: is :: ic :: w1 :: w2 :: t ∧ q.1.cls = "ActorMachine" ∧ q.2.2.2.2.1 = [] ∧ x < 5 ∧ (ic, x) ∈ am_thr ∧ (is, am_txt is) ∈ am_str ∧ am_dk q.2.1 (pc + 3) .dup 1 1 = true ∧ am_dk q.2.1 (pc + 4) (.ldc is) 2 2 = true ∧ am_dk q.2.1 (pc + 6) (.invokespecial ic) 3 3 = true ∧ am_dk q.2.1 (pc + 9) .athrow 1 1 = true ∧ am_at w1 (.classLink q.1.cls j (ac_E x)) = true ∧ am_at w2 (.initialized (ac_E x)) = true := by
    dsimp only at h2
    split at h2
    · obtain ⟨g1, g2⟩ := am_an h2
      obtain ⟨g2, g3⟩ := am_an g2
      obtain ⟨g3, g4⟩ := am_an g3
      obtain ⟨g4, g5⟩ := am_an g4
      obtain ⟨g5, g6⟩ := am_an g5
      obtain ⟨g6, g7⟩ := am_an g6
      obtain ⟨g7, g8⟩ := am_an g7
      obtain ⟨g8, g9⟩ := am_an g8
      obtain ⟨g9, g10⟩ := am_an g9
      obtain ⟨g10, g11⟩ := am_an g10
      exact ⟨_, _, _, _, _, _, rfl, of_decide_eq_true g1, of_decide_eq_true g2, Nat.le_of_ble_eq_true g3, of_decide_eq_true g4, of_decide_eq_true g5, g6, g7, g8, g9, g10, g11⟩
    · obtain ⟨g1, -⟩ := am_an h2
      have g1 := Nat.le_of_ble_eq_true g1
      have hn : _ = 999 := hn
      simp only [List.headD] at hn g1
      omega
    · exact nomatch h2
  obtain ⟨x, is, ic, w1, w2, t, rfl, hcls, hhh, hx5, hthr, hstr, d3, d4, d6, d9, a1, a2⟩ := h3
  obtain ⟨d3, -⟩ := am_dk_ok d3
  obtain ⟨d4, -⟩ := am_dk_ok d4
  obtain ⟨d6, -⟩ := am_dk_ok d6
  obtain ⟨d9, -⟩ := am_dk_ok d9
  have hrun2 : (bif Nat.beq 999 999 then (bif Nat.beq (am_cs st) 0 then some (.inr x, am_tk M 1 6) else none) else k L (.ref M.1.length :: st) (am_nw M 999 (am_df 999))) = some r := hrun
  rw [Nat.beq_refl] at hrun2
  obtain ⟨h4, h5⟩ := iv_c (show (bif Nat.beq (am_cs st) 0 then some (.inr x, am_tk M 1 6) else none) = some r from hrun2)
  have h4 := am_cs0 (Nat.eq_of_beq_eq_true h4)
  subst h4
  have h5 := (Option.some.inj h5).symm
  subst h5
  refine ⟨⟨Nat.le_add_right _ _, Nat.le_add_right _ _⟩, fun H locs ls ad cells slots I => ?_⟩
  obtain ⟨i1, i2, i3, i4, i5, i6, i7, i8, i9⟩ := I
  have hmc : M.2.1 + 1 = c0 + mc := hmc
  have hms : M.2.2 + 6 = s0 + ms := hms
  have hrc : M.2.1 + 1 ≤ c0 + R.cells := hrc
  have hrs : M.2.2 + 6 ≤ s0 + R.slots := hrs
  have hw1 := hG.word a1 args
  have hw2 := hG.word a2 args
  rw [hcls] at hown hw1
  have hXC : ∀ t : State, s.vm.Alike t.vm → H.size ≤ t.heap.size → (∀ z : Nat, z < H.size → t.heap[z]? = H[z]?) → ac_XC D cA base ad0 n0 (.inr x, am_tk M 1 6) (ac_E x) s t := fun t hal hsz hq => by
    refine ⟨⟨x, ad, rfl, hx5, rfl, i1, i2, (i3.grow hsz hq).moved hal⟩, Nat.le_trans i4.1 hsz, fun z z1 z2 => ?_⟩
    rw [hq z (Nat.lt_of_lt_of_le z1 i4.1)]
    exact i4.2.1 z z1 z2
  have hout : ∀ y ∈ c.exceptionTable.toList, covers y (pc + 9) = false := fun y hy => (hT.1 hhh y hy).elim
  by_cases e2 : x = 2
  · subst e2
    have e3 : ic = 117 := am_thr2 _ hthr rfl
    subst e3
    have hall := nx_thrw
    simp only [Bool.and_eq_true, decide_eq_true_eq] at hall
    exact nx_throwS (mc := mc) (ms := ms) (rest := []) hx hb htr (own := "ActorMachine") (text := am_txt is) hown (by decide +kernel) hw1 hw2 (hG.2.2.2.2.2.2.2.1 _ hstr) (fun w hw => am_okw_at (State.WarmedH.refl s) (hall w hw).2.1 (hG.1 w (hall w hw).1 (hall w hw).2.1)) (fun w hw => by
      rcases List.mem_cons.mp hw with rfl | hw
      · rfl
      · rcases List.mem_cons.mp hw with rfl | hw
        · rfl
        · exact (hall w hw).2.2) hG.2.2.2.2.2.1 hG.2.2.2.2.2.2.1 i4 (i5.1.trans hml.symm) hd d3 d4 d6 d9 hout (by omega) (by simp only [List.map_nil, List.sum_nil]; omega) (by omega) (by omega) hlk hXC i4.2.2 (by omega) (by omega)
  · have hall := am_thrw (ic, x) hthr e2
    simp only [Bool.and_eq_true, decide_eq_true_eq] at hall
    exact vx_throwS (mc := mc) (ms := ms) (rest := []) hx hb htr (own := "ActorMachine") (cls := ac_E x) (names := am_nms) (text := am_txt is) hown (am_thrf x hx5) am_nmsf hw1 hw2 (hG.2.2.2.2.2.2.2.1 _ hstr) (fun w hw => am_okw_at (State.WarmedH.refl s) (hall w hw).2.1 (hG.1 w (hall w hw).1 (hall w hw).2.1)) (fun w hw => by
      rcases List.mem_cons.mp hw with rfl | hw
      · rfl
      · rcases List.mem_cons.mp hw with rfl | hw
        · rfl
        · exact (hall w hw).2.2) hG.2.2.2.2.2.1 hG.2.2.2.2.2.2.1 i4 (i5.1.trans hml.symm) hd d3 d4 d6 d9 hout (by show 2 + 3 < R.frames; omega) (by simp only [List.map_nil, List.sum_nil]; show 0 + (13 * (2 + 1) + 43) ≤ R.locals; omega) (by omega) (by omega) hlk hXC i4.2.2 (by omega) (by omega)
end SIM8
