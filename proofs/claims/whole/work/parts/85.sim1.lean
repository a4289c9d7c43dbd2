/-! ONE INSTRUCTION: what the plain machine does, the machine does -/
theorem am_dk_ok {cc : ByteArray} {pc : Nat} {ins : Instr} {n len : Nat} (h : am_dk cc pc ins n len = true) : decode cc pc = .ok (ins, n) ∧ len = n := by
  simp only [am_dk, Bool.and_eq_true, decide_eq_true_eq] at h
  exact ⟨h.1, Nat.eq_of_beq_eq_true h.2⟩
theorem am_an {a b : Bool} (h : (a && b) = true) : a = true ∧ b = true := by simpa using h
theorem iv_jp {β : Type} {z : β} {J : Nat → aL → List Value → aM → Option β} {ops : List Nat} {L : aL} {st : List Value} {M : aM} (h : am_jp J ops L st M = some z) : ∃ lv, J (ops.headD 0) (am_pj lv L) st M = some z := by
  unfold am_jp at h
  split at h
  · exact ⟨_, h⟩
  · exact nomatch h
def am_I (D : va_G) (cA : Nat → ClassId) (base : Nat) (q : aS) (ad0 : Nat → Nat) (n0 c0 s0 : Nat) (s : State) (L : aL) (st : List Value) (M : aM) (H : Heap) (locs : List Loc) (ls : Array Slot) (ad : Nat → Nat) (cells slots : Nat) : Prop :=
  (∀ k, k < n0 → ad k = ad0 k) ∧ n0 ≤ M.1.length ∧ ac_R D cA base ad M s H ∧ va_S (ac_A base) s.heap H locs ∧ lv_has ls q.2.2.1 (am_lc ad L) ∧ am_wl M.1.length L ∧ am_ws M.1.length st ∧ M.2.1 = c0 + cells ∧ M.2.2 = s0 + slots
def am_S (p : Program) (l : Launch) (e : Env) (R : Room) (s : State) (m : MethodId) (args : Array Value) (below : List Frame) (meth : Method) (c : Code) (D : va_G) (cA : Nat → ClassId) (base : Nat) (q : aS) (ad0 : Nat → Nat) (n0 c0 s0 : Nat) (Qt : State → Prop) (r : aR) (pc : Nat) (f : aL → List Value → aM → Option aR) : Prop :=
  ∀ (L : aL) (st : List Value) (M : aM), f L st M = some r → (M.2.1 ≤ r.2.2.1 ∧ M.2.2 ≤ r.2.2.2) ∧
    ∀ (H : Heap) (locs : List Loc) (ls : Array Slot) (ad : Nat → Nat) (cells slots : Nat), am_I D cA base q ad0 n0 c0 s0 s L st M H locs ls ad cells slots → W p l e R s m args below meth c H locs cells slots Qt (F0 m pc ls (st.map (ac ad)))
/-- the method's own things -/
def am_E (p : Program) (l : Launch) (R : Room) (s : State) (m : MethodId) (meth : Method) (c : Code) (D : va_G) (cA : Nat → ClassId) (base t1 t2 : Nat) (sa : Nat → Nat) (q : aS) (ad0 : Nat → Nat) (n0 c0 s0 : Nat) (r : aR) : Prop :=
  p.tables.exec = Jvm.exec ∧ c.code = q.2.1 ∧ c.maxLocals = q.2.2.1 ∧ s.vm.findClass q.1.cls = some m.cls ∧ meth.sig.returnType = q.2.2.2.1 ∧ meth.locks = false ∧ meth.name = q.1.name ∧ ac_G D cA base t1 t2 sa s s.heap ∧ base ≤ s.heap.size ∧ 8 ≤ R.frames ∧ 200 ≤ R.locals ∧ l.stackTraces = false ∧
  (ad0 1 = t1 ∧ ad0 2 = t2 ∧ 3 ≤ n0) ∧ r.2.2.1 ≤ c0 + R.cells ∧ r.2.2.2 ≤ s0 + R.slots
section SIM
variable {D : va_G} {cA : Nat → ClassId} {base : Nat} {q : aS} {ad0 : Nat → Nat} {n0 c0 s0 : Nat} {s : State} {L : aL} {st : List Value} {M : aM} {H : Heap} {locs : List Loc} {ls : Array Slot} {ad : Nat → Nat} {cells slots : Nat}
theorem am_I.lv (I : am_I D cA base q ad0 n0 c0 s0 s L st M H locs ls ad cells slots) : lv_has ls q.2.2.1 (am_lc ad L) := I.2.2.2.2.1
theorem am_I.ws (I : am_I D cA base q ad0 n0 c0 s0 s L st M H locs ls ad cells slots) : am_ws M.1.length st := I.2.2.2.2.2.2.1
theorem am_I.wl (I : am_I D cA base q ad0 n0 c0 s0 s L st M H locs ls ad cells slots) : am_wl M.1.length L := I.2.2.2.2.2.1
theorem am_I.rl (I : am_I D cA base q ad0 n0 c0 s0 s L st M H locs ls ad cells slots) : ac_R D cA base ad M s H := I.2.2.1
theorem am_I.sm (I : am_I D cA base q ad0 n0 c0 s0 s L st M H locs ls ad cells slots) : va_S (ac_A base) s.heap H locs := I.2.2.2.1
theorem am_I.stk {st' : List Value} (I : am_I D cA base q ad0 n0 c0 s0 s L st M H locs ls ad cells slots) (h : am_ws M.1.length st') : am_I D cA base q ad0 n0 c0 s0 s L st' M H locs ls ad cells slots := ⟨I.1, I.2.1, I.2.2.1, I.2.2.2.1, I.2.2.2.2.1, I.2.2.2.2.2.1, h, I.2.2.2.2.2.2.2⟩
theorem am_I.lo {L' : aL} {ls' : Array Slot} {st' : List Value} (I : am_I D cA base q ad0 n0 c0 s0 s L st M H locs ls ad cells slots) (hl : lv_has ls' q.2.2.1 (am_lc ad L')) (hw : am_wl M.1.length L') (h : am_ws M.1.length st') : am_I D cA base q ad0 n0 c0 s0 s L' st' M H locs ls' ad cells slots := ⟨I.1, I.2.1, I.2.2.1, I.2.2.2.1, hl, hw, h, I.2.2.2.2.2.2.2⟩
theorem am_I.pj {st' : List Value} (I : am_I D cA base q ad0 n0 c0 s0 s L st M H locs ls ad cells slots) (lv : List Nat) (h : am_ws M.1.length st') : am_I D cA base q ad0 n0 c0 s0 s (am_pj lv L) st' M H locs ls ad cells slots := I.lo (am_lc_pj I.lv lv) (am_wl_pj I.wl lv) h
end SIM
section SIM1
variable {p : Program} {l : Launch} {e : Env} {R : Room} {s : State} {m : MethodId} {args : Array Value} {below : List Frame} {meth : Method} {c : Code} {D : va_G} {cA : Nat → ClassId} {base t1 t2 : Nat} {sa : Nat → Nat} {q : aS} {ad0 : Nat → Nat} {n0 c0 s0 : Nat} {Qt : State → Prop} {r : aR}
variable {cal : aY} {hs : List aH} {J : Nat → aL → List Value → aM → Option aR} {k : aL → List Value → aM → Option aR} {pc len : Nat} {ops : List Nat} {v : Value}
theorem sd_iadd  (E : am_E p l R s m meth c D cA base t1 t2 sa q ad0 n0 c0 s0 r) (hk : am_S p l e R s m args below meth c D cA base q ad0 n0 c0 s0 Qt r (pc + len) k) (hck : am_ck q hs pc (.iadd, len, ops, v) = true) : am_S p l e R s m args below meth c D cA base q ad0 n0 c0 s0 Qt r pc (am_1 cal hs J some (.iadd, len, ops, v) k) := by
  obtain ⟨hx, hb, hml, hown, hret, hlk, hnm, hG, hbs, hfr, hlo, htr, had, hrc, hrs⟩ := E
  intro L st M hrun
  obtain ⟨hd, rfl⟩ := am_dk_ok (show am_dk q.2.1 pc (.iadd) 1 len = true from hck)
  obtain ⟨x, y, w, rfl, h⟩ := iv_I2 (show am_I2 st _ = some r from hrun)
  obtain ⟨hm, hk⟩ := hk _ _ _ h
  exact ⟨hm, fun H locs ls ad cells slots I => lv_iadd hx hb hd (hk H locs ls ad cells slots (I.stk (am_ws_c ac_wf_int (am_ws_t (am_ws_t I.ws)))))⟩
theorem sd_isub  (E : am_E p l R s m meth c D cA base t1 t2 sa q ad0 n0 c0 s0 r) (hk : am_S p l e R s m args below meth c D cA base q ad0 n0 c0 s0 Qt r (pc + len) k) (hck : am_ck q hs pc (.isub, len, ops, v) = true) : am_S p l e R s m args below meth c D cA base q ad0 n0 c0 s0 Qt r pc (am_1 cal hs J some (.isub, len, ops, v) k) := by
  obtain ⟨hx, hb, hml, hown, hret, hlk, hnm, hG, hbs, hfr, hlo, htr, had, hrc, hrs⟩ := E
  intro L st M hrun
  obtain ⟨hd, rfl⟩ := am_dk_ok (show am_dk q.2.1 pc (.isub) 1 len = true from hck)
  obtain ⟨x, y, w, rfl, h⟩ := iv_I2 (show am_I2 st _ = some r from hrun)
  obtain ⟨hm, hk⟩ := hk _ _ _ h
  exact ⟨hm, fun H locs ls ad cells slots I => lv_isub hx hb hd (hk H locs ls ad cells slots (I.stk (am_ws_c ac_wf_int (am_ws_t (am_ws_t I.ws)))))⟩
theorem sd_imul  (E : am_E p l R s m meth c D cA base t1 t2 sa q ad0 n0 c0 s0 r) (hk : am_S p l e R s m args below meth c D cA base q ad0 n0 c0 s0 Qt r (pc + len) k) (hck : am_ck q hs pc (.imul, len, ops, v) = true) : am_S p l e R s m args below meth c D cA base q ad0 n0 c0 s0 Qt r pc (am_1 cal hs J some (.imul, len, ops, v) k) := by
  obtain ⟨hx, hb, hml, hown, hret, hlk, hnm, hG, hbs, hfr, hlo, htr, had, hrc, hrs⟩ := E
  intro L st M hrun
  obtain ⟨hd, rfl⟩ := am_dk_ok (show am_dk q.2.1 pc (.imul) 1 len = true from hck)
  obtain ⟨x, y, w, rfl, h⟩ := iv_I2 (show am_I2 st _ = some r from hrun)
  obtain ⟨hm, hk⟩ := hk _ _ _ h
  exact ⟨hm, fun H locs ls ad cells slots I => lv_imul hx hb hd (hk H locs ls ad cells slots (I.stk (am_ws_c ac_wf_int (am_ws_t (am_ws_t I.ws)))))⟩
theorem sd_iand  (E : am_E p l R s m meth c D cA base t1 t2 sa q ad0 n0 c0 s0 r) (hk : am_S p l e R s m args below meth c D cA base q ad0 n0 c0 s0 Qt r (pc + len) k) (hck : am_ck q hs pc (.iand, len, ops, v) = true) : am_S p l e R s m args below meth c D cA base q ad0 n0 c0 s0 Qt r pc (am_1 cal hs J some (.iand, len, ops, v) k) := by
  obtain ⟨hx, hb, hml, hown, hret, hlk, hnm, hG, hbs, hfr, hlo, htr, had, hrc, hrs⟩ := E
  intro L st M hrun
  obtain ⟨hd, rfl⟩ := am_dk_ok (show am_dk q.2.1 pc (.iand) 1 len = true from hck)
  obtain ⟨x, y, w, rfl, h⟩ := iv_I2 (show am_I2 st _ = some r from hrun)
  obtain ⟨hm, hk⟩ := hk _ _ _ h
  exact ⟨hm, fun H locs ls ad cells slots I => lv_iand hx hb hd (hk H locs ls ad cells slots (I.stk (am_ws_c ac_wf_int (am_ws_t (am_ws_t I.ws)))))⟩
theorem sd_ior  (E : am_E p l R s m meth c D cA base t1 t2 sa q ad0 n0 c0 s0 r) (hk : am_S p l e R s m args below meth c D cA base q ad0 n0 c0 s0 Qt r (pc + len) k) (hck : am_ck q hs pc (.ior, len, ops, v) = true) : am_S p l e R s m args below meth c D cA base q ad0 n0 c0 s0 Qt r pc (am_1 cal hs J some (.ior, len, ops, v) k) := by
  obtain ⟨hx, hb, hml, hown, hret, hlk, hnm, hG, hbs, hfr, hlo, htr, had, hrc, hrs⟩ := E
  intro L st M hrun
  obtain ⟨hd, rfl⟩ := am_dk_ok (show am_dk q.2.1 pc (.ior) 1 len = true from hck)
  obtain ⟨x, y, w, rfl, h⟩ := iv_I2 (show am_I2 st _ = some r from hrun)
  obtain ⟨hm, hk⟩ := hk _ _ _ h
  exact ⟨hm, fun H locs ls ad cells slots I => lv_ior hx hb hd (hk H locs ls ad cells slots (I.stk (am_ws_c ac_wf_int (am_ws_t (am_ws_t I.ws)))))⟩
theorem sd_ixor  (E : am_E p l R s m meth c D cA base t1 t2 sa q ad0 n0 c0 s0 r) (hk : am_S p l e R s m args below meth c D cA base q ad0 n0 c0 s0 Qt r (pc + len) k) (hck : am_ck q hs pc (.ixor, len, ops, v) = true) : am_S p l e R s m args below meth c D cA base q ad0 n0 c0 s0 Qt r pc (am_1 cal hs J some (.ixor, len, ops, v) k) := by
  obtain ⟨hx, hb, hml, hown, hret, hlk, hnm, hG, hbs, hfr, hlo, htr, had, hrc, hrs⟩ := E
  intro L st M hrun
  obtain ⟨hd, rfl⟩ := am_dk_ok (show am_dk q.2.1 pc (.ixor) 1 len = true from hck)
  obtain ⟨x, y, w, rfl, h⟩ := iv_I2 (show am_I2 st _ = some r from hrun)
  obtain ⟨hm, hk⟩ := hk _ _ _ h
  exact ⟨hm, fun H locs ls ad cells slots I => lv_ixor hx hb hd (hk H locs ls ad cells slots (I.stk (am_ws_c ac_wf_int (am_ws_t (am_ws_t I.ws)))))⟩
theorem sd_ishl  (E : am_E p l R s m meth c D cA base t1 t2 sa q ad0 n0 c0 s0 r) (hk : am_S p l e R s m args below meth c D cA base q ad0 n0 c0 s0 Qt r (pc + len) k) (hck : am_ck q hs pc (.ishl, len, ops, v) = true) : am_S p l e R s m args below meth c D cA base q ad0 n0 c0 s0 Qt r pc (am_1 cal hs J some (.ishl, len, ops, v) k) := by
  obtain ⟨hx, hb, hml, hown, hret, hlk, hnm, hG, hbs, hfr, hlo, htr, had, hrc, hrs⟩ := E
  intro L st M hrun
  obtain ⟨hd, rfl⟩ := am_dk_ok (show am_dk q.2.1 pc (.ishl) 1 len = true from hck)
  obtain ⟨x, y, w, rfl, h⟩ := iv_I2 (show am_I2 st _ = some r from hrun)
  obtain ⟨hm, hk⟩ := hk _ _ _ h
  exact ⟨hm, fun H locs ls ad cells slots I => lv_ishl hx hb hd (hk H locs ls ad cells slots (I.stk (am_ws_c ac_wf_int (am_ws_t (am_ws_t I.ws)))))⟩
theorem sd_ishr  (E : am_E p l R s m meth c D cA base t1 t2 sa q ad0 n0 c0 s0 r) (hk : am_S p l e R s m args below meth c D cA base q ad0 n0 c0 s0 Qt r (pc + len) k) (hck : am_ck q hs pc (.ishr, len, ops, v) = true) : am_S p l e R s m args below meth c D cA base q ad0 n0 c0 s0 Qt r pc (am_1 cal hs J some (.ishr, len, ops, v) k) := by
  obtain ⟨hx, hb, hml, hown, hret, hlk, hnm, hG, hbs, hfr, hlo, htr, had, hrc, hrs⟩ := E
  intro L st M hrun
  obtain ⟨hd, rfl⟩ := am_dk_ok (show am_dk q.2.1 pc (.ishr) 1 len = true from hck)
  obtain ⟨x, y, w, rfl, h⟩ := iv_I2 (show am_I2 st _ = some r from hrun)
  obtain ⟨hm, hk⟩ := hk _ _ _ h
  exact ⟨hm, fun H locs ls ad cells slots I => lv_ishr hx hb hd (hk H locs ls ad cells slots (I.stk (am_ws_c ac_wf_int (am_ws_t (am_ws_t I.ws)))))⟩
theorem sd_iushr  (E : am_E p l R s m meth c D cA base t1 t2 sa q ad0 n0 c0 s0 r) (hk : am_S p l e R s m args below meth c D cA base q ad0 n0 c0 s0 Qt r (pc + len) k) (hck : am_ck q hs pc (.iushr, len, ops, v) = true) : am_S p l e R s m args below meth c D cA base q ad0 n0 c0 s0 Qt r pc (am_1 cal hs J some (.iushr, len, ops, v) k) := by
  obtain ⟨hx, hb, hml, hown, hret, hlk, hnm, hG, hbs, hfr, hlo, htr, had, hrc, hrs⟩ := E
  intro L st M hrun
  obtain ⟨hd, rfl⟩ := am_dk_ok (show am_dk q.2.1 pc (.iushr) 1 len = true from hck)
  obtain ⟨x, y, w, rfl, h⟩ := iv_I2 (show am_I2 st _ = some r from hrun)
  obtain ⟨hm, hk⟩ := hk _ _ _ h
  exact ⟨hm, fun H locs ls ad cells slots I => lv_iushr hx hb hd rfl (hk H locs ls ad cells slots (I.stk (am_ws_c ac_wf_int (am_ws_t (am_ws_t I.ws)))))⟩
theorem sd_ladd  (E : am_E p l R s m meth c D cA base t1 t2 sa q ad0 n0 c0 s0 r) (hk : am_S p l e R s m args below meth c D cA base q ad0 n0 c0 s0 Qt r (pc + len) k) (hck : am_ck q hs pc (.ladd, len, ops, v) = true) : am_S p l e R s m args below meth c D cA base q ad0 n0 c0 s0 Qt r pc (am_1 cal hs J some (.ladd, len, ops, v) k) := by
  obtain ⟨hx, hb, hml, hown, hret, hlk, hnm, hG, hbs, hfr, hlo, htr, had, hrc, hrs⟩ := E
  intro L st M hrun
  obtain ⟨hd, rfl⟩ := am_dk_ok (show am_dk q.2.1 pc (.ladd) 1 len = true from hck)
  obtain ⟨x, y, w, rfl, h⟩ := iv_J2 (show am_J2 st _ = some r from hrun)
  obtain ⟨hm, hk⟩ := hk _ _ _ h
  exact ⟨hm, fun H locs ls ad cells slots I => lv_ladd hx hb hd (hk H locs ls ad cells slots (I.stk (am_ws_c ac_wf_long (am_ws_t (am_ws_t I.ws)))))⟩
theorem sd_lsub  (E : am_E p l R s m meth c D cA base t1 t2 sa q ad0 n0 c0 s0 r) (hk : am_S p l e R s m args below meth c D cA base q ad0 n0 c0 s0 Qt r (pc + len) k) (hck : am_ck q hs pc (.lsub, len, ops, v) = true) : am_S p l e R s m args below meth c D cA base q ad0 n0 c0 s0 Qt r pc (am_1 cal hs J some (.lsub, len, ops, v) k) := by
  obtain ⟨hx, hb, hml, hown, hret, hlk, hnm, hG, hbs, hfr, hlo, htr, had, hrc, hrs⟩ := E
  intro L st M hrun
  obtain ⟨hd, rfl⟩ := am_dk_ok (show am_dk q.2.1 pc (.lsub) 1 len = true from hck)
  obtain ⟨x, y, w, rfl, h⟩ := iv_J2 (show am_J2 st _ = some r from hrun)
  obtain ⟨hm, hk⟩ := hk _ _ _ h
  exact ⟨hm, fun H locs ls ad cells slots I => lv_lsub hx hb hd (hk H locs ls ad cells slots (I.stk (am_ws_c ac_wf_long (am_ws_t (am_ws_t I.ws)))))⟩
theorem sd_land  (E : am_E p l R s m meth c D cA base t1 t2 sa q ad0 n0 c0 s0 r) (hk : am_S p l e R s m args below meth c D cA base q ad0 n0 c0 s0 Qt r (pc + len) k) (hck : am_ck q hs pc (.land, len, ops, v) = true) : am_S p l e R s m args below meth c D cA base q ad0 n0 c0 s0 Qt r pc (am_1 cal hs J some (.land, len, ops, v) k) := by
  obtain ⟨hx, hb, hml, hown, hret, hlk, hnm, hG, hbs, hfr, hlo, htr, had, hrc, hrs⟩ := E
  intro L st M hrun
  obtain ⟨hd, rfl⟩ := am_dk_ok (show am_dk q.2.1 pc (.land) 1 len = true from hck)
  obtain ⟨x, y, w, rfl, h⟩ := iv_J2 (show am_J2 st _ = some r from hrun)
  obtain ⟨hm, hk⟩ := hk _ _ _ h
  exact ⟨hm, fun H locs ls ad cells slots I => lv_land hx hb hd (hk H locs ls ad cells slots (I.stk (am_ws_c ac_wf_long (am_ws_t (am_ws_t I.ws)))))⟩
theorem sd_lor  (E : am_E p l R s m meth c D cA base t1 t2 sa q ad0 n0 c0 s0 r) (hk : am_S p l e R s m args below meth c D cA base q ad0 n0 c0 s0 Qt r (pc + len) k) (hck : am_ck q hs pc (.lor, len, ops, v) = true) : am_S p l e R s m args below meth c D cA base q ad0 n0 c0 s0 Qt r pc (am_1 cal hs J some (.lor, len, ops, v) k) := by
  obtain ⟨hx, hb, hml, hown, hret, hlk, hnm, hG, hbs, hfr, hlo, htr, had, hrc, hrs⟩ := E
  intro L st M hrun
  obtain ⟨hd, rfl⟩ := am_dk_ok (show am_dk q.2.1 pc (.lor) 1 len = true from hck)
  obtain ⟨x, y, w, rfl, h⟩ := iv_J2 (show am_J2 st _ = some r from hrun)
  obtain ⟨hm, hk⟩ := hk _ _ _ h
  exact ⟨hm, fun H locs ls ad cells slots I => lv_lor hx hb hd (hk H locs ls ad cells slots (I.stk (am_ws_c ac_wf_long (am_ws_t (am_ws_t I.ws)))))⟩
theorem sd_lshl  (E : am_E p l R s m meth c D cA base t1 t2 sa q ad0 n0 c0 s0 r) (hk : am_S p l e R s m args below meth c D cA base q ad0 n0 c0 s0 Qt r (pc + len) k) (hck : am_ck q hs pc (.lshl, len, ops, v) = true) : am_S p l e R s m args below meth c D cA base q ad0 n0 c0 s0 Qt r pc (am_1 cal hs J some (.lshl, len, ops, v) k) := by
  obtain ⟨hx, hb, hml, hown, hret, hlk, hnm, hG, hbs, hfr, hlo, htr, had, hrc, hrs⟩ := E
  intro L st M hrun
  obtain ⟨hd, rfl⟩ := am_dk_ok (show am_dk q.2.1 pc (.lshl) 1 len = true from hck)
  obtain ⟨x, y, w, rfl, h⟩ := iv_JI (show am_JI st _ = some r from hrun)
  obtain ⟨hm, hk⟩ := hk _ _ _ h
  exact ⟨hm, fun H locs ls ad cells slots I => lv_lshl hx hb hd rfl (hk H locs ls ad cells slots (I.stk (am_ws_c ac_wf_long (am_ws_t (am_ws_t I.ws)))))⟩
theorem sd_lshr  (E : am_E p l R s m meth c D cA base t1 t2 sa q ad0 n0 c0 s0 r) (hk : am_S p l e R s m args below meth c D cA base q ad0 n0 c0 s0 Qt r (pc + len) k) (hck : am_ck q hs pc (.lshr, len, ops, v) = true) : am_S p l e R s m args below meth c D cA base q ad0 n0 c0 s0 Qt r pc (am_1 cal hs J some (.lshr, len, ops, v) k) := by
  obtain ⟨hx, hb, hml, hown, hret, hlk, hnm, hG, hbs, hfr, hlo, htr, had, hrc, hrs⟩ := E
  intro L st M hrun
  obtain ⟨hd, rfl⟩ := am_dk_ok (show am_dk q.2.1 pc (.lshr) 1 len = true from hck)
  obtain ⟨x, y, w, rfl, h⟩ := iv_JI (show am_JI st _ = some r from hrun)
  obtain ⟨hm, hk⟩ := hk _ _ _ h
  exact ⟨hm, fun H locs ls ad cells slots I => lv_lshr hx hb hd rfl (hk H locs ls ad cells slots (I.stk (am_ws_c ac_wf_long (am_ws_t (am_ws_t I.ws)))))⟩
theorem sd_lushr  (E : am_E p l R s m meth c D cA base t1 t2 sa q ad0 n0 c0 s0 r) (hk : am_S p l e R s m args below meth c D cA base q ad0 n0 c0 s0 Qt r (pc + len) k) (hck : am_ck q hs pc (.lushr, len, ops, v) = true) : am_S p l e R s m args below meth c D cA base q ad0 n0 c0 s0 Qt r pc (am_1 cal hs J some (.lushr, len, ops, v) k) := by
  obtain ⟨hx, hb, hml, hown, hret, hlk, hnm, hG, hbs, hfr, hlo, htr, had, hrc, hrs⟩ := E
  intro L st M hrun
  obtain ⟨hd, rfl⟩ := am_dk_ok (show am_dk q.2.1 pc (.lushr) 1 len = true from hck)
  obtain ⟨x, y, w, rfl, h⟩ := iv_JI (show am_JI st _ = some r from hrun)
  obtain ⟨hm, hk⟩ := hk _ _ _ h
  exact ⟨hm, fun H locs ls ad cells slots I => lv_lushr hx hb hd rfl (hk H locs ls ad cells slots (I.stk (am_ws_c ac_wf_long (am_ws_t (am_ws_t I.ws)))))⟩
theorem sd_i2l  (E : am_E p l R s m meth c D cA base t1 t2 sa q ad0 n0 c0 s0 r) (hk : am_S p l e R s m args below meth c D cA base q ad0 n0 c0 s0 Qt r (pc + len) k) (hck : am_ck q hs pc (.i2l, len, ops, v) = true) : am_S p l e R s m args below meth c D cA base q ad0 n0 c0 s0 Qt r pc (am_1 cal hs J some (.i2l, len, ops, v) k) := by
  obtain ⟨hx, hb, hml, hown, hret, hlk, hnm, hG, hbs, hfr, hlo, htr, had, hrc, hrs⟩ := E
  intro L st M hrun
  obtain ⟨hd, rfl⟩ := am_dk_ok (show am_dk q.2.1 pc (.i2l) 1 len = true from hck)
  obtain ⟨x, w, rfl, h⟩ := iv_I1 (show am_I1 st _ = some r from hrun)
  obtain ⟨hm, hk⟩ := hk _ _ _ h
  exact ⟨hm, fun H locs ls ad cells slots I => lv_i2l hx hb hd rfl (hk H locs ls ad cells slots (I.stk (am_ws_c ac_wf_long (am_ws_t I.ws))))⟩
theorem sd_l2i  (E : am_E p l R s m meth c D cA base t1 t2 sa q ad0 n0 c0 s0 r) (hk : am_S p l e R s m args below meth c D cA base q ad0 n0 c0 s0 Qt r (pc + len) k) (hck : am_ck q hs pc (.l2i, len, ops, v) = true) : am_S p l e R s m args below meth c D cA base q ad0 n0 c0 s0 Qt r pc (am_1 cal hs J some (.l2i, len, ops, v) k) := by
  obtain ⟨hx, hb, hml, hown, hret, hlk, hnm, hG, hbs, hfr, hlo, htr, had, hrc, hrs⟩ := E
  intro L st M hrun
  obtain ⟨hd, rfl⟩ := am_dk_ok (show am_dk q.2.1 pc (.l2i) 1 len = true from hck)
  obtain ⟨x, w, rfl, h⟩ := iv_J1 (show am_J1 st _ = some r from hrun)
  obtain ⟨hm, hk⟩ := hk _ _ _ h
  exact ⟨hm, fun H locs ls ad cells slots I => lv_l2i hx hb hd rfl (hk H locs ls ad cells slots (I.stk (am_ws_c ac_wf_int (am_ws_t I.ws))))⟩
theorem sd_i2c  (E : am_E p l R s m meth c D cA base t1 t2 sa q ad0 n0 c0 s0 r) (hk : am_S p l e R s m args below meth c D cA base q ad0 n0 c0 s0 Qt r (pc + len) k) (hck : am_ck q hs pc (.i2c, len, ops, v) = true) : am_S p l e R s m args below meth c D cA base q ad0 n0 c0 s0 Qt r pc (am_1 cal hs J some (.i2c, len, ops, v) k) := by
  obtain ⟨hx, hb, hml, hown, hret, hlk, hnm, hG, hbs, hfr, hlo, htr, had, hrc, hrs⟩ := E
  intro L st M hrun
  obtain ⟨hd, rfl⟩ := am_dk_ok (show am_dk q.2.1 pc (.i2c) 1 len = true from hck)
  obtain ⟨x, w, rfl, h⟩ := iv_I1 (show am_I1 st _ = some r from hrun)
  obtain ⟨hm, hk⟩ := hk _ _ _ h
  exact ⟨hm, fun H locs ls ad cells slots I => lv_i2c hx hb hd rfl (hk H locs ls ad cells slots (I.stk (am_ws_c ac_wf_int (am_ws_t I.ws))))⟩
theorem sd_lcmp  (E : am_E p l R s m meth c D cA base t1 t2 sa q ad0 n0 c0 s0 r) (hk : am_S p l e R s m args below meth c D cA base q ad0 n0 c0 s0 Qt r (pc + len) k) (hck : am_ck q hs pc (.lcmp, len, ops, v) = true) : am_S p l e R s m args below meth c D cA base q ad0 n0 c0 s0 Qt r pc (am_1 cal hs J some (.lcmp, len, ops, v) k) := by
  obtain ⟨hx, hb, hml, hown, hret, hlk, hnm, hG, hbs, hfr, hlo, htr, had, hrc, hrs⟩ := E
  intro L st M hrun
  obtain ⟨hd, rfl⟩ := am_dk_ok (show am_dk q.2.1 pc (.lcmp) 1 len = true from hck)
  obtain ⟨x, y, w, rfl, h⟩ := iv_J2 (show am_J2 st _ = some r from hrun)
  obtain ⟨hm, hk⟩ := hk _ _ _ h
  exact ⟨hm, fun H locs ls ad cells slots I => W.lcmp hx hb hd (hk H locs ls ad cells slots (I.stk (am_ws_c ac_wf_int (am_ws_t (am_ws_t I.ws)))))⟩
theorem sd_idiv  (E : am_E p l R s m meth c D cA base t1 t2 sa q ad0 n0 c0 s0 r) (hk : am_S p l e R s m args below meth c D cA base q ad0 n0 c0 s0 Qt r (pc + len) k) (hck : am_ck q hs pc (.idiv, len, ops, v) = true) : am_S p l e R s m args below meth c D cA base q ad0 n0 c0 s0 Qt r pc (am_1 cal hs J some (.idiv, len, ops, v) k) := by
  obtain ⟨hx, hb, hml, hown, hret, hlk, hnm, hG, hbs, hfr, hlo, htr, had, hrc, hrs⟩ := E
  intro L st M hrun
  obtain ⟨hd, rfl⟩ := am_dk_ok (show am_dk q.2.1 pc (.idiv) 1 len = true from hck)
  obtain ⟨x, y, w, rfl, h⟩ := iv_I2 (show am_I2 st _ = some r from hrun)
  obtain ⟨hn, h⟩ := iv_n h
  obtain ⟨hm, hk⟩ := hk _ _ _ h
  exact ⟨hm, fun H locs ls ad cells slots I => lv_idiv hx hb hd hn (hk H locs ls ad cells slots (I.stk (am_ws_c ac_wf_int (am_ws_t (am_ws_t I.ws)))))⟩
theorem sd_irem  (E : am_E p l R s m meth c D cA base t1 t2 sa q ad0 n0 c0 s0 r) (hk : am_S p l e R s m args below meth c D cA base q ad0 n0 c0 s0 Qt r (pc + len) k) (hck : am_ck q hs pc (.irem, len, ops, v) = true) : am_S p l e R s m args below meth c D cA base q ad0 n0 c0 s0 Qt r pc (am_1 cal hs J some (.irem, len, ops, v) k) := by
  obtain ⟨hx, hb, hml, hown, hret, hlk, hnm, hG, hbs, hfr, hlo, htr, had, hrc, hrs⟩ := E
  intro L st M hrun
  obtain ⟨hd, rfl⟩ := am_dk_ok (show am_dk q.2.1 pc (.irem) 1 len = true from hck)
  obtain ⟨x, y, w, rfl, h⟩ := iv_I2 (show am_I2 st _ = some r from hrun)
  obtain ⟨hn, h⟩ := iv_n h
  obtain ⟨hm, hk⟩ := hk _ _ _ h
  exact ⟨hm, fun H locs ls ad cells slots I => lv_irem hx hb hd hn (hk H locs ls ad cells slots (I.stk (am_ws_c ac_wf_int (am_ws_t (am_ws_t I.ws)))))⟩
theorem sd_iconst {n : Int} (E : am_E p l R s m meth c D cA base t1 t2 sa q ad0 n0 c0 s0 r) (hk : am_S p l e R s m args below meth c D cA base q ad0 n0 c0 s0 Qt r (pc + len) k) (hck : am_ck q hs pc (.iconst n, len, ops, v) = true) : am_S p l e R s m args below meth c D cA base q ad0 n0 c0 s0 Qt r pc (am_1 cal hs J some (.iconst n, len, ops, v) k) := by
  obtain ⟨hx, hb, hml, hown, hret, hlk, hnm, hG, hbs, hfr, hlo, htr, had, hrc, hrs⟩ := E
  intro L st M hrun
  obtain ⟨h1, h2⟩ := am_an (show (am_dk q.2.1 pc (.iconst n) 1 len && decide (v = .int _)) = true from hck)
  obtain ⟨hd, rfl⟩ := am_dk_ok h1
  have h2 := of_decide_eq_true h2
  subst h2
  obtain ⟨hm, hk⟩ := hk _ _ _ (show k L _ M = some r from hrun)
  exact ⟨hm, fun H locs ls ad cells slots I => lv_iconst hx hb hd rfl (hk H locs ls ad cells slots (I.stk (am_ws_c ac_wf_int I.ws)))⟩
theorem sd_bipush {n : Int} (E : am_E p l R s m meth c D cA base t1 t2 sa q ad0 n0 c0 s0 r) (hk : am_S p l e R s m args below meth c D cA base q ad0 n0 c0 s0 Qt r (pc + len) k) (hck : am_ck q hs pc (.bipush n, len, ops, v) = true) : am_S p l e R s m args below meth c D cA base q ad0 n0 c0 s0 Qt r pc (am_1 cal hs J some (.bipush n, len, ops, v) k) := by
  obtain ⟨hx, hb, hml, hown, hret, hlk, hnm, hG, hbs, hfr, hlo, htr, had, hrc, hrs⟩ := E
  intro L st M hrun
  obtain ⟨h1, h2⟩ := am_an (show (am_dk q.2.1 pc (.bipush n) 2 len && decide (v = .int _)) = true from hck)
  obtain ⟨hd, rfl⟩ := am_dk_ok h1
  have h2 := of_decide_eq_true h2
  subst h2
  obtain ⟨hm, hk⟩ := hk _ _ _ (show k L _ M = some r from hrun)
  exact ⟨hm, fun H locs ls ad cells slots I => lv_bipush hx hb hd rfl (hk H locs ls ad cells slots (I.stk (am_ws_c ac_wf_int I.ws)))⟩
theorem sd_sipush {n : Int} (E : am_E p l R s m meth c D cA base t1 t2 sa q ad0 n0 c0 s0 r) (hk : am_S p l e R s m args below meth c D cA base q ad0 n0 c0 s0 Qt r (pc + len) k) (hck : am_ck q hs pc (.sipush n, len, ops, v) = true) : am_S p l e R s m args below meth c D cA base q ad0 n0 c0 s0 Qt r pc (am_1 cal hs J some (.sipush n, len, ops, v) k) := by
  obtain ⟨hx, hb, hml, hown, hret, hlk, hnm, hG, hbs, hfr, hlo, htr, had, hrc, hrs⟩ := E
  intro L st M hrun
  obtain ⟨h1, h2⟩ := am_an (show (am_dk q.2.1 pc (.sipush n) 3 len && decide (v = .int _)) = true from hck)
  obtain ⟨hd, rfl⟩ := am_dk_ok h1
  have h2 := of_decide_eq_true h2
  subst h2
  obtain ⟨hm, hk⟩ := hk _ _ _ (show k L _ M = some r from hrun)
  exact ⟨hm, fun H locs ls ad cells slots I => lv_sipush hx hb hd rfl (hk H locs ls ad cells slots (I.stk (am_ws_c ac_wf_int I.ws)))⟩
theorem sd_lconst {n : Fin 2} (E : am_E p l R s m meth c D cA base t1 t2 sa q ad0 n0 c0 s0 r) (hk : am_S p l e R s m args below meth c D cA base q ad0 n0 c0 s0 Qt r (pc + len) k) (hck : am_ck q hs pc (.lconst n, len, ops, v) = true) : am_S p l e R s m args below meth c D cA base q ad0 n0 c0 s0 Qt r pc (am_1 cal hs J some (.lconst n, len, ops, v) k) := by
  obtain ⟨hx, hb, hml, hown, hret, hlk, hnm, hG, hbs, hfr, hlo, htr, had, hrc, hrs⟩ := E
  intro L st M hrun
  obtain ⟨h1, h2⟩ := am_an (show (am_dk q.2.1 pc (.lconst n) 1 len && decide (v = .long _)) = true from hck)
  obtain ⟨hd, rfl⟩ := am_dk_ok h1
  have h2 := of_decide_eq_true h2
  subst h2
  obtain ⟨hm, hk⟩ := hk _ _ _ (show k L _ M = some r from hrun)
  exact ⟨hm, fun H locs ls ad cells slots I => lv_lconst hx hb hd rfl (hk H locs ls ad cells slots (I.stk (am_ws_c ac_wf_long I.ws)))⟩
theorem sd_ldc_w {n : Nat} (E : am_E p l R s m meth c D cA base t1 t2 sa q ad0 n0 c0 s0 r) (hk : am_S p l e R s m args below meth c D cA base q ad0 n0 c0 s0 Qt r (pc + len) k) (hck : am_ck q hs pc (.ldc_w n, len, ops, v) = true) : am_S p l e R s m args below meth c D cA base q ad0 n0 c0 s0 Qt r pc (am_1 cal hs J some (.ldc_w n, len, ops, v) k) := by
  obtain ⟨hx, hb, hml, hown, hret, hlk, hnm, hG, hbs, hfr, hlo, htr, had, hrc, hrs⟩ := E
  intro L st M hrun
  obtain ⟨h1, h2⟩ := am_an hck
  obtain ⟨hd, rfl⟩ := am_dk_ok h1
  have h3 : ∃ x, v = .int x ∧ am_at (ops.headD 0) (.constant q.1.cls n x) = true := by
    dsimp only at h2
    split at h2
    · exact ⟨_, rfl, h2⟩
    · exact nomatch h2
  obtain ⟨x, rfl, h2⟩ := h3
  obtain ⟨hm, hk⟩ := hk _ _ _ (show k L _ M = some r from hrun)
  exact ⟨hm, fun H locs ls ad cells slots I => lv_ldcw hx hb hown (hG.word h2 args) hd (hk H locs ls ad cells slots (I.stk (am_ws_c ac_wf_int I.ws)))⟩
theorem sd_ldc2_w {n : Nat} (E : am_E p l R s m meth c D cA base t1 t2 sa q ad0 n0 c0 s0 r) (hk : am_S p l e R s m args below meth c D cA base q ad0 n0 c0 s0 Qt r (pc + len) k) (hck : am_ck q hs pc (.ldc2_w n, len, ops, v) = true) : am_S p l e R s m args below meth c D cA base q ad0 n0 c0 s0 Qt r pc (am_1 cal hs J some (.ldc2_w n, len, ops, v) k) := by
  obtain ⟨hx, hb, hml, hown, hret, hlk, hnm, hG, hbs, hfr, hlo, htr, had, hrc, hrs⟩ := E
  intro L st M hrun
  obtain ⟨h1, h2⟩ := am_an hck
  obtain ⟨hd, rfl⟩ := am_dk_ok h1
  have h3 : ∃ x, v = .long x ∧ am_at (ops.headD 0) (.constantLong q.1.cls n x) = true := by
    dsimp only at h2
    split at h2
    · exact ⟨_, rfl, h2⟩
    · exact nomatch h2
  obtain ⟨x, rfl, h2⟩ := h3
  obtain ⟨hm, hk⟩ := hk _ _ _ (show k L _ M = some r from hrun)
  exact ⟨hm, fun H locs ls ad cells slots I => lv_ldc2 hx hb hown (hG.word h2 args) hd (hk H locs ls ad cells slots (I.stk (am_ws_c ac_wf_long I.ws)))⟩
theorem sd_iload_n {n : Fin 4} (E : am_E p l R s m meth c D cA base t1 t2 sa q ad0 n0 c0 s0 r) (hk : am_S p l e R s m args below meth c D cA base q ad0 n0 c0 s0 Qt r (pc + len) k) (hck : am_ck q hs pc (.iload_n n, len, ops, v) = true) : am_S p l e R s m args below meth c D cA base q ad0 n0 c0 s0 Qt r pc (am_1 cal hs J some (.iload_n n, len, ops, v) k) := by
  obtain ⟨hx, hb, hml, hown, hret, hlk, hnm, hG, hbs, hfr, hlo, htr, had, hrc, hrs⟩ := E
  intro L st M hrun
  obtain ⟨h1, h2⟩ := am_an (show (am_dk q.2.1 pc (.iload_n n) 1 len && Nat.beq n.val (ops.headD 0)) = true from hck)
  obtain ⟨hd, rfl⟩ := am_dk_ok h1
  obtain ⟨x, h0, h⟩ := iv_lI (show am_lI (am_ld L (ops.headD 0)) _ = some r from hrun)
  obtain ⟨hm, hk⟩ := hk _ _ _ h
  exact ⟨hm, fun H locs ls ad cells slots I => lv_iload_n hx hb hd (Nat.eq_of_beq_eq_true h2) (am_lc_at I.lv h0) (hk H locs ls ad cells slots (I.stk (am_ws_c (am_ld_wf I.wl h0) I.ws)))⟩
theorem sd_iload {n : Nat} (E : am_E p l R s m meth c D cA base t1 t2 sa q ad0 n0 c0 s0 r) (hk : am_S p l e R s m args below meth c D cA base q ad0 n0 c0 s0 Qt r (pc + len) k) (hck : am_ck q hs pc (.iload n, len, ops, v) = true) : am_S p l e R s m args below meth c D cA base q ad0 n0 c0 s0 Qt r pc (am_1 cal hs J some (.iload n, len, ops, v) k) := by
  obtain ⟨hx, hb, hml, hown, hret, hlk, hnm, hG, hbs, hfr, hlo, htr, had, hrc, hrs⟩ := E
  intro L st M hrun
  obtain ⟨h1, h2⟩ := am_an (show (am_dk q.2.1 pc (.iload n) 2 len && Nat.beq n (ops.headD 0)) = true from hck)
  obtain ⟨hd, rfl⟩ := am_dk_ok h1
  have h2 := Nat.eq_of_beq_eq_true h2
  subst h2
  obtain ⟨x, h0, h⟩ := iv_lI (show am_lI (am_ld L (ops.headD 0)) _ = some r from hrun)
  obtain ⟨hm, hk⟩ := hk _ _ _ h
  exact ⟨hm, fun H locs ls ad cells slots I => lv_iload hx hb hd (am_lc_at I.lv h0) (hk H locs ls ad cells slots (I.stk (am_ws_c (am_ld_wf I.wl h0) I.ws)))⟩
theorem sd_lload_n {n : Fin 4} (E : am_E p l R s m meth c D cA base t1 t2 sa q ad0 n0 c0 s0 r) (hk : am_S p l e R s m args below meth c D cA base q ad0 n0 c0 s0 Qt r (pc + len) k) (hck : am_ck q hs pc (.lload_n n, len, ops, v) = true) : am_S p l e R s m args below meth c D cA base q ad0 n0 c0 s0 Qt r pc (am_1 cal hs J some (.lload_n n, len, ops, v) k) := by
  obtain ⟨hx, hb, hml, hown, hret, hlk, hnm, hG, hbs, hfr, hlo, htr, had, hrc, hrs⟩ := E
  intro L st M hrun
  obtain ⟨h1, h2⟩ := am_an (show (am_dk q.2.1 pc (.lload_n n) 1 len && Nat.beq n.val (ops.headD 0)) = true from hck)
  obtain ⟨hd, rfl⟩ := am_dk_ok h1
  obtain ⟨x, h0, h⟩ := iv_lJ (show am_lJ (am_ld L (ops.headD 0)) _ = some r from hrun)
  obtain ⟨hm, hk⟩ := hk _ _ _ h
  exact ⟨hm, fun H locs ls ad cells slots I => lv_lload_n hx hb hd (Nat.eq_of_beq_eq_true h2) (am_lc_at I.lv h0) (hk H locs ls ad cells slots (I.stk (am_ws_c (am_ld_wf I.wl h0) I.ws)))⟩
theorem sd_lload {n : Nat} (E : am_E p l R s m meth c D cA base t1 t2 sa q ad0 n0 c0 s0 r) (hk : am_S p l e R s m args below meth c D cA base q ad0 n0 c0 s0 Qt r (pc + len) k) (hck : am_ck q hs pc (.lload n, len, ops, v) = true) : am_S p l e R s m args below meth c D cA base q ad0 n0 c0 s0 Qt r pc (am_1 cal hs J some (.lload n, len, ops, v) k) := by
  obtain ⟨hx, hb, hml, hown, hret, hlk, hnm, hG, hbs, hfr, hlo, htr, had, hrc, hrs⟩ := E
  intro L st M hrun
  obtain ⟨h1, h2⟩ := am_an (show (am_dk q.2.1 pc (.lload n) 2 len && Nat.beq n (ops.headD 0)) = true from hck)
  obtain ⟨hd, rfl⟩ := am_dk_ok h1
  have h2 := Nat.eq_of_beq_eq_true h2
  subst h2
  obtain ⟨x, h0, h⟩ := iv_lJ (show am_lJ (am_ld L (ops.headD 0)) _ = some r from hrun)
  obtain ⟨hm, hk⟩ := hk _ _ _ h
  exact ⟨hm, fun H locs ls ad cells slots I => lv_lload hx hb hd (am_lc_at I.lv h0) (hk H locs ls ad cells slots (I.stk (am_ws_c (am_ld_wf I.wl h0) I.ws)))⟩
theorem sd_aload_n {n : Fin 4} (E : am_E p l R s m meth c D cA base t1 t2 sa q ad0 n0 c0 s0 r) (hk : am_S p l e R s m args below meth c D cA base q ad0 n0 c0 s0 Qt r (pc + len) k) (hck : am_ck q hs pc (.aload_n n, len, ops, v) = true) : am_S p l e R s m args below meth c D cA base q ad0 n0 c0 s0 Qt r pc (am_1 cal hs J some (.aload_n n, len, ops, v) k) := by
  obtain ⟨hx, hb, hml, hown, hret, hlk, hnm, hG, hbs, hfr, hlo, htr, had, hrc, hrs⟩ := E
  intro L st M hrun
  obtain ⟨h1, h2⟩ := am_an (show (am_dk q.2.1 pc (.aload_n n) 1 len && Nat.beq n.val (ops.headD 0)) = true from hck)
  obtain ⟨hd, rfl⟩ := am_dk_ok h1
  obtain ⟨x, h0, h⟩ := iv_lA (show am_lA (am_ld L (ops.headD 0)) _ = some r from hrun)
  obtain ⟨hm, hk⟩ := hk _ _ _ h
  exact ⟨hm, fun H locs ls ad cells slots I => lv_aload_n hx hb hd (Nat.eq_of_beq_eq_true h2) (am_lc_at I.lv h0) (hk H locs ls ad cells slots (I.stk (am_ws_c (am_ld_wf I.wl h0) I.ws)))⟩
theorem sd_aload {n : Nat} (E : am_E p l R s m meth c D cA base t1 t2 sa q ad0 n0 c0 s0 r) (hk : am_S p l e R s m args below meth c D cA base q ad0 n0 c0 s0 Qt r (pc + len) k) (hck : am_ck q hs pc (.aload n, len, ops, v) = true) : am_S p l e R s m args below meth c D cA base q ad0 n0 c0 s0 Qt r pc (am_1 cal hs J some (.aload n, len, ops, v) k) := by
  obtain ⟨hx, hb, hml, hown, hret, hlk, hnm, hG, hbs, hfr, hlo, htr, had, hrc, hrs⟩ := E
  intro L st M hrun
  obtain ⟨h1, h2⟩ := am_an (show (am_dk q.2.1 pc (.aload n) 2 len && Nat.beq n (ops.headD 0)) = true from hck)
  obtain ⟨hd, rfl⟩ := am_dk_ok h1
  have h2 := Nat.eq_of_beq_eq_true h2
  subst h2
  obtain ⟨x, h0, h⟩ := iv_lA (show am_lA (am_ld L (ops.headD 0)) _ = some r from hrun)
  obtain ⟨hm, hk⟩ := hk _ _ _ h
  exact ⟨hm, fun H locs ls ad cells slots I => lv_aload hx hb hd (am_lc_at I.lv h0) (hk H locs ls ad cells slots (I.stk (am_ws_c (am_ld_wf I.wl h0) I.ws)))⟩
theorem sd_istore_n {n : Fin 4} (E : am_E p l R s m meth c D cA base t1 t2 sa q ad0 n0 c0 s0 r) (hk : am_S p l e R s m args below meth c D cA base q ad0 n0 c0 s0 Qt r (pc + len) k) (hck : am_ck q hs pc (.istore_n n, len, ops, v) = true) : am_S p l e R s m args below meth c D cA base q ad0 n0 c0 s0 Qt r pc (am_1 cal hs J some (.istore_n n, len, ops, v) k) := by
  obtain ⟨hx, hb, hml, hown, hret, hlk, hnm, hG, hbs, hfr, hlo, htr, had, hrc, hrs⟩ := E
  intro L st M hrun
  obtain ⟨h1, h2⟩ := am_an (show (am_dk q.2.1 pc (.istore_n n) 1 len && (Nat.beq n.val (ops.headD 0) && Nat.blt (ops.headD 0) q.2.2.1)) = true from hck)
  obtain ⟨hd, rfl⟩ := am_dk_ok h1
  obtain ⟨h2, h3⟩ := am_an h2
  have h3 : ops.headD 0 < q.2.2.1 := Nat.le_of_ble_eq_true h3
  obtain ⟨x, w, rfl, h⟩ := iv_I1 (show am_I1 st _ = some r from hrun)
  obtain ⟨hm, hk⟩ := hk _ _ _ h
  exact ⟨hm, fun H locs ls ad cells slots I => lv_istore_n hx hb hd (Nat.eq_of_beq_eq_true h2) I.lv h3 (am_lc_s1 ad L _ (.int x)) (fun ls' hl' => hk H locs ls' ad cells slots (I.lo hl' (am_wl_s1 I.wl (am_ws_h I.ws)) (am_ws_t I.ws)))⟩
theorem sd_istore {n : Nat} (E : am_E p l R s m meth c D cA base t1 t2 sa q ad0 n0 c0 s0 r) (hk : am_S p l e R s m args below meth c D cA base q ad0 n0 c0 s0 Qt r (pc + len) k) (hck : am_ck q hs pc (.istore n, len, ops, v) = true) : am_S p l e R s m args below meth c D cA base q ad0 n0 c0 s0 Qt r pc (am_1 cal hs J some (.istore n, len, ops, v) k) := by
  obtain ⟨hx, hb, hml, hown, hret, hlk, hnm, hG, hbs, hfr, hlo, htr, had, hrc, hrs⟩ := E
  intro L st M hrun
  obtain ⟨h1, h2⟩ := am_an (show (am_dk q.2.1 pc (.istore n) 2 len && (Nat.beq n (ops.headD 0) && Nat.blt (ops.headD 0) q.2.2.1)) = true from hck)
  obtain ⟨hd, rfl⟩ := am_dk_ok h1
  obtain ⟨h2, h3⟩ := am_an h2
  have h3 : ops.headD 0 < q.2.2.1 := Nat.le_of_ble_eq_true h3
  have h2 := Nat.eq_of_beq_eq_true h2
  subst h2
  obtain ⟨x, w, rfl, h⟩ := iv_I1 (show am_I1 st _ = some r from hrun)
  obtain ⟨hm, hk⟩ := hk _ _ _ h
  exact ⟨hm, fun H locs ls ad cells slots I => lv_istore hx hb hd I.lv h3 (am_lc_s1 ad L _ (.int x)) (fun ls' hl' => hk H locs ls' ad cells slots (I.lo hl' (am_wl_s1 I.wl (am_ws_h I.ws)) (am_ws_t I.ws)))⟩
theorem sd_lstore_n {n : Fin 4} (E : am_E p l R s m meth c D cA base t1 t2 sa q ad0 n0 c0 s0 r) (hk : am_S p l e R s m args below meth c D cA base q ad0 n0 c0 s0 Qt r (pc + len) k) (hck : am_ck q hs pc (.lstore_n n, len, ops, v) = true) : am_S p l e R s m args below meth c D cA base q ad0 n0 c0 s0 Qt r pc (am_1 cal hs J some (.lstore_n n, len, ops, v) k) := by
  obtain ⟨hx, hb, hml, hown, hret, hlk, hnm, hG, hbs, hfr, hlo, htr, had, hrc, hrs⟩ := E
  intro L st M hrun
  obtain ⟨h1, h2⟩ := am_an (show (am_dk q.2.1 pc (.lstore_n n) 1 len && (Nat.beq n.val (ops.headD 0) && Nat.blt (ops.headD 0 + 1) q.2.2.1)) = true from hck)
  obtain ⟨hd, rfl⟩ := am_dk_ok h1
  obtain ⟨h2, h3⟩ := am_an h2
  have h3 : ops.headD 0 + 1 < q.2.2.1 := Nat.le_of_ble_eq_true h3
  obtain ⟨x, w, rfl, h⟩ := iv_J1 (show am_J1 st _ = some r from hrun)
  obtain ⟨hm, hk⟩ := hk _ _ _ h
  exact ⟨hm, fun H locs ls ad cells slots I => lv_lstore_n hx hb hd (Nat.eq_of_beq_eq_true h2) I.lv h3 (am_lc_s2 ad L _ (.long x)) (fun ls' hl' => hk H locs ls' ad cells slots (I.lo hl' (am_wl_s2 I.wl (am_ws_h I.ws)) (am_ws_t I.ws)))⟩
theorem sd_lstore {n : Nat} (E : am_E p l R s m meth c D cA base t1 t2 sa q ad0 n0 c0 s0 r) (hk : am_S p l e R s m args below meth c D cA base q ad0 n0 c0 s0 Qt r (pc + len) k) (hck : am_ck q hs pc (.lstore n, len, ops, v) = true) : am_S p l e R s m args below meth c D cA base q ad0 n0 c0 s0 Qt r pc (am_1 cal hs J some (.lstore n, len, ops, v) k) := by
  obtain ⟨hx, hb, hml, hown, hret, hlk, hnm, hG, hbs, hfr, hlo, htr, had, hrc, hrs⟩ := E
  intro L st M hrun
  obtain ⟨h1, h2⟩ := am_an (show (am_dk q.2.1 pc (.lstore n) 2 len && (Nat.beq n (ops.headD 0) && Nat.blt (ops.headD 0 + 1) q.2.2.1)) = true from hck)
  obtain ⟨hd, rfl⟩ := am_dk_ok h1
  obtain ⟨h2, h3⟩ := am_an h2
  have h3 : ops.headD 0 + 1 < q.2.2.1 := Nat.le_of_ble_eq_true h3
  have h2 := Nat.eq_of_beq_eq_true h2
  subst h2
  obtain ⟨x, w, rfl, h⟩ := iv_J1 (show am_J1 st _ = some r from hrun)
  obtain ⟨hm, hk⟩ := hk _ _ _ h
  exact ⟨hm, fun H locs ls ad cells slots I => lv_lstore hx hb hd I.lv h3 (am_lc_s2 ad L _ (.long x)) (fun ls' hl' => hk H locs ls' ad cells slots (I.lo hl' (am_wl_s2 I.wl (am_ws_h I.ws)) (am_ws_t I.ws)))⟩
theorem sd_astore_n {n : Fin 4} (E : am_E p l R s m meth c D cA base t1 t2 sa q ad0 n0 c0 s0 r) (hk : am_S p l e R s m args below meth c D cA base q ad0 n0 c0 s0 Qt r (pc + len) k) (hck : am_ck q hs pc (.astore_n n, len, ops, v) = true) : am_S p l e R s m args below meth c D cA base q ad0 n0 c0 s0 Qt r pc (am_1 cal hs J some (.astore_n n, len, ops, v) k) := by
  obtain ⟨hx, hb, hml, hown, hret, hlk, hnm, hG, hbs, hfr, hlo, htr, had, hrc, hrs⟩ := E
  intro L st M hrun
  obtain ⟨h1, h2⟩ := am_an (show (am_dk q.2.1 pc (.astore_n n) 1 len && (Nat.beq n.val (ops.headD 0) && Nat.blt (ops.headD 0) q.2.2.1)) = true from hck)
  obtain ⟨hd, rfl⟩ := am_dk_ok h1
  obtain ⟨h2, h3⟩ := am_an h2
  have h3 : ops.headD 0 < q.2.2.1 := Nat.le_of_ble_eq_true h3
  obtain ⟨x, w, rfl, h⟩ := iv_A1 (show am_A1 st _ = some r from hrun)
  obtain ⟨hm, hk⟩ := hk _ _ _ h
  exact ⟨hm, fun H locs ls ad cells slots I => lv_astore_n hx hb hd (Nat.eq_of_beq_eq_true h2) I.lv h3 (am_lc_s1 ad L _ (.ref x)) (fun ls' hl' => hk H locs ls' ad cells slots (I.lo hl' (am_wl_s1 I.wl (am_ws_h I.ws)) (am_ws_t I.ws)))⟩
theorem sd_astore {n : Nat} (E : am_E p l R s m meth c D cA base t1 t2 sa q ad0 n0 c0 s0 r) (hk : am_S p l e R s m args below meth c D cA base q ad0 n0 c0 s0 Qt r (pc + len) k) (hck : am_ck q hs pc (.astore n, len, ops, v) = true) : am_S p l e R s m args below meth c D cA base q ad0 n0 c0 s0 Qt r pc (am_1 cal hs J some (.astore n, len, ops, v) k) := by
  obtain ⟨hx, hb, hml, hown, hret, hlk, hnm, hG, hbs, hfr, hlo, htr, had, hrc, hrs⟩ := E
  intro L st M hrun
  obtain ⟨h1, h2⟩ := am_an (show (am_dk q.2.1 pc (.astore n) 2 len && (Nat.beq n (ops.headD 0) && Nat.blt (ops.headD 0) q.2.2.1)) = true from hck)
  obtain ⟨hd, rfl⟩ := am_dk_ok h1
  obtain ⟨h2, h3⟩ := am_an h2
  have h3 : ops.headD 0 < q.2.2.1 := Nat.le_of_ble_eq_true h3
  have h2 := Nat.eq_of_beq_eq_true h2
  subst h2
  obtain ⟨x, w, rfl, h⟩ := iv_A1 (show am_A1 st _ = some r from hrun)
  obtain ⟨hm, hk⟩ := hk _ _ _ h
  exact ⟨hm, fun H locs ls ad cells slots I => lv_astore hx hb hd I.lv h3 (am_lc_s1 ad L _ (.ref x)) (fun ls' hl' => hk H locs ls' ad cells slots (I.lo hl' (am_wl_s1 I.wl (am_ws_h I.ws)) (am_ws_t I.ws)))⟩
theorem sd_iinc {n : Nat} {z : Int} (E : am_E p l R s m meth c D cA base t1 t2 sa q ad0 n0 c0 s0 r) (hk : am_S p l e R s m args below meth c D cA base q ad0 n0 c0 s0 Qt r (pc + len) k) (hck : am_ck q hs pc (.iinc n z, len, ops, v) = true) : am_S p l e R s m args below meth c D cA base q ad0 n0 c0 s0 Qt r pc (am_1 cal hs J some (.iinc n z, len, ops, v) k) := by
  obtain ⟨hx, hb, hml, hown, hret, hlk, hnm, hG, hbs, hfr, hlo, htr, had, hrc, hrs⟩ := E
  intro L st M hrun
  obtain ⟨h1, h2⟩ := am_an (show (am_dk q.2.1 pc (.iinc n z) 3 len && (Nat.beq n (ops.headD 0) && (Nat.blt (ops.headD 0) q.2.2.1 && decide (v = .int (Int32.ofInt z))))) = true from hck)
  obtain ⟨hd, rfl⟩ := am_dk_ok h1
  obtain ⟨h2, h3⟩ := am_an h2
  obtain ⟨h5, h4⟩ := am_an h3
  have h6 : ops.headD 0 < q.2.2.1 := Nat.le_of_ble_eq_true h5
  have h4 := of_decide_eq_true h4
  have h2 := Nat.eq_of_beq_eq_true h2
  subst h2; subst h4
  obtain ⟨x, h0, h⟩ := iv_lI (show am_lI (am_ld L (ops.headD 0)) _ = some r from hrun)
  obtain ⟨hm, hk⟩ := hk _ _ _ (show k _ st M = some r from h)
  refine ⟨hm, fun H locs ls ad cells slots I => ?_⟩
  obtain ⟨j, hj⟩ := List.getElem?_of_mem (List.mem_map.mpr ⟨_, am_ld_mem h0, rfl⟩ : (ops.headD 0, ac ad (.int x)) ∈ am_lc ad L)
  exact lv_iinc hx hb hd I.lv hj rfl h6 (am_lc_s1 ad L _ (.int (x + Int32.ofInt z))) (fun ls' hl' => hk H locs ls' ad cells slots (I.lo hl' (am_wl_s1 I.wl ac_wf_int) I.ws))
theorem sd_dup  (E : am_E p l R s m meth c D cA base t1 t2 sa q ad0 n0 c0 s0 r) (hk : am_S p l e R s m args below meth c D cA base q ad0 n0 c0 s0 Qt r (pc + len) k) (hck : am_ck q hs pc (.dup, len, ops, v) = true) : am_S p l e R s m args below meth c D cA base q ad0 n0 c0 s0 Qt r pc (am_1 cal hs J some (.dup, len, ops, v) k) := by
  obtain ⟨hx, hb, hml, hown, hret, hlk, hnm, hG, hbs, hfr, hlo, htr, had, hrc, hrs⟩ := E
  intro L st M hrun
  obtain ⟨hd, rfl⟩ := am_dk_ok (show am_dk q.2.1 pc (.dup) 1 len = true from hck)
  obtain ⟨u, w, rfl, hc, h⟩ := iv_dp (show am_dp st _ = some r from hrun)
  obtain ⟨hm, hk⟩ := hk _ _ _ h
  exact ⟨hm, fun H locs ls ad cells slots I => lv_dup hx hb hd (by rw [ac_cat]; exact hc) (hk H locs ls ad cells slots (I.stk (am_ws_c (am_ws_h I.ws) I.ws)))⟩
theorem sd_dup2  (E : am_E p l R s m meth c D cA base t1 t2 sa q ad0 n0 c0 s0 r) (hk : am_S p l e R s m args below meth c D cA base q ad0 n0 c0 s0 Qt r (pc + len) k) (hck : am_ck q hs pc (.dup2, len, ops, v) = true) : am_S p l e R s m args below meth c D cA base q ad0 n0 c0 s0 Qt r pc (am_1 cal hs J some (.dup2, len, ops, v) k) := by
  obtain ⟨hx, hb, hml, hown, hret, hlk, hnm, hG, hbs, hfr, hlo, htr, had, hrc, hrs⟩ := E
  intro L st M hrun
  obtain ⟨hd, rfl⟩ := am_dk_ok (show am_dk q.2.1 pc (.dup2) 1 len = true from hck)
  obtain ⟨u, w, rfl, hc, h⟩ := iv_dp (show am_dp st _ = some r from hrun)
  obtain ⟨u2, w, rfl, hc2, h⟩ := iv_dp h
  obtain ⟨hm, hk⟩ := hk _ _ _ h
  exact ⟨hm, fun H locs ls ad cells slots I => lv_dup2_11 hx hb hd (by rw [ac_cat]; exact hc) (by rw [ac_cat]; exact hc2) (hk H locs ls ad cells slots (I.stk (am_ws_c (am_ws_h I.ws) (am_ws_c (am_ws_h (am_ws_t I.ws)) I.ws))))⟩
theorem sd_pop  (E : am_E p l R s m meth c D cA base t1 t2 sa q ad0 n0 c0 s0 r) (hk : am_S p l e R s m args below meth c D cA base q ad0 n0 c0 s0 Qt r (pc + len) k) (hck : am_ck q hs pc (.pop, len, ops, v) = true) : am_S p l e R s m args below meth c D cA base q ad0 n0 c0 s0 Qt r pc (am_1 cal hs J some (.pop, len, ops, v) k) := by
  obtain ⟨hx, hb, hml, hown, hret, hlk, hnm, hG, hbs, hfr, hlo, htr, had, hrc, hrs⟩ := E
  intro L st M hrun
  obtain ⟨hd, rfl⟩ := am_dk_ok (show am_dk q.2.1 pc (.pop) 1 len = true from hck)
  obtain ⟨u, w, rfl, hc, h⟩ := iv_dp (show am_dp st _ = some r from hrun)
  obtain ⟨hm, hk⟩ := hk _ _ _ h
  exact ⟨hm, fun H locs ls ad cells slots I => lv_pop hx hb hd (by rw [ac_cat]; exact hc) (hk H locs ls ad cells slots (I.stk (am_ws_t I.ws)))⟩
theorem sd_pop2  (E : am_E p l R s m meth c D cA base t1 t2 sa q ad0 n0 c0 s0 r) (hk : am_S p l e R s m args below meth c D cA base q ad0 n0 c0 s0 Qt r (pc + len) k) (hck : am_ck q hs pc (.pop2, len, ops, v) = true) : am_S p l e R s m args below meth c D cA base q ad0 n0 c0 s0 Qt r pc (am_1 cal hs J some (.pop2, len, ops, v) k) := by
  obtain ⟨hx, hb, hml, hown, hret, hlk, hnm, hG, hbs, hfr, hlo, htr, had, hrc, hrs⟩ := E
  intro L st M hrun
  obtain ⟨hd, rfl⟩ := am_dk_ok (show am_dk q.2.1 pc (.pop2) 1 len = true from hck)
  obtain ⟨x, w, rfl, h⟩ := iv_J1 (show am_J1 st _ = some r from hrun)
  obtain ⟨hm, hk⟩ := hk _ _ _ h
  exact ⟨hm, fun H locs ls ad cells slots I => lv_pop2_2 hx hb hd rfl (hk H locs ls ad cells slots (I.stk (am_ws_t I.ws)))⟩
theorem sd_if_eq {off : Int} (E : am_E p l R s m meth c D cA base t1 t2 sa q ad0 n0 c0 s0 r) (hk : am_S p l e R s m args below meth c D cA base q ad0 n0 c0 s0 Qt r (pc + len) k) (hJ : ∀ z, am_S p l e R s m args below meth c D cA base q ad0 n0 c0 s0 Qt r z (J z)) (hck : am_ck q hs pc (.ifCond .eq off, len, ops, v) = true) : am_S p l e R s m args below meth c D cA base q ad0 n0 c0 s0 Qt r pc (am_1 cal hs J some (.ifCond .eq off, len, ops, v) k) := by
  obtain ⟨hx, hb, hml, hown, hret, hlk, hnm, hG, hbs, hfr, hlo, htr, had, hrc, hrs⟩ := E
  intro L st M hrun
  obtain ⟨h1, h2⟩ := am_an (show (am_dk q.2.1 pc (.ifCond .eq off) 3 len && decide ((pc : Int) + off = ((ops.headD 0 : Nat) : Int))) = true from hck)
  obtain ⟨hd, rfl⟩ := am_dk_ok h1
  have h2 := of_decide_eq_true h2
  obtain ⟨x, w, rfl, h⟩ := iv_I1 (show am_I1 st _ = some r from hrun)
  by_cases hc : x = 0
  · obtain ⟨lv, h⟩ := iv_jp (show am_jp J ops L w M = some r from (if_pos hc).symm.trans h)
    obtain ⟨hm, hk⟩ := hJ _ _ _ _ h
    exact ⟨hm, fun H locs ls ad cells slots I => lv_if_eq hx hb hd h2 (fun _ => hk H locs ls ad cells slots (I.pj lv (am_ws_t I.ws))) (fun n => absurd hc n)⟩
  · obtain ⟨hm, hk⟩ := hk _ _ _ (show k L w M = some r from (if_neg hc).symm.trans h)
    exact ⟨hm, fun H locs ls ad cells slots I => lv_if_eq hx hb hd h2 (fun n => absurd n hc) (fun _ => hk H locs ls ad cells slots (I.stk (am_ws_t I.ws)))⟩
theorem sd_if_ne {off : Int} (E : am_E p l R s m meth c D cA base t1 t2 sa q ad0 n0 c0 s0 r) (hk : am_S p l e R s m args below meth c D cA base q ad0 n0 c0 s0 Qt r (pc + len) k) (hJ : ∀ z, am_S p l e R s m args below meth c D cA base q ad0 n0 c0 s0 Qt r z (J z)) (hck : am_ck q hs pc (.ifCond .ne off, len, ops, v) = true) : am_S p l e R s m args below meth c D cA base q ad0 n0 c0 s0 Qt r pc (am_1 cal hs J some (.ifCond .ne off, len, ops, v) k) := by
  obtain ⟨hx, hb, hml, hown, hret, hlk, hnm, hG, hbs, hfr, hlo, htr, had, hrc, hrs⟩ := E
  intro L st M hrun
  obtain ⟨h1, h2⟩ := am_an (show (am_dk q.2.1 pc (.ifCond .ne off) 3 len && decide ((pc : Int) + off = ((ops.headD 0 : Nat) : Int))) = true from hck)
  obtain ⟨hd, rfl⟩ := am_dk_ok h1
  have h2 := of_decide_eq_true h2
  obtain ⟨x, w, rfl, h⟩ := iv_I1 (show am_I1 st _ = some r from hrun)
  by_cases hc : ¬ x = 0
  · obtain ⟨lv, h⟩ := iv_jp (show am_jp J ops L w M = some r from (if_pos hc).symm.trans h)
    obtain ⟨hm, hk⟩ := hJ _ _ _ _ h
    exact ⟨hm, fun H locs ls ad cells slots I => lv_if_ne hx hb hd h2 (fun _ => hk H locs ls ad cells slots (I.pj lv (am_ws_t I.ws))) (fun n => absurd n hc)⟩
  · obtain ⟨hm, hk⟩ := hk _ _ _ (show k L w M = some r from (if_neg hc).symm.trans h)
    exact ⟨hm, fun H locs ls ad cells slots I => lv_if_ne hx hb hd h2 (fun n => absurd n hc) (fun _ => hk H locs ls ad cells slots (I.stk (am_ws_t I.ws)))⟩
theorem sd_if_lt {off : Int} (E : am_E p l R s m meth c D cA base t1 t2 sa q ad0 n0 c0 s0 r) (hk : am_S p l e R s m args below meth c D cA base q ad0 n0 c0 s0 Qt r (pc + len) k) (hJ : ∀ z, am_S p l e R s m args below meth c D cA base q ad0 n0 c0 s0 Qt r z (J z)) (hck : am_ck q hs pc (.ifCond .lt off, len, ops, v) = true) : am_S p l e R s m args below meth c D cA base q ad0 n0 c0 s0 Qt r pc (am_1 cal hs J some (.ifCond .lt off, len, ops, v) k) := by
  obtain ⟨hx, hb, hml, hown, hret, hlk, hnm, hG, hbs, hfr, hlo, htr, had, hrc, hrs⟩ := E
  intro L st M hrun
  obtain ⟨h1, h2⟩ := am_an (show (am_dk q.2.1 pc (.ifCond .lt off) 3 len && decide ((pc : Int) + off = ((ops.headD 0 : Nat) : Int))) = true from hck)
  obtain ⟨hd, rfl⟩ := am_dk_ok h1
  have h2 := of_decide_eq_true h2
  obtain ⟨x, w, rfl, h⟩ := iv_I1 (show am_I1 st _ = some r from hrun)
  by_cases hc : x < 0
  · obtain ⟨lv, h⟩ := iv_jp (show am_jp J ops L w M = some r from (if_pos hc).symm.trans h)
    obtain ⟨hm, hk⟩ := hJ _ _ _ _ h
    exact ⟨hm, fun H locs ls ad cells slots I => lv_if_lt hx hb hd h2 (fun _ => hk H locs ls ad cells slots (I.pj lv (am_ws_t I.ws))) (fun n => absurd hc n)⟩
  · obtain ⟨hm, hk⟩ := hk _ _ _ (show k L w M = some r from (if_neg hc).symm.trans h)
    exact ⟨hm, fun H locs ls ad cells slots I => lv_if_lt hx hb hd h2 (fun n => absurd n hc) (fun _ => hk H locs ls ad cells slots (I.stk (am_ws_t I.ws)))⟩
theorem sd_if_ge {off : Int} (E : am_E p l R s m meth c D cA base t1 t2 sa q ad0 n0 c0 s0 r) (hk : am_S p l e R s m args below meth c D cA base q ad0 n0 c0 s0 Qt r (pc + len) k) (hJ : ∀ z, am_S p l e R s m args below meth c D cA base q ad0 n0 c0 s0 Qt r z (J z)) (hck : am_ck q hs pc (.ifCond .ge off, len, ops, v) = true) : am_S p l e R s m args below meth c D cA base q ad0 n0 c0 s0 Qt r pc (am_1 cal hs J some (.ifCond .ge off, len, ops, v) k) := by
  obtain ⟨hx, hb, hml, hown, hret, hlk, hnm, hG, hbs, hfr, hlo, htr, had, hrc, hrs⟩ := E
  intro L st M hrun
  obtain ⟨h1, h2⟩ := am_an (show (am_dk q.2.1 pc (.ifCond .ge off) 3 len && decide ((pc : Int) + off = ((ops.headD 0 : Nat) : Int))) = true from hck)
  obtain ⟨hd, rfl⟩ := am_dk_ok h1
  have h2 := of_decide_eq_true h2
  obtain ⟨x, w, rfl, h⟩ := iv_I1 (show am_I1 st _ = some r from hrun)
  by_cases hc : 0 ≤ x
  · obtain ⟨lv, h⟩ := iv_jp (show am_jp J ops L w M = some r from (if_pos hc).symm.trans h)
    obtain ⟨hm, hk⟩ := hJ _ _ _ _ h
    exact ⟨hm, fun H locs ls ad cells slots I => lv_if_ge hx hb hd h2 (fun _ => hk H locs ls ad cells slots (I.pj lv (am_ws_t I.ws))) (fun n => absurd hc n)⟩
  · obtain ⟨hm, hk⟩ := hk _ _ _ (show k L w M = some r from (if_neg hc).symm.trans h)
    exact ⟨hm, fun H locs ls ad cells slots I => lv_if_ge hx hb hd h2 (fun n => absurd n hc) (fun _ => hk H locs ls ad cells slots (I.stk (am_ws_t I.ws)))⟩
theorem sd_if_gt {off : Int} (E : am_E p l R s m meth c D cA base t1 t2 sa q ad0 n0 c0 s0 r) (hk : am_S p l e R s m args below meth c D cA base q ad0 n0 c0 s0 Qt r (pc + len) k) (hJ : ∀ z, am_S p l e R s m args below meth c D cA base q ad0 n0 c0 s0 Qt r z (J z)) (hck : am_ck q hs pc (.ifCond .gt off, len, ops, v) = true) : am_S p l e R s m args below meth c D cA base q ad0 n0 c0 s0 Qt r pc (am_1 cal hs J some (.ifCond .gt off, len, ops, v) k) := by
  obtain ⟨hx, hb, hml, hown, hret, hlk, hnm, hG, hbs, hfr, hlo, htr, had, hrc, hrs⟩ := E
  intro L st M hrun
  obtain ⟨h1, h2⟩ := am_an (show (am_dk q.2.1 pc (.ifCond .gt off) 3 len && decide ((pc : Int) + off = ((ops.headD 0 : Nat) : Int))) = true from hck)
  obtain ⟨hd, rfl⟩ := am_dk_ok h1
  have h2 := of_decide_eq_true h2
  obtain ⟨x, w, rfl, h⟩ := iv_I1 (show am_I1 st _ = some r from hrun)
  by_cases hc : 0 < x
  · obtain ⟨lv, h⟩ := iv_jp (show am_jp J ops L w M = some r from (if_pos hc).symm.trans h)
    obtain ⟨hm, hk⟩ := hJ _ _ _ _ h
    exact ⟨hm, fun H locs ls ad cells slots I => lv_if_gt hx hb hd h2 (fun _ => hk H locs ls ad cells slots (I.pj lv (am_ws_t I.ws))) (fun n => absurd hc n)⟩
  · obtain ⟨hm, hk⟩ := hk _ _ _ (show k L w M = some r from (if_neg hc).symm.trans h)
    exact ⟨hm, fun H locs ls ad cells slots I => lv_if_gt hx hb hd h2 (fun n => absurd n hc) (fun _ => hk H locs ls ad cells slots (I.stk (am_ws_t I.ws)))⟩
theorem sd_if_le {off : Int} (E : am_E p l R s m meth c D cA base t1 t2 sa q ad0 n0 c0 s0 r) (hk : am_S p l e R s m args below meth c D cA base q ad0 n0 c0 s0 Qt r (pc + len) k) (hJ : ∀ z, am_S p l e R s m args below meth c D cA base q ad0 n0 c0 s0 Qt r z (J z)) (hck : am_ck q hs pc (.ifCond .le off, len, ops, v) = true) : am_S p l e R s m args below meth c D cA base q ad0 n0 c0 s0 Qt r pc (am_1 cal hs J some (.ifCond .le off, len, ops, v) k) := by
  obtain ⟨hx, hb, hml, hown, hret, hlk, hnm, hG, hbs, hfr, hlo, htr, had, hrc, hrs⟩ := E
  intro L st M hrun
  obtain ⟨h1, h2⟩ := am_an (show (am_dk q.2.1 pc (.ifCond .le off) 3 len && decide ((pc : Int) + off = ((ops.headD 0 : Nat) : Int))) = true from hck)
  obtain ⟨hd, rfl⟩ := am_dk_ok h1
  have h2 := of_decide_eq_true h2
  obtain ⟨x, w, rfl, h⟩ := iv_I1 (show am_I1 st _ = some r from hrun)
  by_cases hc : x ≤ 0
  · obtain ⟨lv, h⟩ := iv_jp (show am_jp J ops L w M = some r from (if_pos hc).symm.trans h)
    obtain ⟨hm, hk⟩ := hJ _ _ _ _ h
    exact ⟨hm, fun H locs ls ad cells slots I => lv_if_le hx hb hd h2 (fun _ => hk H locs ls ad cells slots (I.pj lv (am_ws_t I.ws))) (fun n => absurd hc n)⟩
  · obtain ⟨hm, hk⟩ := hk _ _ _ (show k L w M = some r from (if_neg hc).symm.trans h)
    exact ⟨hm, fun H locs ls ad cells slots I => lv_if_le hx hb hd h2 (fun n => absurd n hc) (fun _ => hk H locs ls ad cells slots (I.stk (am_ws_t I.ws)))⟩
theorem sd_icmp_eq {off : Int} (E : am_E p l R s m meth c D cA base t1 t2 sa q ad0 n0 c0 s0 r) (hk : am_S p l e R s m args below meth c D cA base q ad0 n0 c0 s0 Qt r (pc + len) k) (hJ : ∀ z, am_S p l e R s m args below meth c D cA base q ad0 n0 c0 s0 Qt r z (J z)) (hck : am_ck q hs pc (.if_icmp .eq off, len, ops, v) = true) : am_S p l e R s m args below meth c D cA base q ad0 n0 c0 s0 Qt r pc (am_1 cal hs J some (.if_icmp .eq off, len, ops, v) k) := by
  obtain ⟨hx, hb, hml, hown, hret, hlk, hnm, hG, hbs, hfr, hlo, htr, had, hrc, hrs⟩ := E
  intro L st M hrun
  obtain ⟨h1, h2⟩ := am_an (show (am_dk q.2.1 pc (.if_icmp .eq off) 3 len && decide ((pc : Int) + off = ((ops.headD 0 : Nat) : Int))) = true from hck)
  obtain ⟨hd, rfl⟩ := am_dk_ok h1
  have h2 := of_decide_eq_true h2
  obtain ⟨x, y, w, rfl, h⟩ := iv_I2 (show am_I2 st _ = some r from hrun)
  by_cases hc : x = y
  · obtain ⟨lv, h⟩ := iv_jp (show am_jp J ops L w M = some r from (if_pos hc).symm.trans h)
    obtain ⟨hm, hk⟩ := hJ _ _ _ _ h
    exact ⟨hm, fun H locs ls ad cells slots I => lv_icmp_eq hx hb hd h2 (fun _ => hk H locs ls ad cells slots (I.pj lv (am_ws_t (am_ws_t I.ws)))) (fun n => absurd hc n)⟩
  · obtain ⟨hm, hk⟩ := hk _ _ _ (show k L w M = some r from (if_neg hc).symm.trans h)
    exact ⟨hm, fun H locs ls ad cells slots I => lv_icmp_eq hx hb hd h2 (fun n => absurd n hc) (fun _ => hk H locs ls ad cells slots (I.stk (am_ws_t (am_ws_t I.ws))))⟩
theorem sd_icmp_ne {off : Int} (E : am_E p l R s m meth c D cA base t1 t2 sa q ad0 n0 c0 s0 r) (hk : am_S p l e R s m args below meth c D cA base q ad0 n0 c0 s0 Qt r (pc + len) k) (hJ : ∀ z, am_S p l e R s m args below meth c D cA base q ad0 n0 c0 s0 Qt r z (J z)) (hck : am_ck q hs pc (.if_icmp .ne off, len, ops, v) = true) : am_S p l e R s m args below meth c D cA base q ad0 n0 c0 s0 Qt r pc (am_1 cal hs J some (.if_icmp .ne off, len, ops, v) k) := by
  obtain ⟨hx, hb, hml, hown, hret, hlk, hnm, hG, hbs, hfr, hlo, htr, had, hrc, hrs⟩ := E
  intro L st M hrun
  obtain ⟨h1, h2⟩ := am_an (show (am_dk q.2.1 pc (.if_icmp .ne off) 3 len && decide ((pc : Int) + off = ((ops.headD 0 : Nat) : Int))) = true from hck)
  obtain ⟨hd, rfl⟩ := am_dk_ok h1
  have h2 := of_decide_eq_true h2
  obtain ⟨x, y, w, rfl, h⟩ := iv_I2 (show am_I2 st _ = some r from hrun)
  by_cases hc : ¬ x = y
  · obtain ⟨lv, h⟩ := iv_jp (show am_jp J ops L w M = some r from (if_pos hc).symm.trans h)
    obtain ⟨hm, hk⟩ := hJ _ _ _ _ h
    exact ⟨hm, fun H locs ls ad cells slots I => lv_icmp_ne hx hb hd h2 (fun _ => hk H locs ls ad cells slots (I.pj lv (am_ws_t (am_ws_t I.ws)))) (fun n => absurd n hc)⟩
  · obtain ⟨hm, hk⟩ := hk _ _ _ (show k L w M = some r from (if_neg hc).symm.trans h)
    exact ⟨hm, fun H locs ls ad cells slots I => lv_icmp_ne hx hb hd h2 (fun n => absurd n hc) (fun _ => hk H locs ls ad cells slots (I.stk (am_ws_t (am_ws_t I.ws))))⟩
theorem sd_icmp_lt {off : Int} (E : am_E p l R s m meth c D cA base t1 t2 sa q ad0 n0 c0 s0 r) (hk : am_S p l e R s m args below meth c D cA base q ad0 n0 c0 s0 Qt r (pc + len) k) (hJ : ∀ z, am_S p l e R s m args below meth c D cA base q ad0 n0 c0 s0 Qt r z (J z)) (hck : am_ck q hs pc (.if_icmp .lt off, len, ops, v) = true) : am_S p l e R s m args below meth c D cA base q ad0 n0 c0 s0 Qt r pc (am_1 cal hs J some (.if_icmp .lt off, len, ops, v) k) := by
  obtain ⟨hx, hb, hml, hown, hret, hlk, hnm, hG, hbs, hfr, hlo, htr, had, hrc, hrs⟩ := E
  intro L st M hrun
  obtain ⟨h1, h2⟩ := am_an (show (am_dk q.2.1 pc (.if_icmp .lt off) 3 len && decide ((pc : Int) + off = ((ops.headD 0 : Nat) : Int))) = true from hck)
  obtain ⟨hd, rfl⟩ := am_dk_ok h1
  have h2 := of_decide_eq_true h2
  obtain ⟨x, y, w, rfl, h⟩ := iv_I2 (show am_I2 st _ = some r from hrun)
  by_cases hc : x < y
  · obtain ⟨lv, h⟩ := iv_jp (show am_jp J ops L w M = some r from (if_pos hc).symm.trans h)
    obtain ⟨hm, hk⟩ := hJ _ _ _ _ h
    exact ⟨hm, fun H locs ls ad cells slots I => lv_icmp_lt hx hb hd h2 (fun _ => hk H locs ls ad cells slots (I.pj lv (am_ws_t (am_ws_t I.ws)))) (fun n => absurd hc n)⟩
  · obtain ⟨hm, hk⟩ := hk _ _ _ (show k L w M = some r from (if_neg hc).symm.trans h)
    exact ⟨hm, fun H locs ls ad cells slots I => lv_icmp_lt hx hb hd h2 (fun n => absurd n hc) (fun _ => hk H locs ls ad cells slots (I.stk (am_ws_t (am_ws_t I.ws))))⟩
theorem sd_icmp_ge {off : Int} (E : am_E p l R s m meth c D cA base t1 t2 sa q ad0 n0 c0 s0 r) (hk : am_S p l e R s m args below meth c D cA base q ad0 n0 c0 s0 Qt r (pc + len) k) (hJ : ∀ z, am_S p l e R s m args below meth c D cA base q ad0 n0 c0 s0 Qt r z (J z)) (hck : am_ck q hs pc (.if_icmp .ge off, len, ops, v) = true) : am_S p l e R s m args below meth c D cA base q ad0 n0 c0 s0 Qt r pc (am_1 cal hs J some (.if_icmp .ge off, len, ops, v) k) := by
  obtain ⟨hx, hb, hml, hown, hret, hlk, hnm, hG, hbs, hfr, hlo, htr, had, hrc, hrs⟩ := E
  intro L st M hrun
  obtain ⟨h1, h2⟩ := am_an (show (am_dk q.2.1 pc (.if_icmp .ge off) 3 len && decide ((pc : Int) + off = ((ops.headD 0 : Nat) : Int))) = true from hck)
  obtain ⟨hd, rfl⟩ := am_dk_ok h1
  have h2 := of_decide_eq_true h2
  obtain ⟨x, y, w, rfl, h⟩ := iv_I2 (show am_I2 st _ = some r from hrun)
  by_cases hc : y ≤ x
  · obtain ⟨lv, h⟩ := iv_jp (show am_jp J ops L w M = some r from (if_pos hc).symm.trans h)
    obtain ⟨hm, hk⟩ := hJ _ _ _ _ h
    exact ⟨hm, fun H locs ls ad cells slots I => lv_icmp_ge hx hb hd h2 (fun _ => hk H locs ls ad cells slots (I.pj lv (am_ws_t (am_ws_t I.ws)))) (fun n => absurd hc n)⟩
  · obtain ⟨hm, hk⟩ := hk _ _ _ (show k L w M = some r from (if_neg hc).symm.trans h)
    exact ⟨hm, fun H locs ls ad cells slots I => lv_icmp_ge hx hb hd h2 (fun n => absurd n hc) (fun _ => hk H locs ls ad cells slots (I.stk (am_ws_t (am_ws_t I.ws))))⟩
theorem sd_icmp_gt {off : Int} (E : am_E p l R s m meth c D cA base t1 t2 sa q ad0 n0 c0 s0 r) (hk : am_S p l e R s m args below meth c D cA base q ad0 n0 c0 s0 Qt r (pc + len) k) (hJ : ∀ z, am_S p l e R s m args below meth c D cA base q ad0 n0 c0 s0 Qt r z (J z)) (hck : am_ck q hs pc (.if_icmp .gt off, len, ops, v) = true) : am_S p l e R s m args below meth c D cA base q ad0 n0 c0 s0 Qt r pc (am_1 cal hs J some (.if_icmp .gt off, len, ops, v) k) := by
  obtain ⟨hx, hb, hml, hown, hret, hlk, hnm, hG, hbs, hfr, hlo, htr, had, hrc, hrs⟩ := E
  intro L st M hrun
  obtain ⟨h1, h2⟩ := am_an (show (am_dk q.2.1 pc (.if_icmp .gt off) 3 len && decide ((pc : Int) + off = ((ops.headD 0 : Nat) : Int))) = true from hck)
  obtain ⟨hd, rfl⟩ := am_dk_ok h1
  have h2 := of_decide_eq_true h2
  obtain ⟨x, y, w, rfl, h⟩ := iv_I2 (show am_I2 st _ = some r from hrun)
  by_cases hc : y < x
  · obtain ⟨lv, h⟩ := iv_jp (show am_jp J ops L w M = some r from (if_pos hc).symm.trans h)
    obtain ⟨hm, hk⟩ := hJ _ _ _ _ h
    exact ⟨hm, fun H locs ls ad cells slots I => lv_icmp_gt hx hb hd h2 (fun _ => hk H locs ls ad cells slots (I.pj lv (am_ws_t (am_ws_t I.ws)))) (fun n => absurd hc n)⟩
  · obtain ⟨hm, hk⟩ := hk _ _ _ (show k L w M = some r from (if_neg hc).symm.trans h)
    exact ⟨hm, fun H locs ls ad cells slots I => lv_icmp_gt hx hb hd h2 (fun n => absurd n hc) (fun _ => hk H locs ls ad cells slots (I.stk (am_ws_t (am_ws_t I.ws))))⟩
theorem sd_icmp_le {off : Int} (E : am_E p l R s m meth c D cA base t1 t2 sa q ad0 n0 c0 s0 r) (hk : am_S p l e R s m args below meth c D cA base q ad0 n0 c0 s0 Qt r (pc + len) k) (hJ : ∀ z, am_S p l e R s m args below meth c D cA base q ad0 n0 c0 s0 Qt r z (J z)) (hck : am_ck q hs pc (.if_icmp .le off, len, ops, v) = true) : am_S p l e R s m args below meth c D cA base q ad0 n0 c0 s0 Qt r pc (am_1 cal hs J some (.if_icmp .le off, len, ops, v) k) := by
  obtain ⟨hx, hb, hml, hown, hret, hlk, hnm, hG, hbs, hfr, hlo, htr, had, hrc, hrs⟩ := E
  intro L st M hrun
  obtain ⟨h1, h2⟩ := am_an (show (am_dk q.2.1 pc (.if_icmp .le off) 3 len && decide ((pc : Int) + off = ((ops.headD 0 : Nat) : Int))) = true from hck)
  obtain ⟨hd, rfl⟩ := am_dk_ok h1
  have h2 := of_decide_eq_true h2
  obtain ⟨x, y, w, rfl, h⟩ := iv_I2 (show am_I2 st _ = some r from hrun)
  by_cases hc : x ≤ y
  · obtain ⟨lv, h⟩ := iv_jp (show am_jp J ops L w M = some r from (if_pos hc).symm.trans h)
    obtain ⟨hm, hk⟩ := hJ _ _ _ _ h
    exact ⟨hm, fun H locs ls ad cells slots I => lv_icmp_le hx hb hd h2 (fun _ => hk H locs ls ad cells slots (I.pj lv (am_ws_t (am_ws_t I.ws)))) (fun n => absurd hc n)⟩
  · obtain ⟨hm, hk⟩ := hk _ _ _ (show k L w M = some r from (if_neg hc).symm.trans h)
    exact ⟨hm, fun H locs ls ad cells slots I => lv_icmp_le hx hb hd h2 (fun n => absurd n hc) (fun _ => hk H locs ls ad cells slots (I.stk (am_ws_t (am_ws_t I.ws))))⟩
theorem sd_goto {off : Int} (E : am_E p l R s m meth c D cA base t1 t2 sa q ad0 n0 c0 s0 r) (hJ : ∀ z, am_S p l e R s m args below meth c D cA base q ad0 n0 c0 s0 Qt r z (J z)) (hck : am_ck q hs pc (.goto off, len, ops, v) = true) : am_S p l e R s m args below meth c D cA base q ad0 n0 c0 s0 Qt r pc (am_1 cal hs J some (.goto off, len, ops, v) k) := by
  obtain ⟨hx, hb, hml, hown, hret, hlk, hnm, hG, hbs, hfr, hlo, htr, had, hrc, hrs⟩ := E
  intro L st M hrun
  obtain ⟨h1, h2⟩ := am_an (show (am_dk q.2.1 pc (.goto off) 3 len && decide ((pc : Int) + off = ((ops.headD 0 : Nat) : Int))) = true from hck)
  obtain ⟨hd, rfl⟩ := am_dk_ok h1
  have h2 := of_decide_eq_true h2
  obtain ⟨lv, h⟩ := iv_jp (show am_jp J ops L st M = some r from hrun)
  obtain ⟨hm, hk⟩ := hJ _ _ _ _ h
  exact ⟨hm, fun H locs ls ad cells slots I => lv_goto hx hb hd h2 (hk H locs ls ad cells slots (I.pj lv I.ws))⟩
theorem sd_nop  (E : am_E p l R s m meth c D cA base t1 t2 sa q ad0 n0 c0 s0 r) (hJ : ∀ z, am_S p l e R s m args below meth c D cA base q ad0 n0 c0 s0 Qt r z (J z)) (hck : am_ck q hs pc (.nop, len, ops, v) = true) : am_S p l e R s m args below meth c D cA base q ad0 n0 c0 s0 Qt r pc (am_1 cal hs J some (.nop, len, ops, v) k) := by
  obtain ⟨hx, hb, hml, hown, hret, hlk, hnm, hG, hbs, hfr, hlo, htr, had, hrc, hrs⟩ := E
  intro L st M hrun
  have h2 := Nat.eq_of_beq_eq_true (show Nat.beq (ops.headD 0) pc = true from hck)
  obtain ⟨lv, h⟩ := iv_jp (show am_jp J ops L st M = some r from hrun)
  obtain ⟨hm, hk⟩ := hJ _ _ _ _ h
  rw [h2] at hk
  exact ⟨hm, fun H locs ls ad cells slots I => hk H locs ls ad cells slots (I.pj lv I.ws)⟩
end SIM1
