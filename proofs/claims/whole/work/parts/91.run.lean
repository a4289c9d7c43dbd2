/-! THE LAW'S RUN: first what SKELETON gives for every law, then the tie -/
def R_law : String := "ActorMachineLaw"
def lw_P (b : Addr) (xs : List Int32) (args : Array Value) (s : State) : Prop := args = #[.ref b] ∧ s.IntsAt b xs ∧ xs.length ≤ 2560 ∧ (Jvm.Cond.and given_1 narrow_1).before args s = true
def lw_Q (_ : Array Value) (s : State) (o : Outcome) (t : State) : Prop := o = .returned (some (.int 1)) ∧ Framed s o t [] 601024 7293034
def lw_Z (below : List Frame) (a : Array Value) (s : State) : State → Prop := fun t => ∃ o, t.status = .running ∧ Ended t below o ∧ lw_Q a s o t
/-- the law's own end, with 1 on the stack, nothing written that was there before, its room as the claim has it -/
theorem lw_ret {p : Program} {l : Launch} {e : Env} {s : State} {m : MethodId} {below : List Frame} {meth : Method} {c : Code} {b : Nat} (hx : p.tables.exec = Jvm.exec) (hb : c.code = code) (hr : meth.sig.returnType = ret) (hlocks : meth.locks = false) {pc : Nat} {H : Heap} {ls : Array Slot} (hdg : decode code pc = .ok (.ireturn, 1)) : W p l e room_1 s m #[Value.ref b] below meth c H [] 601024 7293034 (lw_Z below #[Value.ref b] s) (F0 m pc ls [.int 1]) := by
  intro T hT X
  obtain ⟨fs, hret, hrun, hended, hW, hframe⟩ := X.leave (v := some (.int 1)) (hlocks := hlocks) (fun h => by rw [hr] at h; cases h)
  have hmeth' : T.vm.method? m = some meth := X.method'
  refine ⟨T.setFrames fs, ?_, .returned (some (.int 1)), hrun, hended, rfl, ⟨_, rfl⟩, hW, hframe⟩
  jvm_step X.here [X.here.top, hx, hb, hdg, hmeth', hr, ret, narrow_b1]
  (try refine ⟨rfl, ?_⟩); (try refine ⟨rfl, ?_⟩)
  first | (intro acts; rw [hret _ acts rfl rfl rfl]) | rw [hret _ _ rfl rfl rfl]
  exact Steps.refl _
/-- what holds at the law's entry: the machine, the code, the tables' words (any of lw_tbl by 'hts w (by decide +kernel)'), the script of L ints xs at the cell b, what the Statement gives of the start (any of its parts by flat_of_before) -/
def lw_At (p : Program) (s : State) (m : MethodId) (meth : Method) (c : Code) (b L : Nat) (xs : Nat → Int32) : Prop :=
  p.tables.exec = Jvm.exec ∧ c.code = code ∧ meth.sig.returnType = ret ∧ c.maxLocals = 7 ∧ s.vm.findClass R_law = some m.cls ∧ (∀ w ∈ lw_tbl, w.before #[Value.ref b] s = true) ∧ va_X b L xs s s.heap ∧ b < s.heap.size ∧ meth.locks = false ∧ (Jvm.Cond.and given_1 narrow_1).before #[Value.ref b] s = true
section RU
variable {p : Program} {l : Launch} {e : Env} {s : State} {m : MethodId} {below : List Frame} {meth : Method} {c : Code}
theorem ru_cg {ty : FieldType} {t N : Nat} {f f' : Nat → Value} {A : Nat → Prop} {U : State} {H : Heap} (hf : ∀ j, j < N → f j = f' j) (h : va_T ty t N f A U H) : va_T ty t N f' A U H := by
  obtain ⟨cell, h1, h2, h3, h4, h5, h6, h7⟩ := h
  exact ⟨cell, h1, h2, h3, h4, h5, fun j hj => by rw [← hf j hj]; exact h6 j hj, h7⟩
theorem ru_nl {s t : State} {L : List Loc} {k n k' n' : Nat} (hL : ∀ q ∈ L, ac_A s.heap.size q.base) (hk : k ≤ k') (hn : n ≤ n') (h : s.sameButNew t L k n) : s.sameButNew t [] k' n' := by
  obtain ⟨h1, h2, h3, h4, h5, h6⟩ := h
  refine ⟨h1, h2, by omega, h4, by omega, fun a c hc => ?_⟩
  obtain ⟨c', e1, e2, e3, e4⟩ := h6 a c hc
  refine ⟨c', e1, e2, e3, fun i _ => e4 i fun hm => ?_⟩
  have h8 : s.heap.size ≤ a := hL _ hm
  have h9 : a < s.heap.size := (Array.getElem?_eq_some_iff.mp hc).1
  exact absurd h9 (Nat.not_lt.mpr h8)
def ruA (b t1 t2 : Nat) : Nat → Nat
  | 0 => b
  | 1 => t1
  | _ => t2
theorem ru_R {D : va_G} {cA : Nat → ClassId} {b L t1 t2 : Nat} {xs : Nat → Int32} (hL : L < 2 ^ 31) (hX : va_X b L xs s s.heap) (hb : b < s.heap.size) (T1 : va_T .int t1 5 (fun j => .int (m_tens.getD j 0)) (ac_A s.heap.size) s s.heap) (T2 : va_T .int t2 5 (fun j => .int (m_deep.getD j 0)) (ac_A s.heap.size) s s.heap) :
    ac_R D cA s.heap.size (ruA b t1 t2) (qM ((List.range L).map xs) []) s s.heap := by
  have hw : ∀ (ys : List Int32), ∀ v ∈ ys.map Value.int, ac_wf 3 v := fun ys v hv => by
    obtain ⟨x, -, rfl⟩ := List.mem_map.mp hv
    exact ac_wf_int
  have hg : ∀ (ys : List Int32) j, j < ys.length → ac (ruA b t1 t2) ((ys.map Value.int).getD j .null) = .int (ys.getD j 0) := fun ys j hj => by
    rw [List.getD_eq_getElem?_getD, List.getElem?_map, List.getElem?_eq_getElem hj, List.getD_eq_getElem?_getD, List.getElem?_eq_getElem hj]; rfl
  have h3 : ∀ (k : Nat) (c : aC), (qM ((List.range L).map xs) []).1[k]? = some c → (k = 0 ∧ c = (10, ((List.range L).map xs).map Value.int)) ∨ (k = 1 ∧ c = (10, m_tens.map Value.int)) ∨ (k = 2 ∧ c = (10, m_deep.map Value.int)) := by
    intro k c h
    match k, h with
    | 0, h => exact .inl ⟨rfl, (Option.some.inj h).symm⟩
    | 1, h => exact .inr (.inl ⟨rfl, (Option.some.inj h).symm⟩)
    | 2, h => exact .inr (.inr ⟨rfl, (Option.some.inj h).symm⟩)
    | k + 3, h => exact absurd (show ([] : List aC)[k]? = some c from h) (by simp)
  refine ⟨fun k c hc => ?_, fun i j hi hj h => absurd (show j < 3 from hj) (Nat.not_lt.mpr h), fun k h1 h2 => absurd (show k < 3 from h2) (Nat.not_lt.mpr h1), fun k c hc => ?_, Nat.le_refl _⟩
  · rcases h3 k c hc with ⟨rfl, rfl⟩ | ⟨rfl, rfl⟩ | ⟨rfl, rfl⟩
    · refine ⟨fun h => absurd (show 10 < 10 from h) (by decide), fun _ => ⟨show 10 < 17 by decide, by simp; omega, fun h => absurd h (by decide), fun _ => ?_⟩⟩
      obtain ⟨scr, e1, e2, e3, e4, e5⟩ := hX
      have el : (((List.range L).map xs).map Value.int).length = L := by simp
      show va_T .int b (((List.range L).map xs).map Value.int).length _ _ s s.heap
      rw [el]
      refine ru_cg (f := fun j => .int (xs j)) (fun j hj => ?_) ⟨scr, e1, e2, e3, by omega, by rw [e4], e5, fun h => absurd hb (Nat.not_lt.mpr h)⟩
      rw [hg _ j (by simp; omega)]
      simp [List.getD_eq_getElem?_getD, hj]
    · refine ⟨fun h => absurd h (by decide), fun _ => ⟨by decide, by decide, fun h => absurd h (by decide), fun _ => ?_⟩⟩
      exact ru_cg (fun j hj => (hg m_tens j hj).symm) T1
    · refine ⟨fun h => absurd h (by decide), fun _ => ⟨by decide, by decide, fun h => absurd h (by decide), fun _ => ?_⟩⟩
      exact ru_cg (fun j hj => (hg m_deep j hj).symm) T2
  · rcases h3 k c hc with ⟨rfl, rfl⟩ | ⟨rfl, rfl⟩ | ⟨rfl, rfl⟩
    · exact hw _
    · exact hw _
    · exact hw _
theorem ru_start (ckall : ∀ mi, mi < 157 → mi ≠ 155 → am_ckk (am_sp mi) (am_K mi) = true) (cklaw : (am_K 155).1.all (fun b => am_ckb (am_sp 155) (am_K 155).2.1 b.1 b.2) = true) (htr : l.stackTraces = false) {b L : Nat} {xs : Nat → Int32} (hL : L ≤ 2560) (C0 : lw_At p s m meth c b L xs) (hnm : meth.name = "law") (hex : ∀ x ∈ c.exceptionTable.toList, False) : W p l e room_1 s m #[Value.ref b] below meth c s.heap [] 0 0 (lw_Z below #[Value.ref b] s) (entryFrame m ([Value.ref b] : List Value).toArray 7) := by
  obtain ⟨hx, hcode, hret, hml, hown, hts, hX, hbl, hlk, hgv⟩ := C0
  obtain ⟨D, cA, t1, t2, sa, hG, T1, T2⟩ := ti_G hts hgv
  have hR := ru_R (D := D) (cA := cA) (show L < 2 ^ 31 by omega) hX hbl T1 T2
  have el : ((List.range L).map xs).length = L := by simp
  obtain ⟨M', hrun, hc1, hc2⟩ := law_all (xs := (List.range L).map xs) (d := 24) (by decide) (by rw [el]; omega)
  rw [el] at hc1 hc2
  obtain ⟨-, hrun⟩ := iv_c (show (bif Nat.ble (am_cs [.ref 0]) (am_ML.getD 155 0) then am_X (am_Y 23) (am_K 155) 0 (am_pj (am_K 155).2.2 (am_ar 0 [.ref 0])) [] (qM ((List.range L).map xs) []) else none) = some (.inl (some (.int 1)), M') from hrun)
  obtain ⟨n, hn⟩ := am_X_iff.mp hrun
  have E : am_E p l room_1 s m meth c D cA s.heap.size t1 t2 sa (am_sp 155) (ruA b t1 t2) 3 0 0 (.inl (some (.int 1)), M') :=
    ⟨hx, hcode, hml, hown, hret, hlk, hnm, hG, Nat.le_refl _, by decide, by decide, htr, ⟨rfl, rfl, Nat.le_refl _⟩, by show M'.2.1 ≤ 0 + 601024; omega, by show M'.2.2 ≤ 0 + 7293034; omega⟩
  have hT : am_tb (am_sp 155) c := ⟨fun _ => hex, fun h => absurd rfl h⟩
  have hall := sd_Y (l := l) htr (D := D) (cA := cA) (base := s.heap.size) (t1 := t1) (t2 := t2) (sa := sa) ckall 23
  have key := (sd_ex (e := e) (args := #[Value.ref b]) (below := below) (mc := M'.2.1) (ms := M'.2.2) E (by simp) (by simp) hT ⟨by decide, by decide⟩ hall cklaw n 0 _ _ _ hn).2
  rw [lg_entry_eq]
  have hl := lv_entry [Value.ref b] (n := 7) (show 1 ≤ 7 by decide)
  have hl2 : lv_has ((lg_sl [Value.ref b] ++ List.replicate (7 - (lg_sl [Value.ref b]).length) Slot.unset).toArray) 7 (am_lc (ruA b t1 t2) (am_ar 0 [.ref 0])) := hl
  have K := key s.heap [] _ (ruA b t1 t2) 0 0 ⟨fun _ _ => rfl, Nat.le_refl _, hR, va_S.rf, am_lc_pj hl2 _, am_wl_pj (am_ar_wf [.ref 0] 0 (am_ws_c (ac_wf_ref (show 0 < 3 by decide)) (fun _ h => nomatch h))) _, (fun _ h => nomatch h), rfl, rfl⟩
  intro T hT X
  obtain ⟨t, a1, o, b1, b2, b3⟩ := K T hT X
  rcases b3 with ⟨⟨⟨v, ad, r1, r2, -⟩, -⟩, L9, hF, hfree⟩ | ⟨q, -, E9, ce, L9, ⟨⟨e9, ad, r1, -⟩, -⟩, -⟩
  · have hv : some (Value.int 1) = v := Sum.inl.inj r1
    subst hv
    refine ⟨t, a1, o, b1, b2, r2, hF.1, hF.2.1, ru_nl hfree ?_ ?_ hF.2.2⟩
    · omega
    · omega
  · exact nomatch r1
end RU
