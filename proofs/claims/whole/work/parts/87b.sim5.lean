/-! CALLS: handlers, static, virtual, constructors -/
section SIM5
variable {p : Program} {l : Launch} {e : Env} {R : Room} {s : State} {m : MethodId} {args : Array Value} {below : List Frame} {meth : Method} {c : Code} {D : va_G} {cA : Nat → ClassId} {base t1 t2 : Nat} {sa : Nat → Nat} {q : aS} {ad0 : Nat → Nat} {n0 c0 s0 : Nat} {Qt : State → Prop} {r : aR}
variable {cal : aY} {hs : List aH} {J : Nat → aL → List Value → aM → Option aR} {k : aL → List Value → aM → Option aR} {pc len : Nat} {ops : List Nat} {v : Value}
theorem am_cxo {x : Nat} (hx5 : x < 5) (hG : ac_G D cA base t1 t2 sa s s.heap) (hx : p.tables.exec = Jvm.exec) (hb : c.code = q.2.1) (hown : s.vm.findClass q.1.cls = some m.cls) (hJ : ∀ z, am_S p l e R s m args below meth c D cA base q ad0 n0 c0 s0 Qt r z (J z)) {L : aL} {M1 : aM} :
    ∀ (xs : List (Nat × Nat × Nat × Nat)) (hl : aH) (pre : List ExceptionTableEntry), c.exceptionTable.toList = pre ++ tableOf xs → (∀ z ∈ pre, covers z pc = false ∨ (z.catchType ≠ 0 ∧ ∃ nm : String, (Cond.classLink q.1.cls z.catchType nm).before args s = true ∧ va_Nc (ac_E x) nm s)) → am_hk q pc xs hl = true → am_cx J hl x L M1 = some r →
    (M1.2.1 ≤ r.2.2.1 ∧ M1.2.2 ≤ r.2.2.2) ∧ ∀ (H1 : Heap) (locs1 : List Loc) (ls : Array Slot) (ad1 : Nat → Nat) (cells1 slots1 qq : Nat) (ce : Cell) (rest : List Value), am_I D cA base q ad0 n0 c0 s0 s L rest M1 H1 locs1 ls ad1 cells1 slots1 → H1[qq]? = some ce → ce.vm = .none → s.vm.findClass (ac_E x) = some ce.cls → vx_W p l e R s m args below meth c H1 locs1 cells1 slots1 Qt (F0 m pc ls (rest.map (ac ad1))) qq := by
  intro xs
  induction xs with
  | nil =>
    intro hl pre _ _ hk hc
    cases hl with
    | nil => exact nomatch hc
    | cons h t => exact nomatch hk
  | cons y ys ih =>
    intro hl pre htab hpass hhk hc
    cases hl with
    | nil => exact nomatch hc
    | cons h t =>
      simp only [am_hk, Bool.and_eq_true, decide_eq_true_eq] at hhk
      obtain ⟨k1, k2, k3, k4, k5, k6, k7, k8, k9⟩ := hhk
      have k1 : y.1 ≤ pc := Nat.le_of_ble_eq_true k1
      have k2 : pc < y.2.1 := Nat.le_of_ble_eq_true k2
      have k3 : h.1 < 5 := Nat.le_of_ble_eq_true k3
      have k7 : 0 < y.2.2.2 := Nat.le_of_ble_eq_true k7
      have hcl : (Cond.classLink q.1.cls y.2.2.2 (ac_E h.1)).before args s = true := am_okw_at (State.WarmedH.refl s) rfl (hG.1 _ k5 rfl)
      have hca : (Cond.castable (ac_E h.1) (ac_E h.1)).before args s = true := am_okw_at (State.WarmedH.refl s) rfl (hG.1 _ k6 rfl)
      have hc : (bif Nat.beq x h.1 then J h.2.1 (am_pj h.2.2 L) [] M1 else am_cx J t x L M1) = some r := hc
      cases hbq : Nat.beq x h.1 with
      | true =>
        rw [hbq] at hc
        have e1 := Nat.eq_of_beq_eq_true hbq
        subst e1
        rw [k4] at hc
        obtain ⟨hm, hk⟩ := hJ _ _ _ _ hc
        refine ⟨hm, fun H1 locs1 ls ad1 cells1 slots1 qq ce rest I hq1 hq2 hq3 => ?_⟩
        refine vx_catch hown pre ⟨y.1, y.2.1, y.2.2.1, y.2.2.2⟩ (tableOf ys) htab hpass (by simp [covers, k1, k2]) (Nat.ne_of_gt k7) hcl hca hq1 hq2 hq3 ?_
        have fin : ∀ ls' : Array Slot, ls'.size = q.2.2.1 → lv_wf ls' → W p l e R s m args below meth c H1 locs1 cells1 slots1 Qt (F0 m h.2.1 ls' []) := fun ls' g1 g2 => hk H1 locs1 ls' ad1 cells1 slots1 (I.lo ⟨g1, g2, fun z hz => nomatch hz⟩ (fun z hz => nomatch hz) (fun z hz => nomatch hz))
        show W p l e R s m args below meth c H1 locs1 cells1 slots1 Qt (F0 m y.2.2.1 ls [.ref qq])
        split at k8
        · rename_i j hd
          obtain ⟨g1, g2⟩ := am_an k8
          have g2 := Nat.eq_of_beq_eq_true g2
          rw [g2] at fin
          exact lv_astore hx hb hd I.lv (Nat.le_of_ble_eq_true g1) rfl (fun ls' hl' => fin ls' hl'.1 hl'.2.1)
        · rename_i j hd
          obtain ⟨g1, g2⟩ := am_an k8
          have g2 := Nat.eq_of_beq_eq_true g2
          rw [g2] at fin
          exact lv_astore_n hx hb hd rfl I.lv (Nat.le_of_ble_eq_true g1) rfl (fun ls' hl' => fin ls' hl'.1 hl'.2.1)
        · exact nomatch k8
      | false =>
        rw [hbq] at hc
        have hne : x ≠ h.1 := fun e0 => by rw [e0, Nat.beq_refl] at hbq; exact nomatch hbq
        refine ih t (pre ++ [⟨y.1, y.2.1, y.2.2.1, y.2.2.2⟩]) (by rw [htab]; simp [tableOf]) (fun z hz => ?_) k9 hc
        rcases List.mem_append.mp hz with h1 | h1
        · exact hpass z h1
        · have h1 := List.mem_singleton.mp h1
          subst h1
          exact Or.inr ⟨Nat.ne_of_gt k7, _, hcl, hG.2.2.2.2.2.2.2.2 x h.1 hx5 k3 hne⟩
theorem am_thro {mc ms : Nat} (E : am_E p l R s m meth c D cA base t1 t2 sa q ad0 n0 c0 s0 r) (hmc : r.2.2.1 = c0 + mc) (hms : r.2.2.2 = s0 + ms) (hT : am_tb q c) (hJ : ∀ z, am_S p l e R s m args below meth c D cA base q ad0 n0 c0 s0 (am_Q D cA base ad0 n0 r below args s mc ms) r z (J z)) {h x : Nat} {L : aL} {M1 : aM} (hcki : am_cki q hs pc h = true) (hx5 : x < 5) (hct : am_ct J some (hs.getD h []) x L M1 = some r) :
    (M1.2.1 ≤ r.2.2.1 ∧ M1.2.2 ≤ r.2.2.2) ∧ ∀ (H1 : Heap) (locs1 : List Loc) (ls : Array Slot) (ad1 : Nat → Nat) (cells1 slots1 qq : Nat) (ce : Cell) (rest : List Value), am_I D cA base q ad0 n0 c0 s0 s L rest M1 H1 locs1 ls ad1 cells1 slots1 → H1[qq]? = some ce → ce.vm = .none → s.vm.findClass (ac_E x) = some ce.cls → vx_W p l e R s m args below meth c H1 locs1 cells1 slots1 (am_Q D cA base ad0 n0 r below args s mc ms) (F0 m pc ls (rest.map (ac ad1))) qq := by
  obtain ⟨hx, hb, hml, hown, hret, hlk, hnm, hG, hbs, hfr, hlo, htr, had, hrc, hrs⟩ := E
  unfold am_cki at hcki
  split at hcki
  · rename_i hh
    have hcki := of_decide_eq_true hcki
    rw [hcki] at hct
    have e1 : r = (.inr x, M1) := (Option.some.inj hct).symm
    subst e1
    refine ⟨⟨Nat.le_refl _, Nat.le_refl _⟩, fun H1 locs1 ls ad1 cells1 slots1 qq ce rest I hq1 hq2 hq3 => ?_⟩
    obtain ⟨i1, i2, i3, i4, i5, i6, i7, i8, i9⟩ := I
    have hmc : M1.2.1 = c0 + mc := hmc
    have hms : M1.2.2 = s0 + ms := hms
    refine vx_out (fun z hz => (hT.1 hh z hz).elim) hlk hq1 hq2 hq3 (fun t ht hal => ⟨⟨x, ad1, rfl, hx5, rfl, i1, i2, ?_⟩, i4.F ht⟩) i4.2.2 (by omega) (by omega)
    rw [ht]
    exact i3.moved hal
  · rename_i y ys hh
    have htab := hT.2 (by rw [hh]; exact List.cons_ne_nil _ _)
    rw [hh] at htab
    have hct2 : am_cx J (hs.getD h []) x L M1 = some r := by
      cases hg : hs.getD h [] with
      | nil => rw [hg] at hcki; exact nomatch hcki
      | cons a b => rw [hg] at hct; exact hct
    exact am_cxo hx5 hG hx hb hown hJ (y :: ys) (hs.getD h []) [] htab (fun z hz => nomatch hz) hcki hct2
theorem vx_toMet {l : Launch} {y : MethodName} {ws : List Cond} {rm : Room} {Pc : Array Value → State → Prop} {Qc : Array Value → State → Outcome → State → Prop} {XC : String → State → State → Prop} {mc ms : Nat} {free : Addr → Prop} (h : vx_Met l y ws rm Pc Qc XC mc ms free) (hn : ∀ E st t, ¬ XC E st t) : Met l y ws rm Pc Qc mc ms free := by
  intro p e h1 h2 h3 s m args below h4 h5 h6 h7
  obtain ⟨n, o, g1, g2, g3, g4⟩ := h p e h1 h2 h3 s m args below h4 h5 h6 h7
  refine ⟨n, o, g1, g2, g3, ?_⟩
  rcases g4 with g4 | ⟨z, -, E, ce, L, hx, -⟩
  · exact g4
  · exact absurd hx (hn _ _ _)
theorem va_toRun {H : Heap} {locs : List Loc} {cells slots mc ms : Nat} {g : JFrame} {rest : List Value} {Qa : State → Outcome → State → Prop} {XC : String → State → State → Prop} {free : Addr → Prop} (h : va_Run p l e R s m args below meth c H locs cells slots mc ms g rest Qa free) : vx_Run p l e R s m args below meth c H locs cells slots mc ms g rest Qa XC free := fun T hT X => Or.inl (h T hT X)
theorem am_goodc (w : aS) : GoodIn [am_cw w] [am_cw w] := fun x hx => by
  have e1 := List.mem_singleton.mp hx
  subst e1
  refine ⟨hx, Or.inl ?_⟩
  unfold am_cw
  split <;> rfl
theorem am_split (ad : Nat → Nat) (st : List Value) (n : Nat) : st.map (ac ad) = ((st.take n).reverse.map (ac ad)).reverse ++ (st.drop n).map (ac ad) := by
  rw [← List.map_reverse, List.reverse_reverse, ← List.map_append, List.take_append_drop]
theorem am_ws_take {n k : Nat} {st : List Value} (h : am_ws n st) : am_ws n (st.take k).reverse := fun z hz => h z (List.mem_of_mem_take (List.mem_reverse.mp hz))
theorem am_ws_drop {n k : Nat} {st : List Value} (h : am_ws n st) : am_ws n (st.drop k) := fun z hz => h z (List.mem_of_mem_drop hz)
theorem am_cxm (hJ : ∀ z, am_S p l e R s m args below meth c D cA base q ad0 n0 c0 s0 Qt r z (J z)) {x : Nat} {L : aL} {M1 : aM} : ∀ (hl : aH), am_cx J hl x L M1 = some r → M1.2.1 ≤ r.2.2.1 ∧ M1.2.2 ≤ r.2.2.2
  | [], h => nomatch h
  | h :: t, hc => by
    have hc : (bif Nat.beq x h.1 then J h.2.1 (am_pj h.2.2 L) [] M1 else am_cx J t x L M1) = some r := hc
    cases hb : Nat.beq x h.1 with
    | true => rw [hb] at hc; exact (hJ _ _ _ _ hc).1
    | false => rw [hb] at hc; exact am_cxm hJ t hc
theorem sd_invstatic {j : Nat} {mc ms : Nat} (E : am_E p l R s m meth c D cA base t1 t2 sa q ad0 n0 c0 s0 r) (hmc : r.2.2.1 = c0 + mc) (hms : r.2.2.2 = s0 + ms) (hT : am_tb q c) (hk : am_S p l e R s m args below meth c D cA base q ad0 n0 c0 s0 (am_Q D cA base ad0 n0 r below args s mc ms) r (pc + len) k) (hJ : ∀ z, am_S p l e R s m args below meth c D cA base q ad0 n0 c0 s0 (am_Q D cA base ad0 n0 r below args s mc ms) r z (J z)) {d : Nat} (hRd : d + 9 ≤ R.frames ∧ 64 * d + 264 ≤ R.locals) (hcal : am_Snd l D cA base t1 t2 sa d cal) (hn1 : ops.headD 0 ≠ 1001) (hn3 : ops.headD 0 ≠ 1003) (hck : am_ck q hs pc (.invokestatic j, len, ops, v) = true) : am_S p l e R s m args below meth c D cA base q ad0 n0 c0 s0 (am_Q D cA base ad0 n0 r below args s mc ms) r pc (am_1 cal hs J some (.invokestatic j, len, ops, v) k) := by
  obtain ⟨hx, hb, hml, hown, hret, hlk, hnm, hG, hbs, hfr, hlo, htr, had, hrc, hrs⟩ := E
  intro L st M hrun
  obtain ⟨h1, h2⟩ := am_an hck
  obtain ⟨hd, rfl⟩ := am_dk_ok h1
  have h3 : ∃ mm n rk h w1 w2 w3 t, ops = mm :: n :: rk :: h :: w1 :: w2 :: w3 :: t ∧ am_ckm [mm] n = true ∧ am_cki q hs pc h = true ∧ am_at (am_sp mm).2.2.2.2.2 (am_cw (am_sp mm)) = true ∧ am_at w1 (.methodLink q.1.cls j (am_sp mm).1) = true ∧ am_at w2 (.static (am_sp mm).1) = true ∧ am_at w3 (.initialized (am_sp mm).1.cls) = true := by
    dsimp only at h2
    split at h2
    · exact absurd rfl hn1
    · exact absurd rfl hn3
    · obtain ⟨g1, g2⟩ := am_an h2
      obtain ⟨g2, g3⟩ := am_an g2
      obtain ⟨g3, g4⟩ := am_an g3
      obtain ⟨g4, g5⟩ := am_an g4
      obtain ⟨g5, g6⟩ := am_an g5
      exact ⟨_, _, _, _, _, _, _, _, rfl, g1, g2, g3, g4, g5, g6⟩
    · exact nomatch h2
  obtain ⟨mm, n, rk, h, w1, w2, w3, t, rfl, a1, a2, a3, a4, a5, a6⟩ := h3
  obtain ⟨b1, b2⟩ := am_an a1
  obtain ⟨b2, b3⟩ := am_an b2
  obtain ⟨b3, b4⟩ := am_an b3
  have b1 : mm < 157 := Nat.le_of_ble_eq_true b1
  have b2 := of_decide_eq_true b2
  have b3 := of_decide_eq_true b3
  have b4 : (am_sp mm).2.2.1 ≤ 40 := Nat.le_of_ble_eq_true b4
  have hrun2 : am_iv cal hs J some (mm :: n :: rk :: h :: w1 :: w2 :: w3 :: t) k L st M = some r := by
    simp only [am_1] at hrun
    split at hrun
    · rename_i hh; cases hh; omega
    · rename_i hh; cases hh; omega
    · exact hrun
  obtain ⟨c1, c2, out, M1, hc, hres⟩ := iv_iv hrun2
  obtain ⟨hmono, hmet⟩ := hcal mm _ M (out, M1) b1 a3 hc
  have hM : M1.2.1 ≤ r.2.2.1 ∧ M1.2.2 ≤ r.2.2.2 := by
    rcases hres with ⟨y, -, hy⟩ | ⟨x, hxx, hy⟩
    · exact (hk _ _ _ hy).1
    · cases hh : hs.getD h [] with
      | nil =>
        rw [hh] at hy
        have e1 : r = (.inr x, M1) := (Option.some.inj hy).symm
        subst e1
        exact ⟨Nat.le_refl _, Nat.le_refl _⟩
      | cons u w =>
        rw [hh] at hy
        exact am_cxm hJ (u :: w) hy
  have hmono1 : M.2.1 ≤ M1.2.1 := hmono.1
  have hmono2 : M.2.2 ≤ M1.2.2 := hmono.2
  refine ⟨⟨Nat.le_trans hmono1 hM.1, Nat.le_trans hmono2 hM.2⟩, fun H locs ls ad cells slots I => ?_⟩
  obtain ⟨mc', emc⟩ : ∃ z, M1.2.1 = M.2.1 + z := ⟨M1.2.1 - M.2.1, by omega⟩
  obtain ⟨ms', ems⟩ : ∃ z, M1.2.2 = M.2.2 + z := ⟨M1.2.2 - M.2.2, by omega⟩
  have i2 := I.2.1
  have i8 : M.2.1 = c0 + cells := I.2.2.2.2.2.2.2.1
  have i9 : M.2.2 = s0 + slots := I.2.2.2.2.2.2.2.2
  have met := hmet ad mc' ms' ((I.1 1 (by omega)).trans had.1) ((I.1 2 (by omega)).trans had.2.1) (by omega) (am_ws_take I.ws) emc ems
  have hlen : ((st.take n).reverse.map (ac ad)).length = n := by simp [c1]
  have hp : PreS s H (ac_Pc D cA base t1 t2 sa ad M (st.take n).reverse) ((st.take n).reverse.map (ac ad)) := ⟨ac_Pc_blind, ac_Pc_at hG I.rl I.sm⟩
  have hWs : 2 * (F0 m pc ls (st.map (ac ad))).monitorRoom + (((st.drop n).map (ac ad)).map fun v => v.category).sum ≤ 8 := by
    rw [am_cs_map, show (F0 m pc ls (st.map (ac ad))).monitorRoom = 0 from rfl]
    omega
  have hf : cells + mc' ≤ R.cells ∧ slots + ms' ≤ R.slots := ⟨by omega, by omega⟩
  have hwords : ∀ w ∈ [am_cw (am_sp mm)], w.before args s = true := fun w hw => by rw [List.mem_singleton.mp hw]; exact hG.word a3 args
  have run : vx_Run p l e R s m args below meth c H locs cells slots mc' ms' (F0 m pc ls (st.map (ac ad))) ((st.drop n).map (ac ad)) (ac_Qc D cA base ad M.1.length (out, M1) ((st.take n).reverse.map (ac ad)).toArray) (ac_XC D cA base ad M.1.length (out, M1)) (ac_A base) := by
    cases hhh : (am_sp mm).2.2.2.2.1 with
    | nil =>
      have ecw : [am_cw (am_sp mm)] = Cond.code (am_sp mm).1 (am_sp mm).2.1 (am_sp mm).2.2.1 (am_sp mm).2.2.2.1 :: [] := by
        unfold am_cw
        rw [hhh]
      exact vx_runS ⟨hx, hb, hml, hown, hwords⟩ met ⟨callB_of n hwords (am_goodc _) ecw rfl rfl (hG.word a6 args) (hG.word a4 args) ⟨b3.1, b3.2, b2⟩ ⟨hRd.1, by have := hRd.2; show 8 + ((am_sp mm).2.2.1 + 11) + (64 * d + 200) ≤ R.locals; omega⟩, hG.word a5 args⟩ hp rfl hlen I.lv.1 (am_split ad st n) hWs hd hf
    | cons y ys =>
      have ecw : [am_cw (am_sp mm)] = Cond.codeWith (am_sp mm).1 (am_sp mm).2.1 (am_sp mm).2.2.1 (am_sp mm).2.2.2.1 (y :: ys) :: [] := by
        unfold am_cw
        rw [hhh]
      have hgood : GoodIn (va_wsS q.1.cls j (am_sp mm).1 [am_cw (am_sp mm)]) (va_wsS q.1.cls j (am_sp mm).1 [am_cw (am_sp mm)]) := fun w hw => by
        refine ⟨hw, Or.inl ?_⟩
        have hw : w ∈ [Cond.methodLink q.1.cls j (am_sp mm).1, Cond.static (am_sp mm).1, Cond.initialized (am_sp mm).1.cls, am_cw (am_sp mm)] := hw
        simp only [List.mem_cons, List.not_mem_nil, or_false] at hw
        rcases hw with rfl | rfl | rfl | rfl
        · rfl
        · rfl
        · rfl
        · unfold am_cw
          split <;> rfl
      have hall : ∀ w ∈ va_wsS q.1.cls j (am_sp mm).1 [am_cw (am_sp mm)], w.before args s = true := fun w hw => by
        have hw : w ∈ [Cond.methodLink q.1.cls j (am_sp mm).1, Cond.static (am_sp mm).1, Cond.initialized (am_sp mm).1.cls, am_cw (am_sp mm)] := hw
        simp only [List.mem_cons, List.not_mem_nil, or_false] at hw
        rcases hw with rfl | rfl | rfl | rfl
        · exact hG.word a4 args
        · exact hG.word a5 args
        · exact hG.word a6 args
        · exact hG.word a3 args
      exact vx_runSX ⟨hx, hb, hml, hown, hall⟩ met (vx_cwSW n hall hgood ecw rfl rfl ⟨b3.1, b3.2, b2⟩ ⟨hRd.1, by have := hRd.2; show 8 + ((am_sp mm).2.2.1 + 11) + (64 * d + 200) ≤ R.locals; omega⟩) hp rfl hlen I.lv.1 (am_split ad st n) hWs hd hf
  refine am_back I rfl (am_ws_drop I.ws) emc ems run (fun y H1 locs1 ad1 hy I1 => ?_) (fun x H1 locs1 ad1 qq ce hxx hx5 I1 hq1 hq2 hq3 => ?_)
  · rcases hres with ⟨y', e1, hy'⟩ | ⟨x', e1, -⟩
    · have : y' = y := by have hy : out = .inl y := hy; rw [e1] at hy; cases hy; rfl
      subst this
      exact (hk _ _ _ hy').2 H1 locs1 ls ad1 _ _ I1
    · have hy : out = .inl y := hy
      rw [e1] at hy
      cases hy
  · rcases hres with ⟨y', e1, -⟩ | ⟨x', e1, hy'⟩
    · have hxx : out = .inr x := hxx
      rw [e1] at hxx
      cases hxx
    · have : x' = x := by have hxx : out = .inr x := hxx; rw [e1] at hxx; cases hxx; rfl
      subst this
      exact (am_thro ⟨hx, hb, hml, hown, hret, hlk, hnm, hG, hbs, hfr, hlo, htr, had, hrc, hrs⟩ hmc hms hT hJ a2 hx5 hy').2 H1 locs1 ls ad1 _ _ qq ce _ I1 hq1 hq2 hq3
end SIM5
