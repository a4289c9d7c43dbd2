/-! CALLS: virtual, constructors, what the library does -/
section SIM6
variable {p : Program} {l : Launch} {e : Env} {R : Room} {s : State} {m : MethodId} {args : Array Value} {below : List Frame} {meth : Method} {c : Code} {D : va_G} {cA : Nat → ClassId} {base t1 t2 : Nat} {sa : Nat → Nat} {q : aS} {ad0 : Nat → Nat} {n0 c0 s0 : Nat} {Qt : State → Prop} {r : aR}
variable {cal : aY} {hs : List aH} {J : Nat → aL → List Value → aM → Option aR} {k : aL → List Value → aM → Option aR} {pc len : Nat} {ops : List Nat} {v : Value}
theorem sd_invvirtual {j : Nat} {mc ms : Nat} (E : am_E p l R s m meth c D cA base t1 t2 sa q ad0 n0 c0 s0 r) (hmc : r.2.2.1 = c0 + mc) (hms : r.2.2.2 = s0 + ms) (hT : am_tb q c) (hk : am_S p l e R s m args below meth c D cA base q ad0 n0 c0 s0 (am_Q D cA base ad0 n0 r below args s mc ms) r (pc + len) k) (hJ : ∀ z, am_S p l e R s m args below meth c D cA base q ad0 n0 c0 s0 (am_Q D cA base ad0 n0 r below args s mc ms) r z (J z)) {d : Nat} (hRd : d + 9 ≤ R.frames ∧ 64 * d + 264 ≤ R.locals) (hcal : am_Snd l D cA base t1 t2 sa d cal) (hck : am_ck q hs pc (.invokevirtual j, len, ops, v) = true) : am_S p l e R s m args below meth c D cA base q ad0 n0 c0 s0 (am_Q D cA base ad0 n0 r below args s mc ms) r pc (am_1 cal hs J some (.invokevirtual j, len, ops, v) k) := by
  obtain ⟨hx, hb, hml, hown, hret, hlk, hnm, hG, hbs, hfr, hlo, htr, had, hrc, hrs⟩ := E
  intro L st M hrun
  obtain ⟨h1, h2⟩ := am_an hck
  obtain ⟨hd, rfl⟩ := am_dk_ok h1
  have h3 : ∃ mm n rk h ci w1 w2 w3 w4 t, ops = mm :: n :: rk :: h :: ci :: w1 :: w2 :: w3 :: w4 :: t ∧ am_ckm [mm] (n - 1) = true ∧ 1 ≤ n ∧ am_cki q hs pc h = true ∧ ci < 10 ∧ (am_sp mm).1.cls = ac_C ci ∧ (am_sp mm).2.2.2.2.1 = [] ∧ am_at (am_sp mm).2.2.2.2.2 (am_cw (am_sp mm)) = true ∧ am_at w1 (.methodLink q.1.cls j (am_sp mm).1) = true ∧ am_at w2 (.instanceMethod (am_sp mm).1) = true ∧ am_at w3 (.selects (am_sp mm).1.cls (am_sp mm).1 (am_sp mm).1) = true ∧ am_at w4 (.initialized (am_sp mm).1.cls) = true := by
    dsimp only at h2
    split at h2
    · obtain ⟨g1, g2⟩ := am_an h2
      obtain ⟨g2, g3⟩ := am_an g2
      obtain ⟨g3, g4⟩ := am_an g3
      obtain ⟨g4, g5⟩ := am_an g4
      obtain ⟨g5, g6⟩ := am_an g5
      obtain ⟨g6, g7⟩ := am_an g6
      obtain ⟨g7, g8⟩ := am_an g7
      obtain ⟨g8, g9⟩ := am_an g8
      obtain ⟨g9, g10⟩ := am_an g9
      obtain ⟨g10, g11⟩ := am_an g10
      exact ⟨_, _, _, _, _, _, _, _, _, _, rfl, g1, Nat.le_of_ble_eq_true g2, g3, Nat.le_of_ble_eq_true g4, of_decide_eq_true g5, of_decide_eq_true g6, g7, g8, g9, g10, g11⟩
    · exact nomatch h2
  obtain ⟨mm, n, rk, h, ci, w1, w2, w3, w4, t, rfl, a1, hn1, a2, hci, hcls, hhh, a3, a4, a5, a7, a6⟩ := h3
  obtain ⟨b1, b2⟩ := am_an a1
  obtain ⟨b2, b3⟩ := am_an b2
  obtain ⟨b3, b4⟩ := am_an b3
  have b1 : mm < 157 := Nat.le_of_ble_eq_true b1
  have b2 := of_decide_eq_true b2
  have b3 := of_decide_eq_true b3
  have b4 : (am_sp mm).2.2.1 ≤ 40 := Nat.le_of_ble_eq_true b4
  have hrun2 : ∃ a tl nn, (st.take n).reverse = .ref a :: tl ∧ am_ln M a ci = some nn ∧ am_iv cal hs J some [mm, n, rk, h] k L st M = some r := by
    simp only [am_1] at hrun
    split at hrun
    · rename_i hh
      obtain ⟨nn, g1, g2⟩ := iv_b hrun
      exact ⟨_, _, nn, hh, g1, g2⟩
    · exact nomatch hrun
  obtain ⟨a, tl, nn, hargs, hrec, hrun2⟩ := hrun2
  obtain ⟨fa, hfa, -⟩ := am_ln_iff.mp hrec
  obtain ⟨c1, c2, out, M1, hc, hres⟩ := iv_iv hrun2
  obtain ⟨hmono, hmet⟩ := hcal mm _ M (out, M1) b1 a3 hc
  have hM : M1.2.1 ≤ r.2.2.1 ∧ M1.2.2 ≤ r.2.2.2 := by
    rcases hres with ⟨y, -, hy⟩ | ⟨x, hxx, hy⟩
    · exact (hk _ _ _ hy).1
    · cases hh : hs.getD h [] with
      | nil =>
        rw [hh] at hy
        have e1 : r = (.inr x, M1) := (Option.some.inj hy).symm
        subst e1
        exact ⟨Nat.le_refl _, Nat.le_refl _⟩
      | cons u w =>
        rw [hh] at hy
        exact am_cxm hJ (u :: w) hy
  have hmono1 : M.2.1 ≤ M1.2.1 := hmono.1
  have hmono2 : M.2.2 ≤ M1.2.2 := hmono.2
  refine ⟨⟨Nat.le_trans hmono1 hM.1, Nat.le_trans hmono2 hM.2⟩, fun H locs ls ad cells slots I => ?_⟩
  obtain ⟨mc', emc⟩ : ∃ z, M1.2.1 = M.2.1 + z := ⟨M1.2.1 - M.2.1, by omega⟩
  obtain ⟨ms', ems⟩ : ∃ z, M1.2.2 = M.2.2 + z := ⟨M1.2.2 - M.2.2, by omega⟩
  have i2 := I.2.1
  have i8 : M.2.1 = c0 + cells := I.2.2.2.2.2.2.2.1
  have i9 : M.2.2 = s0 + slots := I.2.2.2.2.2.2.2.2
  have met := hmet ad mc' ms' ((I.1 1 (by omega)).trans had.1) ((I.1 2 (by omega)).trans had.2.1) (by omega) (am_ws_take I.ws) emc ems
  obtain ⟨-, -, cellB, y1, y2, y3, -⟩ := (I.rl.1 a _ hfa).1 hci
  obtain ⟨-, hfc, -⟩ := hG.2.1 ci hci
  have hlen : (tl.map (ac ad)).length = n - 1 := by
    have e1 : ((st.take n).reverse).length = n := by simp [c1]
    rw [hargs] at e1
    rw [List.length_map]
    simp only [List.length_cons] at e1
    omega
  have hp : PreV s H (am_sp mm).1.cls (ad a) (ac_Pc D cA base t1 t2 sa ad M (st.take n).reverse) (tl.map (ac ad)) := by
    refine ⟨ac_Pc_blind, ⟨cellB, y1, by rw [y3]; rfl, by rw [hcls, y2]; exact hfc⟩, fun U hU hW => ?_⟩
    have := ac_Pc_at (as := (st.take n).reverse) hG I.rl I.sm U hU hW
    rw [hargs] at this ⊢
    exact this
  have hsp : st.map (ac ad) = (tl.map (ac ad)).reverse ++ .ref (ad a) :: (st.drop n).map (ac ad) := by
    have e1 := am_split ad st n
    rw [hargs] at e1
    rw [e1]
    show (Value.ref (ad a) :: tl.map (ac ad)).reverse ++ _ = _
    rw [List.reverse_cons, List.append_assoc]
    rfl
  have hWs : 2 * (F0 m pc ls (st.map (ac ad))).monitorRoom + (((st.drop n).map (ac ad)).map fun v => v.category).sum ≤ 8 := by
    rw [am_cs_map, show (F0 m pc ls (st.map (ac ad))).monitorRoom = 0 from rfl]
    omega
  have hf : cells + mc' ≤ R.cells ∧ slots + ms' ≤ R.slots := ⟨by omega, by omega⟩
  have hwords : ∀ w ∈ [am_cw (am_sp mm)], w.before args s = true := fun w hw => by rw [List.mem_singleton.mp hw]; exact hG.word a3 args
  have run : vx_Run p l e R s m args below meth c H locs cells slots mc' ms' (F0 m pc ls (st.map (ac ad))) ((st.drop n).map (ac ad)) (ac_Qc D cA base ad M.1.length (out, M1) ((st.take n).reverse.map (ac ad)).toArray) (ac_XC D cA base ad M.1.length (out, M1)) (ac_A base) := by
    have ecw : [am_cw (am_sp mm)] = Cond.code (am_sp mm).1 (am_sp mm).2.1 (am_sp mm).2.2.1 (am_sp mm).2.2.2.1 :: [] := by
      unfold am_cw
      rw [hhh]
    have e0 : ((st.take n).reverse.map (ac ad)).toArray = (Value.ref (ad a) :: tl.map (ac ad)).toArray := by rw [hargs]; rfl
    rw [e0]
    exact vx_runV ⟨hx, hb, hml, hown, hwords⟩ met ⟨callB_of (n - 1) hwords (am_goodc _) ecw rfl rfl (hG.word a6 args) (hG.word a4 args) ⟨b3.1, b3.2, b2⟩ ⟨hRd.1, by have := hRd.2; show 8 + ((am_sp mm).2.2.1 + 11) + (64 * d + 200) ≤ R.locals; omega⟩, hG.word a5 args, hG.word a7 args⟩ hp rfl hlen I.lv.1 hsp hWs hd hf
  refine am_back I rfl (am_ws_drop I.ws) emc ems run (fun y H1 locs1 ad1 hy I1 => ?_) (fun x H1 locs1 ad1 qq ce hxx hx5 I1 hq1 hq2 hq3 => ?_)
  · rcases hres with ⟨y', e1, hy'⟩ | ⟨x', e1, -⟩
    · have : y' = y := by have hy : out = .inl y := hy; rw [e1] at hy; cases hy; rfl
      subst this
      exact (hk _ _ _ hy').2 H1 locs1 ls ad1 _ _ I1
    · have hy : out = .inl y := hy
      rw [e1] at hy
      cases hy
  · rcases hres with ⟨y', e1, -⟩ | ⟨x', e1, hy'⟩
    · have hxx : out = .inr x := hxx
      rw [e1] at hxx
      cases hxx
    · have : x' = x := by have hxx : out = .inr x := hxx; rw [e1] at hxx; cases hxx; rfl
      subst this
      exact (am_thro ⟨hx, hb, hml, hown, hret, hlk, hnm, hG, hbs, hfr, hlo, htr, had, hrc, hrs⟩ hmc hms hT hJ a2 hx5 hy').2 H1 locs1 ls ad1 _ _ qq ce _ I1 hq1 hq2 hq3
theorem sd_invspecial {j : Nat} {mc ms : Nat} (E : am_E p l R s m meth c D cA base t1 t2 sa q ad0 n0 c0 s0 r) (hmc : r.2.2.1 = c0 + mc) (hms : r.2.2.2 = s0 + ms) (hT : am_tb q c) (hk : am_S p l e R s m args below meth c D cA base q ad0 n0 c0 s0 (am_Q D cA base ad0 n0 r below args s mc ms) r (pc + len) k) (hJ : ∀ z, am_S p l e R s m args below meth c D cA base q ad0 n0 c0 s0 (am_Q D cA base ad0 n0 r below args s mc ms) r z (J z)) {d : Nat} (hRd : d + 9 ≤ R.frames ∧ 64 * d + 264 ≤ R.locals) (hcal : am_Snd l D cA base t1 t2 sa d cal) (hn1 : ops.headD 0 ≠ 1002) (hck : am_ck q hs pc (.invokespecial j, len, ops, v) = true) : am_S p l e R s m args below meth c D cA base q ad0 n0 c0 s0 (am_Q D cA base ad0 n0 r below args s mc ms) r pc (am_1 cal hs J some (.invokespecial j, len, ops, v) k) := by
  obtain ⟨hx, hb, hml, hown, hret, hlk, hnm, hG, hbs, hfr, hlo, htr, had, hrc, hrs⟩ := E
  intro L st M hrun
  obtain ⟨h1, h2⟩ := am_an hck
  obtain ⟨hd, rfl⟩ := am_dk_ok h1
  have h3 : ∃ mm n z1 z2 w1 w2 w3 t, ops = mm :: n :: z1 :: z2 :: w1 :: w2 :: w3 :: t ∧ am_ckm [mm] (n - 1) = true ∧ 1 ≤ n ∧ (am_sp mm).1.name = "<init>" ∧ (am_sp mm).2.2.2.1 = none ∧ (am_sp mm).2.2.2.2.1 = [] ∧ am_at (am_sp mm).2.2.2.2.2 (am_cw (am_sp mm)) = true ∧ am_at w1 (.methodLink q.1.cls j (am_sp mm).1) = true ∧ am_at w2 (.instanceMethod (am_sp mm).1) = true ∧ am_at w3 (.initialized (am_sp mm).1.cls) = true := by
    dsimp only at h2
    split at h2
    · exact absurd rfl hn1
    · obtain ⟨g1, g2⟩ := am_an h2
      obtain ⟨g2, g3⟩ := am_an g2
      obtain ⟨g3, g4⟩ := am_an g3
      obtain ⟨g4, g5⟩ := am_an g4
      obtain ⟨g5, g6⟩ := am_an g5
      obtain ⟨g6, g7⟩ := am_an g6
      obtain ⟨g7, g8⟩ := am_an g7
      obtain ⟨g8, g9⟩ := am_an g8
      exact ⟨_, _, _, _, _, _, _, _, rfl, g1, Nat.le_of_ble_eq_true g2, of_decide_eq_true g3, of_decide_eq_true g4, of_decide_eq_true g5, g6, g7, g8, g9⟩
    · exact nomatch h2
  obtain ⟨mm, n, z1, z2, w1, w2, w3, t, rfl, a1, hn2, hini, hret2, hhh, a3, a4, a5, a6⟩ := h3
  obtain ⟨b1, b2⟩ := am_an a1
  obtain ⟨b2, b3⟩ := am_an b2
  obtain ⟨b3, b4⟩ := am_an b3
  have b1 : mm < 157 := Nat.le_of_ble_eq_true b1
  have b2 := of_decide_eq_true b2
  have b3 := of_decide_eq_true b3
  have b4 : (am_sp mm).2.2.1 ≤ 40 := Nat.le_of_ble_eq_true b4
  have hrun2 : ∃ a tl, (st.take n).reverse = .ref a :: tl ∧ (n ≤ st.length ∧ am_cs (st.drop n) ≤ 8) ∧ am_cV (cal mm (.ref a :: tl) M) (fun M' => k L (st.drop n) M') (fun _ _ => none) = some r := by
    simp only [am_1] at hrun
    split at hrun
    · rename_i hh; cases hh; omega
    · rename_i hh
      cases hh
      split at hrun
      · rename_i hh
        obtain ⟨g1, g2⟩ := iv_c hrun
        obtain ⟨g1, g3⟩ := am_an g1
        exact ⟨_, _, hh, ⟨Nat.le_of_ble_eq_true g1, Nat.le_of_ble_eq_true g3⟩, g2⟩
      · exact nomatch hrun
    · exact nomatch hrun
  obtain ⟨a, tl, hargs, ⟨c1, c2⟩, hrun2⟩ := hrun2
  obtain ⟨out, M1, hc, ⟨e1, hy'⟩ | ⟨x, -, hy'⟩⟩ := iv_cV hrun2
  case inr => exact nomatch hy'
  subst e1
  rw [← hargs] at hc
  obtain ⟨hmono, hmet⟩ := hcal mm _ M (.inl none, M1) b1 a3 hc
  have hM : M1.2.1 ≤ r.2.2.1 ∧ M1.2.2 ≤ r.2.2.2 := (hk _ _ _ hy').1
  have hmono1 : M.2.1 ≤ M1.2.1 := hmono.1
  have hmono2 : M.2.2 ≤ M1.2.2 := hmono.2
  refine ⟨⟨Nat.le_trans hmono1 hM.1, Nat.le_trans hmono2 hM.2⟩, fun H locs ls ad cells slots I => ?_⟩
  obtain ⟨mc', emc⟩ : ∃ z, M1.2.1 = M.2.1 + z := ⟨M1.2.1 - M.2.1, by omega⟩
  obtain ⟨ms', ems⟩ : ∃ z, M1.2.2 = M.2.2 + z := ⟨M1.2.2 - M.2.2, by omega⟩
  have i2 := I.2.1
  have i8 : M.2.1 = c0 + cells := I.2.2.2.2.2.2.2.1
  have i9 : M.2.2 = s0 + slots := I.2.2.2.2.2.2.2.2
  have met := hmet ad mc' ms' ((I.1 1 (by omega)).trans had.1) ((I.1 2 (by omega)).trans had.2.1) (by omega) (am_ws_take I.ws) emc ems
  have met := vx_toMet met (fun E st' t' hX => by
    obtain ⟨⟨_, _, hX, -⟩, -⟩ := hX
    cases hX)
  have hlen : (tl.map (ac ad)).length = n - 1 := by
    have e1 : ((st.take n).reverse).length = n := by simp [c1]
    rw [hargs] at e1
    rw [List.length_map]
    simp only [List.length_cons] at e1
    omega
  have hp : PreS s H (ac_Pc D cA base t1 t2 sa ad M (st.take n).reverse) (.ref (ad a) :: tl.map (ac ad)) := by
    refine ⟨ac_Pc_blind, fun U hU hW => ?_⟩
    have := ac_Pc_at (as := (st.take n).reverse) hG I.rl I.sm U hU hW
    rw [hargs] at this ⊢
    exact this
  have hsp : st.map (ac ad) = (tl.map (ac ad)).reverse ++ .ref (ad a) :: (st.drop n).map (ac ad) := by
    have e1 := am_split ad st n
    rw [hargs] at e1
    rw [e1]
    show (Value.ref (ad a) :: tl.map (ac ad)).reverse ++ _ = _
    rw [List.reverse_cons, List.append_assoc]
    rfl
  have hWs : 2 * (F0 m pc ls (st.map (ac ad))).monitorRoom + (((st.drop n).map (ac ad)).map fun v => v.category).sum ≤ 8 := by
    rw [am_cs_map, show (F0 m pc ls (st.map (ac ad))).monitorRoom = 0 from rfl]
    omega
  have hf : cells + mc' ≤ R.cells ∧ slots + ms' ≤ R.slots := ⟨by omega, by omega⟩
  have hwords : ∀ w ∈ [am_cw (am_sp mm)], w.before args s = true := fun w hw => by rw [List.mem_singleton.mp hw]; exact hG.word a3 args
  have run : vx_Run p l e R s m args below meth c H locs cells slots mc' ms' (F0 m pc ls (st.map (ac ad))) ((st.drop n).map (ac ad)) (ac_Qc D cA base ad M.1.length (.inl none, M1) ((st.take n).reverse.map (ac ad)).toArray) (ac_XC D cA base ad M.1.length (.inl none, M1)) (ac_A base) := by
    have ecw : [am_cw (am_sp mm)] = Cond.code (am_sp mm).1 (am_sp mm).2.1 (am_sp mm).2.2.1 none :: [] := by
      unfold am_cw
      rw [hhh, hret2]
    have e0 : ((st.take n).reverse.map (ac ad)).toArray = (Value.ref (ad a) :: tl.map (ac ad)).toArray := by rw [hargs]; rfl
    rw [e0]
    exact va_toRun (va_runI ⟨hx, hb, hml, hown, hwords⟩ met ⟨callB_of (n - 1) hwords (am_goodc _) ecw rfl rfl (hG.word a6 args) (hG.word a4 args) ⟨b3.1, b3.2, b2⟩ ⟨hRd.1, by have := hRd.2; show 8 + ((am_sp mm).2.2.1 + 11) + (64 * d + 200) ≤ R.locals; omega⟩, hini, hG.word a5 args⟩ hp rfl hlen I.lv.1 hsp hWs hd hf)
  refine am_back I rfl (am_ws_drop I.ws) emc ems run (fun y H1 locs1 ad1 hy I1 => ?_) (fun x H1 locs1 ad1 qq ce hxx hx5 I1 hq1 hq2 hq3 => ?_)
  · have hy : (Sum.inl none : Option Value ⊕ Nat) = .inl y := hy
    cases hy
    exact (hk _ _ _ hy').2 H1 locs1 ls ad1 _ _ I1
  · have hxx : (Sum.inl none : Option Value ⊕ Nat) = .inr x := hxx
    cases hxx
end SIM6
