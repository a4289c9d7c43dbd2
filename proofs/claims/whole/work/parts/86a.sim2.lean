/-! ONE INSTRUCTION: fields and arrays -/
theorem ac_layw : ∀ ci, ci < 10 → ∀ k, k < ac_N ci → (decide (u_lay (ac_C ci) (ac_T ci) k ∈ lw_tbl) && am_okw (u_lay (ac_C ci) (ac_T ci) k)) = true := by decide +kernel
section
variable {D : va_G} {cA : Nat → ClassId} {base t1 t2 : Nat} {sa : Nat → Nat} {s : State} {H : Heap} {ad : Nat → Nat}
theorem ac_layb (hG : ac_G D cA base t1 t2 sa s H) {ci k : Nat} (hci : ci < 10) (hk : k < ac_N ci) (args : Array Value) : (u_lay (ac_C ci) (ac_T ci) k).before args s = true := by
  have h := ac_layw ci hci k hk
  simp only [Bool.and_eq_true, decide_eq_true_eq] at h
  exact am_okw_at (State.WarmedH.refl s) h.2 (hG.1 _ h.1 h.2)
theorem ac_lay (hG : ac_G D cA base t1 t2 sa s H) {ci k : Nat} (hci : ci < 10) (hk : k < ac_N ci) (args : Array Value) : (Cond.lays (ac_C ci) (ac_T ci k).1 (ac_T ci k).2.1 (ac_T ci k).2.2.1).before args s = true ∨ (Cond.laysFinal (ac_C ci) (ac_T ci k).1 (ac_T ci k).2.1 (ac_T ci k).2.2.1).before args s = true := by
  have h := ac_layb hG hci hk args
  unfold u_lay at h
  split at h
  · exact Or.inr h
  · exact Or.inl h
theorem ac_apart (hG : ac_G D cA base t1 t2 sa s H) {ci : Nat} (hci : ci < 10) (args : Array Value) : ∀ x y, x < ac_N ci → y < ac_N ci → x ≠ y → (D.2 ci) x ≠ (D.2 ci) y := by
  intro x y hx hy hne
  obtain ⟨hS, -⟩ := hG.2.1 ci hci
  obtain ⟨_, _, _, fa, hia, ea⟩ := hS x hx
  obtain ⟨_, _, _, fb, hib, eb⟩ := hS y hy
  rw [← ea, ← eb]
  refine u_apart (ac_lay hG hci hx args) (ac_lay hG hci hy args) hia hib ?_
  rw [(State.fieldFound?_type hia (ac_tok ci hci x hx)).1, (State.fieldFound?_type hib (ac_tok ci hci y hy)).1]
  exact ac_nm ci hci x hx y hy hne
theorem am_upd {fs : List Value} {j : Nat} (hj : j < fs.length) (v : Value) : updV (fun i => ac ad (fs.getD i .null)) j (ac ad v) = fun i => ac ad ((fs.set j v).getD i .null) := by
  funext i
  unfold updV
  by_cases e : i = j
  · subst e
    rw [if_pos rfl]
    simp [hj]
  · rw [if_neg e]
    have e' : ¬ j = i := fun h => e h.symm
    simp [List.getElem?_set, e']
theorem am_ft_ok {t : FieldType} {v : Value} (h : am_ft (ac_fc t) v = true) : narrow t (ac ad v) = ac ad v ∧ fits t (ac ad v) = true := by
  cases v with
  | int x =>
    cases t with
    | int => exact ⟨rfl, rfl⟩
    | boolean =>
      have h : (x == 0 || x == 1) = true := h
      simp only [Bool.or_eq_true, beq_iff_eq] at h
      rcases h with rfl | rfl
      · exact ⟨rfl, rfl⟩
      · exact ⟨rfl, rfl⟩
    | char =>
      have h : (decide (0 ≤ x) && decide (x ≤ 65535)) = true := h
      refine ⟨?_, h⟩
      simp only [Bool.and_eq_true, decide_eq_true_eq] at h
      have h1 := Int32.le_iff_toInt_le.mp h.1
      have h2 := Int32.le_iff_toInt_le.mp h.2
      exact congrArg Value.int (lg_i2c_small (by simpa using h1) (by have : (65535 : Int32).toInt = 65535 := by decide
                                                                     omega))
    | _ => exact nomatch h
  | long x => cases t <;> first | exact ⟨rfl, rfl⟩ | exact nomatch h
  | ref a => cases t <;> first | exact ⟨rfl, rfl⟩ | exact nomatch h
  | _ => exact nomatch h
theorem am_wset {n : Nat} {fs : List Value} {v : Value} {j : Nat} (h : ∀ u ∈ fs, ac_wf n u) (hv : ac_wf n v) : ∀ u ∈ fs.set j v, ac_wf n u := fun u hu => by
  rcases List.mem_or_eq_of_mem_set hu with h1 | h1
  · exact h u h1
  · rw [h1]; exact hv
/-- a place of an array is written -/
theorem ac_ok_sta {U : State} {H' : Heap} {a kd j : Nat} {fs : List Value} {v : Value} (hj : j < fs.length) (hro : am_ro ≤ a) (h0 : ac_ok D cA base ad U H a (kd, fs)) (hc : 10 ≤ kd) (h1 : ∀ cell, H[ad a]? = some cell → H'[ad a]? = some (cell.setSlot j (ac ad v))) : ac_ok D cA base ad U H' a (kd, fs.set j v) := by
  obtain ⟨h17, hl, h2, -⟩ := h0.2 hc
  refine ⟨fun h => absurd h (Nat.not_lt.mpr hc), fun _ => ⟨h17, by rw [List.length_set]; exact hl, fun _ => ?_, fun h => absurd h (Nat.not_lt.mpr hro)⟩⟩
  rw [h1 _ (h2 hro), arrV_store]
  show some (arrV (cA kd) fs.length (updV (fun i => ac ad (fs.getD i .null)) j (ac ad v))) = some (arrV (cA kd) (fs.set j v).length (fun i => ac ad ((fs.set j v).getD i .null)))
  rw [am_upd hj, List.length_set]
end
section
variable {D : va_G} {cA : Nat → ClassId} {base : Nat} {q : aS} {ad0 : Nat → Nat} {n0 c0 s0 : Nat} {s : State} {L : aL} {st : List Value} {M : aM} {H : Heap} {locs : List Loc} {ls : Array Slot} {ad : Nat → Nat} {cells slots : Nat}
theorem am_I.put {st' : List Value} {a : Nat} {x : aC} {H' : Heap} {locs' : List Loc} (I : am_I D cA base q ad0 n0 c0 s0 s L st M H locs ls ad cells slots) (hr : ac_R D cA base ad (M.1.set a x, M.2) s H') (hs : va_S (ac_A base) s.heap H' locs') (hw : am_ws M.1.length st') : am_I D cA base q ad0 n0 c0 s0 s L st' (M.1.set a x, M.2) H' locs' ls ad cells slots := by
  have e : (M.1.set a x).length = M.1.length := List.length_set
  refine ⟨I.1, ?_, hr, hs, I.lv, ?_, ?_, I.2.2.2.2.2.2.2⟩
  · show n0 ≤ (M.1.set a x).length
    rw [e]; exact I.2.1
  · show am_wl (M.1.set a x).length L
    rw [e]; exact I.wl
  · show am_ws (M.1.set a x).length st'
    rw [e]; exact hw
end
section SIM2
variable {p : Program} {l : Launch} {e : Env} {R : Room} {s : State} {m : MethodId} {args : Array Value} {below : List Frame} {meth : Method} {c : Code} {D : va_G} {cA : Nat → ClassId} {base t1 t2 : Nat} {sa : Nat → Nat} {q : aS} {ad0 : Nat → Nat} {n0 c0 s0 : Nat} {Qt : State → Prop} {r : aR}
variable {cal : aY} {hs : List aH} {J : Nat → aL → List Value → aM → Option aR} {k : aL → List Value → aM → Option aR} {pc len : Nat} {ops : List Nat} {v : Value}
theorem sd_getfield {j : Nat} (E : am_E p l R s m meth c D cA base t1 t2 sa q ad0 n0 c0 s0 r) (hk : am_S p l e R s m args below meth c D cA base q ad0 n0 c0 s0 Qt r (pc + len) k) (hck : am_ck q hs pc (.getfield j, len, ops, v) = true) : am_S p l e R s m args below meth c D cA base q ad0 n0 c0 s0 Qt r pc (am_1 cal hs J some (.getfield j, len, ops, v) k) := by
  obtain ⟨hx, hb, hml, hown, hret, hlk, hnm, hG, hbs, hfr, hlo, htr, had, hrc, hrs⟩ := E
  intro L st M hrun
  obtain ⟨h1, h2⟩ := am_an hck
  obtain ⟨hd, rfl⟩ := am_dk_ok h1
  have h3 : ∃ ci f ty w t, ops = ci :: f :: ty :: w :: t ∧ ci < 10 ∧ f < ac_N ci ∧ am_at w (.fieldLink q.1.cls j (ac_T ci f).1 (ac_T ci f).2.1 (ac_T ci f).2.2.1) = true := by
    dsimp only at h2
    split at h2
    · obtain ⟨g1, g2⟩ := am_an h2
      obtain ⟨g2, g3⟩ := am_an g2
      exact ⟨_, _, _, _, _, rfl, Nat.le_of_ble_eq_true g1, Nat.le_of_ble_eq_true g2, g3⟩
    · exact nomatch h2
  obtain ⟨ci, f, ty, w, t, rfl, hci, hf, hw⟩ := h3
  obtain ⟨a, st', rfl, h⟩ := iv_A1 (show am_A1 st _ = some r from hrun)
  have h4 : ∃ v0, am_rd M a ci f = some v0 ∧ k L (v0 :: st') M = some r := by
    dsimp only at h
    split at h
    · obtain ⟨x, hx1, h⟩ := iv_b h
      exact ⟨_, iv_rJ hx1, h⟩
    · obtain ⟨x, hx1, h⟩ := iv_b h
      exact ⟨_, iv_rA hx1, h⟩
    · obtain ⟨x, hx1, h⟩ := iv_b h
      exact ⟨_, iv_rI hx1, h⟩
  obtain ⟨v0, h5, h⟩ := h4
  obtain ⟨hm, hk⟩ := hk _ _ _ h
  refine ⟨hm, fun H locs ls ad cells slots I => ?_⟩
  obtain ⟨cell, g1, g2, g3, g4, g5, g6, g7⟩ := ac_rdo I.rl h5 hci
  obtain ⟨hS, hfc, kC, hkC, hkind⟩ := hG.2.1 ci hci
  obtain ⟨cf, kf, fi, fd, hi, hsl⟩ := hS f hf
  exact W.getf hx hb hown (hG.word hw args) hi (u_facts hfc hkC (ac_lay hG hci hf args) hi).1 g1 (by rw [g3]; exact fun h => by cases h) (by rw [hsl]; exact g5) rfl rfl hd (hk H locs ls ad cells slots (I.stk (am_ws_c g6 (am_ws_t I.ws))))
theorem sd_putfield {j : Nat} (E : am_E p l R s m meth c D cA base t1 t2 sa q ad0 n0 c0 s0 r) (hk : am_S p l e R s m args below meth c D cA base q ad0 n0 c0 s0 Qt r (pc + len) k) (hck : am_ck q hs pc (.putfield j, len, ops, v) = true) : am_S p l e R s m args below meth c D cA base q ad0 n0 c0 s0 Qt r pc (am_1 cal hs J some (.putfield j, len, ops, v) k) := by
  obtain ⟨hx, hb, hml, hown, hret, hlk, hnm, hG, hbs, hfr, hlo, htr, had, hrc, hrs⟩ := E
  intro L st M hrun
  obtain ⟨h1, h2⟩ := am_an hck
  obtain ⟨hd, rfl⟩ := am_dk_ok h1
  have h3 : ∃ ci f ty w t, ops = ci :: f :: ty :: w :: t ∧ ci < 10 ∧ f < ac_N ci ∧ am_at w (.fieldLink q.1.cls j (ac_T ci f).1 (ac_T ci f).2.1 (ac_T ci f).2.2.1) = true ∧ ty = ac_fc (ac_F ci f) ∧ ((ac_T ci f).2.2.2 = false ∨ ((ac_T ci f).2.2.2 = true ∧ q.1.name = "<init>" ∧ (ac_T ci f).1 = q.1.cls)) := by
    dsimp only at h2
    split at h2
    · obtain ⟨g1, g2⟩ := am_an h2
      obtain ⟨g2, g3⟩ := am_an g2
      obtain ⟨g3, g4⟩ := am_an g3
      obtain ⟨g4, g5⟩ := am_an g4
      exact ⟨_, _, _, _, _, rfl, Nat.le_of_ble_eq_true g1, Nat.le_of_ble_eq_true g2, g3, Nat.eq_of_beq_eq_true g4, of_decide_eq_true g5⟩
    · exact nomatch h2
  obtain ⟨ci, f, ty, w, t, rfl, hci, hf, hw, rfl, hfin⟩ := h3
  have h4 : ∃ v0 a st', st = v0 :: .ref a :: st' ∧ am_ft (ac_fc (ac_F ci f)) v0 = true ∧ ∃ M', am_wr M a ci f v0 = some M' ∧ k L st' M' = some r := by
    simp only [am_1] at hrun
    split at hrun
    · obtain ⟨g1, g2⟩ := iv_c hrun
      obtain ⟨M', g2, g3⟩ := iv_b g2
      exact ⟨_, _, _, rfl, g1, M', g2, g3⟩
    · exact nomatch hrun
  obtain ⟨v0, a, st', rfl, hft, M', hwr, h⟩ := h4
  obtain ⟨fs, ha, hro, hlt, rfl⟩ := am_wr_iff.mp hwr
  obtain ⟨hm, hk⟩ := hk _ _ _ h
  refine ⟨hm, fun H locs ls ad cells slots I => ?_⟩
  obtain ⟨hl, -, cell, g1, g2, g3, g4⟩ := (I.rl.1 a _ ha).1 hci
  obtain ⟨hS, hfc, kC, hkC, hkind⟩ := hG.2.1 ci hci
  obtain ⟨cf, kf, fi, fd, hi, hsl⟩ := hS f hf
  obtain ⟨hn, hfit⟩ := am_ft_ok (ad := ad) hft
  have hlayb := ac_layb hG hci hf args
  have hst := (u_facts hfc hkC (ac_lay hG hci hf args) hi).1
  have hal : a < M.1.length := (List.getElem?_eq_some_iff.mp ha).1
  have hwv : ac_wf M.1.length v0 := am_ws_h I.ws
  have fin : ∀ H' : Heap, H'[ad a]? = some (cell.setSlot fd.slot (ac ad v0)) → H'.size = H.size → (∀ q, q ≠ ad a → H'[q]? = H[q]?) → W p l e R s m args below meth c H' (locs ++ [⟨ad a, fd.slot⟩]) cells slots Qt (F0 m (pc + 3) ls (st'.map (ac ad))) := by
    intro H' e1 e2 e3
    refine hk H' _ ls ad cells slots (I.put (I.rl.set hro ha (am_wset (I.rl.2.2.2.1 a _ ha) hwv) e2 e3 ⟨fun _ => ⟨by rw [List.length_set]; exact hl, hro, ?_⟩, fun h => absurd hci (Nat.not_lt.mpr h)⟩) (I.sm.put e2 e3 (I.rl.2.2.1 a hro hal)) (am_ws_t (am_ws_t I.ws)))
    rw [hsl] at e1
    refine ⟨_, e1, g2, g3, fun i hi2 => ?_⟩
    rw [t_set g4 (ac_apart hG hci args) hf (ac ad v0) i hi2]
    exact congrArg some (congrFun (am_upd hlt v0) i)
  rcases hfin with hfin | ⟨hfin, hin, hdecl⟩
  · unfold u_lay at hlayb
    rw [if_neg (by rw [hfin]; decide)] at hlayb
    exact W.putK hx hb (f := fd) ⟨hown, hG.word hw args, ⟨_, _, _, hi⟩, hst⟩ (by rw [g2]; exact u_store hfc hkC hkind hlayb hi (ac_tok ci hci f hf) hn hfit) g1 g3 (by rw [hsl]; exact k2_hasslot (g4 f hf)) rfl rfl hd fin
  · unfold u_lay at hlayb
    rw [if_pos hfin] at hlayb
    have hcf : m.cls = cf := by
      obtain ⟨_, _, c', _, _, _, -, -, hf', -, -, -, hown2, -⟩ := Cond.laysFinal_spec hlayb
      have e1 : c' = cf := by have := hi.symm.trans hf'; simp at this; exact this.1.symm
      rw [hdecl] at hown2
      rw [← e1]; exact Option.some.inj (hown.symm.trans hown2)
    exact W.putFinK hx hb hown (hG.word hw args) hi hst hcf (hnm.trans hin) (by rw [g2]; exact u_fits hfc hkC hkind (Or.inr hlayb) hi (ac_tok ci hci f hf) hn hfit) g1 g3 (by rw [hsl]; exact k2_hasslot (g4 f hf)) rfl rfl hd fin
theorem sd_iaload  (E : am_E p l R s m meth c D cA base t1 t2 sa q ad0 n0 c0 s0 r) (hk : am_S p l e R s m args below meth c D cA base q ad0 n0 c0 s0 Qt r (pc + len) k) (hck : am_ck q hs pc (.iaload, len, ops, v) = true) : am_S p l e R s m args below meth c D cA base q ad0 n0 c0 s0 Qt r pc (am_1 cal hs J some (.iaload, len, ops, v) k) := by
  obtain ⟨hx, hb, hml, hown, hret, hlk, hnm, hG, hbs, hfr, hlo, htr, had, hrc, hrs⟩ := E
  intro L st M hrun
  obtain ⟨hd, rfl⟩ := am_dk_ok (show am_dk q.2.1 pc (.iaload) 1 len = true from hck)
  obtain ⟨x, w, rfl, h⟩ := iv_I1 (show am_I1 st _ = some r from hrun)
  obtain ⟨a, w, rfl, h⟩ := iv_A1 h
  obtain ⟨j, h1, h⟩ := iv_b h
  obtain ⟨hn, rfl⟩ := iv_ix h1
  obtain ⟨y, h2, h⟩ := iv_b h
  obtain ⟨hm, hk⟩ := hk _ _ _ h
  refine ⟨hm, fun H locs ls ad cells slots I => ?_⟩
  obtain ⟨cell, g1, g2, g3, g4, g5, g6⟩ := ac_rda I.rl hG.2.2.1 (iv_rI h2) (by decide)
  exact W.iald hx hb g1 g2 g3 (fun z => z.elim hn (fun z => absurd g4 (Nat.not_lt.mpr z))) g5 rfl rfl hd (hk H locs ls ad cells slots (I.stk (am_ws_c g6 (am_ws_t (am_ws_t I.ws)))))
theorem sd_laload  (E : am_E p l R s m meth c D cA base t1 t2 sa q ad0 n0 c0 s0 r) (hk : am_S p l e R s m args below meth c D cA base q ad0 n0 c0 s0 Qt r (pc + len) k) (hck : am_ck q hs pc (.laload, len, ops, v) = true) : am_S p l e R s m args below meth c D cA base q ad0 n0 c0 s0 Qt r pc (am_1 cal hs J some (.laload, len, ops, v) k) := by
  obtain ⟨hx, hb, hml, hown, hret, hlk, hnm, hG, hbs, hfr, hlo, htr, had, hrc, hrs⟩ := E
  intro L st M hrun
  obtain ⟨hd, rfl⟩ := am_dk_ok (show am_dk q.2.1 pc (.laload) 1 len = true from hck)
  obtain ⟨x, w, rfl, h⟩ := iv_I1 (show am_I1 st _ = some r from hrun)
  obtain ⟨a, w, rfl, h⟩ := iv_A1 h
  obtain ⟨j, h1, h⟩ := iv_b h
  obtain ⟨hn, rfl⟩ := iv_ix h1
  obtain ⟨y, h2, h⟩ := iv_b h
  obtain ⟨hm, hk⟩ := hk _ _ _ h
  refine ⟨hm, fun H locs ls ad cells slots I => ?_⟩
  obtain ⟨cell, g1, g2, g3, g4, g5, g6⟩ := ac_rda I.rl hG.2.2.1 (iv_rJ h2) (by decide)
  exact W.lald hx hb g1 g2 g3 (fun z => z.elim hn (fun z => absurd g4 (Nat.not_lt.mpr z))) g5 rfl rfl hd (hk H locs ls ad cells slots (I.stk (am_ws_c g6 (am_ws_t (am_ws_t I.ws)))))
theorem sd_baload  (E : am_E p l R s m meth c D cA base t1 t2 sa q ad0 n0 c0 s0 r) (hk : am_S p l e R s m args below meth c D cA base q ad0 n0 c0 s0 Qt r (pc + len) k) (hck : am_ck q hs pc (.baload, len, ops, v) = true) : am_S p l e R s m args below meth c D cA base q ad0 n0 c0 s0 Qt r pc (am_1 cal hs J some (.baload, len, ops, v) k) := by
  obtain ⟨hx, hb, hml, hown, hret, hlk, hnm, hG, hbs, hfr, hlo, htr, had, hrc, hrs⟩ := E
  intro L st M hrun
  obtain ⟨hd, rfl⟩ := am_dk_ok (show am_dk q.2.1 pc (.baload) 1 len = true from hck)
  obtain ⟨x, w, rfl, h⟩ := iv_I1 (show am_I1 st _ = some r from hrun)
  obtain ⟨a, w, rfl, h⟩ := iv_A1 h
  obtain ⟨j, h1, h⟩ := iv_b h
  obtain ⟨hn, rfl⟩ := iv_ix h1
  obtain ⟨y, h2, h⟩ := iv_b h
  obtain ⟨hm, hk⟩ := hk _ _ _ h
  refine ⟨hm, fun H locs ls ad cells slots I => ?_⟩
  obtain ⟨cell, g1, g2, g3, g4, g5, g6⟩ := ac_rda I.rl hG.2.2.1 (iv_rI h2) (by decide)
  exact W.zald hx hb g1 g2 g3 (fun z => z.elim hn (fun z => absurd g4 (Nat.not_lt.mpr z))) g5 rfl rfl hd (hk H locs ls ad cells slots (I.stk (am_ws_c g6 (am_ws_t (am_ws_t I.ws)))))
theorem sd_caload  (E : am_E p l R s m meth c D cA base t1 t2 sa q ad0 n0 c0 s0 r) (hk : am_S p l e R s m args below meth c D cA base q ad0 n0 c0 s0 Qt r (pc + len) k) (hck : am_ck q hs pc (.caload, len, ops, v) = true) : am_S p l e R s m args below meth c D cA base q ad0 n0 c0 s0 Qt r pc (am_1 cal hs J some (.caload, len, ops, v) k) := by
  obtain ⟨hx, hb, hml, hown, hret, hlk, hnm, hG, hbs, hfr, hlo, htr, had, hrc, hrs⟩ := E
  intro L st M hrun
  obtain ⟨hd, rfl⟩ := am_dk_ok (show am_dk q.2.1 pc (.caload) 1 len = true from hck)
  obtain ⟨x, w, rfl, h⟩ := iv_I1 (show am_I1 st _ = some r from hrun)
  obtain ⟨a, w, rfl, h⟩ := iv_A1 h
  obtain ⟨j, h1, h⟩ := iv_b h
  obtain ⟨hn, rfl⟩ := iv_ix h1
  obtain ⟨y, h2, h⟩ := iv_b h
  obtain ⟨hm, hk⟩ := hk _ _ _ h
  refine ⟨hm, fun H locs ls ad cells slots I => ?_⟩
  obtain ⟨cell, g1, g2, g3, g4, g5, g6⟩ := ac_rda I.rl hG.2.2.1 (iv_rI h2) (by decide)
  exact W.cald hx hb g1 g2 g3 (fun z => z.elim hn (fun z => absurd g4 (Nat.not_lt.mpr z))) g5 rfl rfl hd (hk H locs ls ad cells slots (I.stk (am_ws_c g6 (am_ws_t (am_ws_t I.ws)))))
theorem sd_aaload  (E : am_E p l R s m meth c D cA base t1 t2 sa q ad0 n0 c0 s0 r) (hk : am_S p l e R s m args below meth c D cA base q ad0 n0 c0 s0 Qt r (pc + len) k) (hck : am_ck q hs pc (.aaload, len, ops, v) = true) : am_S p l e R s m args below meth c D cA base q ad0 n0 c0 s0 Qt r pc (am_1 cal hs J some (.aaload, len, ops, v) k) := by
  obtain ⟨hx, hb, hml, hown, hret, hlk, hnm, hG, hbs, hfr, hlo, htr, had, hrc, hrs⟩ := E
  intro L st M hrun
  obtain ⟨h1, h2⟩ := am_an (show (am_dk q.2.1 pc .aaload 1 len && (Nat.ble 14 (ops.headD 0) && Nat.blt (ops.headD 0) 17)) = true from hck)
  obtain ⟨hd, rfl⟩ := am_dk_ok h1
  obtain ⟨h2, h3⟩ := am_an h2
  have h2 : 14 ≤ ops.headD 0 := Nat.le_of_ble_eq_true h2
  have h3 : ops.headD 0 < 17 := Nat.le_of_ble_eq_true h3
  obtain ⟨x, w, rfl, h⟩ := iv_I1 (show am_I1 st _ = some r from hrun)
  obtain ⟨a, w, rfl, h⟩ := iv_A1 h
  obtain ⟨j, h4, h⟩ := iv_b h
  obtain ⟨hn, rfl⟩ := iv_ix h4
  obtain ⟨y, h5, h⟩ := iv_b h
  obtain ⟨hm, hk⟩ := hk _ _ _ h
  refine ⟨hm, fun H locs ls ad cells slots I => ?_⟩
  obtain ⟨cell, g1, g2, g3, g4, g5, g6⟩ := ac_rda I.rl hG.2.2.1 (iv_rA h5) (show 10 ≤ ops.headD 0 by omega)
  have hr : (ac_ty (ops.headD 0)).isReference = true := by
    have : ops.headD 0 = 14 ∨ ops.headD 0 = 15 ∨ ops.headD 0 = 16 := by omega
    rcases this with h | h | h <;> rw [h] <;> rfl
  exact W.aald hx hb g1 g2 hr g3 (fun z => z.elim hn (fun z => absurd g4 (Nat.not_lt.mpr z))) g5 rfl rfl hd (hk H locs ls ad cells slots (I.stk (am_ws_c g6 (am_ws_t (am_ws_t I.ws)))))
theorem sd_iastore  (E : am_E p l R s m meth c D cA base t1 t2 sa q ad0 n0 c0 s0 r) (hk : am_S p l e R s m args below meth c D cA base q ad0 n0 c0 s0 Qt r (pc + len) k) (hck : am_ck q hs pc (.iastore, len, ops, v) = true) : am_S p l e R s m args below meth c D cA base q ad0 n0 c0 s0 Qt r pc (am_1 cal hs J some (.iastore, len, ops, v) k) := by
  obtain ⟨hx, hb, hml, hown, hret, hlk, hnm, hG, hbs, hfr, hlo, htr, had, hrc, hrs⟩ := E
  intro L st M hrun
  obtain ⟨hd, rfl⟩ := am_dk_ok (show am_dk q.2.1 pc (.iastore) 1 len = true from hck)
  obtain ⟨y, w, rfl, h⟩ := iv_I1 (show am_I1 st _ = some r from hrun)
  obtain ⟨x, w, rfl, h⟩ := iv_I1 h
  obtain ⟨a, w, rfl, h⟩ := iv_A1 h
  obtain ⟨j, h1, h⟩ := iv_b h
  obtain ⟨M', hwr, h⟩ := iv_b h
  obtain ⟨hn, rfl⟩ := iv_ix h1
  obtain ⟨fs, ha, hro, hlt, rfl⟩ := am_wr_iff.mp hwr
  obtain ⟨hm, hk⟩ := hk _ _ _ h
  refine ⟨hm, fun H locs ls ad cells slots I => ?_⟩
  obtain ⟨cell, g1, g2, g3, g4, -, -⟩ := ac_arr I.rl hG.2.2.1 ha (by decide)
  have hal : a < M.1.length := (List.getElem?_eq_some_iff.mp ha).1
  exact W.iast hx hb g1 g2 g3 (fun z => z.elim hn (fun z => absurd (Nat.lt_of_lt_of_le hlt g4) (Nat.not_lt.mpr z))) rfl rfl hd (fun H' e1 e2 e3 => hk H' _ ls ad cells slots
    (I.put (I.rl.set hro ha (am_wset (I.rl.2.2.2.1 a _ ha) ac_wf_int) e2 e3 (ac_ok_sta (v := .int y) hlt hro (I.rl.1 a _ ha) (by decide) (fun cell' hc => by rw [g1] at hc; cases hc; exact e1))) (I.sm.put e2 e3 (I.rl.2.2.1 a hro hal)) (am_ws_t (am_ws_t (am_ws_t I.ws)))))
theorem sd_lastore  (E : am_E p l R s m meth c D cA base t1 t2 sa q ad0 n0 c0 s0 r) (hk : am_S p l e R s m args below meth c D cA base q ad0 n0 c0 s0 Qt r (pc + len) k) (hck : am_ck q hs pc (.lastore, len, ops, v) = true) : am_S p l e R s m args below meth c D cA base q ad0 n0 c0 s0 Qt r pc (am_1 cal hs J some (.lastore, len, ops, v) k) := by
  obtain ⟨hx, hb, hml, hown, hret, hlk, hnm, hG, hbs, hfr, hlo, htr, had, hrc, hrs⟩ := E
  intro L st M hrun
  obtain ⟨hd, rfl⟩ := am_dk_ok (show am_dk q.2.1 pc (.lastore) 1 len = true from hck)
  obtain ⟨y, w, rfl, h⟩ := iv_J1 (show am_J1 st _ = some r from hrun)
  obtain ⟨x, w, rfl, h⟩ := iv_I1 h
  obtain ⟨a, w, rfl, h⟩ := iv_A1 h
  obtain ⟨j, h1, h⟩ := iv_b h
  obtain ⟨M', hwr, h⟩ := iv_b h
  obtain ⟨hn, rfl⟩ := iv_ix h1
  obtain ⟨fs, ha, hro, hlt, rfl⟩ := am_wr_iff.mp hwr
  obtain ⟨hm, hk⟩ := hk _ _ _ h
  refine ⟨hm, fun H locs ls ad cells slots I => ?_⟩
  obtain ⟨cell, g1, g2, g3, g4, -, -⟩ := ac_arr I.rl hG.2.2.1 ha (by decide)
  have hal : a < M.1.length := (List.getElem?_eq_some_iff.mp ha).1
  exact W.last hx hb g1 g2 g3 (fun z => z.elim hn (fun z => absurd (Nat.lt_of_lt_of_le hlt g4) (Nat.not_lt.mpr z))) rfl rfl hd (fun H' e1 e2 e3 => hk H' _ ls ad cells slots
    (I.put (I.rl.set hro ha (am_wset (I.rl.2.2.2.1 a _ ha) ac_wf_long) e2 e3 (ac_ok_sta (v := .long y) hlt hro (I.rl.1 a _ ha) (by decide) (fun cell' hc => by rw [g1] at hc; cases hc; exact e1))) (I.sm.put e2 e3 (I.rl.2.2.1 a hro hal)) (am_ws_t (am_ws_t (am_ws_t I.ws)))))
theorem sd_bastore  (E : am_E p l R s m meth c D cA base t1 t2 sa q ad0 n0 c0 s0 r) (hk : am_S p l e R s m args below meth c D cA base q ad0 n0 c0 s0 Qt r (pc + len) k) (hck : am_ck q hs pc (.bastore, len, ops, v) = true) : am_S p l e R s m args below meth c D cA base q ad0 n0 c0 s0 Qt r pc (am_1 cal hs J some (.bastore, len, ops, v) k) := by
  obtain ⟨hx, hb, hml, hown, hret, hlk, hnm, hG, hbs, hfr, hlo, htr, had, hrc, hrs⟩ := E
  intro L st M hrun
  obtain ⟨hd, rfl⟩ := am_dk_ok (show am_dk q.2.1 pc (.bastore) 1 len = true from hck)
  obtain ⟨y, w, rfl, h⟩ := iv_I1 (show am_I1 st _ = some r from hrun)
  obtain ⟨x, w, rfl, h⟩ := iv_I1 h
  obtain ⟨a, w, rfl, h⟩ := iv_A1 h
  obtain ⟨j, h1, h⟩ := iv_b h
  obtain ⟨M', hwr, h⟩ := iv_b h
  obtain ⟨hn, rfl⟩ := iv_ix h1
  obtain ⟨fs, ha, hro, hlt, rfl⟩ := am_wr_iff.mp hwr
  obtain ⟨hm, hk⟩ := hk _ _ _ h
  refine ⟨hm, fun H locs ls ad cells slots I => ?_⟩
  obtain ⟨cell, g1, g2, g3, g4, -, -⟩ := ac_arr I.rl hG.2.2.1 ha (by decide)
  have hal : a < M.1.length := (List.getElem?_eq_some_iff.mp ha).1
  exact W.zast hx hb g1 g2 g3 (fun z => z.elim hn (fun z => absurd (Nat.lt_of_lt_of_le hlt g4) (Nat.not_lt.mpr z))) rfl rfl hd (fun H' e1 e2 e3 => hk H' _ ls ad cells slots
    (I.put (I.rl.set hro ha (am_wset (I.rl.2.2.2.1 a _ ha) ac_wf_int) e2 e3 (ac_ok_sta (v := .int (y &&& 1)) hlt hro (I.rl.1 a _ ha) (by decide) (fun cell' hc => by rw [g1] at hc; cases hc; exact e1))) (I.sm.put e2 e3 (I.rl.2.2.1 a hro hal)) (am_ws_t (am_ws_t (am_ws_t I.ws)))))
theorem sd_castore  (E : am_E p l R s m meth c D cA base t1 t2 sa q ad0 n0 c0 s0 r) (hk : am_S p l e R s m args below meth c D cA base q ad0 n0 c0 s0 Qt r (pc + len) k) (hck : am_ck q hs pc (.castore, len, ops, v) = true) : am_S p l e R s m args below meth c D cA base q ad0 n0 c0 s0 Qt r pc (am_1 cal hs J some (.castore, len, ops, v) k) := by
  obtain ⟨hx, hb, hml, hown, hret, hlk, hnm, hG, hbs, hfr, hlo, htr, had, hrc, hrs⟩ := E
  intro L st M hrun
  obtain ⟨hd, rfl⟩ := am_dk_ok (show am_dk q.2.1 pc (.castore) 1 len = true from hck)
  obtain ⟨y, w, rfl, h⟩ := iv_I1 (show am_I1 st _ = some r from hrun)
  obtain ⟨x, w, rfl, h⟩ := iv_I1 h
  obtain ⟨a, w, rfl, h⟩ := iv_A1 h
  obtain ⟨j, h1, h⟩ := iv_b h
  obtain ⟨M', hwr, h⟩ := iv_b h
  obtain ⟨hn, rfl⟩ := iv_ix h1
  obtain ⟨fs, ha, hro, hlt, rfl⟩ := am_wr_iff.mp hwr
  obtain ⟨hm, hk⟩ := hk _ _ _ h
  refine ⟨hm, fun H locs ls ad cells slots I => ?_⟩
  obtain ⟨cell, g1, g2, g3, g4, -, -⟩ := ac_arr I.rl hG.2.2.1 ha (by decide)
  have hal : a < M.1.length := (List.getElem?_eq_some_iff.mp ha).1
  exact W.cast hx hb g1 g2 g3 (fun z => z.elim hn (fun z => absurd (Nat.lt_of_lt_of_le hlt g4) (Nat.not_lt.mpr z))) rfl rfl hd (fun H' e1 e2 e3 => hk H' _ ls ad cells slots
    (I.put (I.rl.set hro ha (am_wset (I.rl.2.2.2.1 a _ ha) ac_wf_int) e2 e3 (ac_ok_sta (v := .int (vp_nar .char y)) hlt hro (I.rl.1 a _ ha) (by decide) (fun cell' hc => by rw [g1] at hc; cases hc; exact e1))) (I.sm.put e2 e3 (I.rl.2.2.1 a hro hal)) (am_ws_t (am_ws_t (am_ws_t I.ws)))))
theorem sd_aastore  (E : am_E p l R s m meth c D cA base t1 t2 sa q ad0 n0 c0 s0 r) (hk : am_S p l e R s m args below meth c D cA base q ad0 n0 c0 s0 Qt r (pc + len) k) (hck : am_ck q hs pc (.aastore, len, ops, v) = true) : am_S p l e R s m args below meth c D cA base q ad0 n0 c0 s0 Qt r pc (am_1 cal hs J some (.aastore, len, ops, v) k) := by
  obtain ⟨hx, hb, hml, hown, hret, hlk, hnm, hG, hbs, hfr, hlo, htr, had, hrc, hrs⟩ := E
  intro L st M hrun
  obtain ⟨h1, h2⟩ := am_an (show (am_dk q.2.1 pc .aastore 1 len && (Nat.ble 14 (ops.headD 0) && (Nat.blt (ops.headD 0) 17 && (Nat.blt (ops.getD 1 0) 10 && decide (ac_ty (ops.headD 0) = .object (ac_C (ops.getD 1 0))))))) = true from hck)
  obtain ⟨hd, rfl⟩ := am_dk_ok h1
  obtain ⟨h2, h3⟩ := am_an h2
  obtain ⟨h3, h4⟩ := am_an h3
  obtain ⟨h4, h5⟩ := am_an h4
  have h2 : 14 ≤ ops.headD 0 := Nat.le_of_ble_eq_true h2
  have h3 : ops.headD 0 < 17 := Nat.le_of_ble_eq_true h3
  have h4 : ops.getD 1 0 < 10 := Nat.le_of_ble_eq_true h4
  have h5 := of_decide_eq_true h5
  obtain ⟨y, w, rfl, h⟩ := iv_A1 (show am_A1 st _ = some r from hrun)
  obtain ⟨x, w, rfl, h⟩ := iv_I1 h
  obtain ⟨a, w, rfl, h⟩ := iv_A1 h
  obtain ⟨n9, h9, h⟩ := iv_b h
  obtain ⟨j, h6, h⟩ := iv_b h
  obtain ⟨M', hwr, h⟩ := iv_b h
  obtain ⟨hn, rfl⟩ := iv_ix h6
  obtain ⟨fs, ha, hro, hlt, rfl⟩ := am_wr_iff.mp hwr
  obtain ⟨fy, hy, -⟩ := am_ln_iff.mp h9
  obtain ⟨hm, hk⟩ := hk _ _ _ h
  refine ⟨hm, fun H locs ls ad cells slots I => ?_⟩
  have hal : a < M.1.length := (List.getElem?_eq_some_iff.mp ha).1
  obtain ⟨-, -, cellY, y1, y2, y3, -⟩ := (I.rl.1 y _ hy).1 h4
  obtain ⟨-, hl, hA, -⟩ := (I.rl.1 a _ ha).2 (by show 10 ≤ ops.headD 0; omega)
  have hA := hA hro
  obtain ⟨-, hRA⟩ := hG.2.2.1 (ops.headD 0) (by omega) h3
  rw [h5] at hRA
  obtain ⟨kA, comp, a1, a2, a3, a4⟩ := hRA
  obtain ⟨-, hfc, kC, hkC, hkind⟩ := hG.2.1 _ h4
  have e9 : comp = D.1 (ops.getD 1 0) := Option.some.inj (a3.symm.trans hfc)
  subst e9
  have hin : x.toNatClampNeg < (arrV (cA (ops.headD 0)) fs.length (fun i => ac ad (fs.getD i .null))).slots.size := by rw [arrV_size]; exact hlt
  exact W.aast hx hb hA (fun _ h => by cases h) (fun h => by cases h) a1 a2 rfl hkC ⟨hn, hin⟩ y1 (fun _ h => by rw [y3] at h; cases h) (by rw [y2]; exact hkC) (by rw [y2]; exact va_asg _ _) rfl rfl hd (fun H' e1 e2 e3 => hk H' _ ls ad cells slots
    (I.put (I.rl.set hro ha (am_wset (I.rl.2.2.2.1 a _ ha) (am_ws_h I.ws)) e2 e3 (ac_ok_sta (v := .ref y) hlt hro (I.rl.1 a _ ha) (by show 10 ≤ ops.headD 0; omega) (fun cell' hc => by rw [hA] at hc; cases hc; exact e1))) (I.sm.put e2 e3 (I.rl.2.2.1 a hro hal)) (am_ws_t (am_ws_t (am_ws_t I.ws)))))
theorem sd_arraylength  (E : am_E p l R s m meth c D cA base t1 t2 sa q ad0 n0 c0 s0 r) (hk : am_S p l e R s m args below meth c D cA base q ad0 n0 c0 s0 Qt r (pc + len) k) (hck : am_ck q hs pc (.arraylength, len, ops, v) = true) : am_S p l e R s m args below meth c D cA base q ad0 n0 c0 s0 Qt r pc (am_1 cal hs J some (.arraylength, len, ops, v) k) := by
  obtain ⟨hx, hb, hml, hown, hret, hlk, hnm, hG, hbs, hfr, hlo, htr, had, hrc, hrs⟩ := E
  intro L st M hrun
  obtain ⟨h1, h2⟩ := am_an (show (am_dk q.2.1 pc .arraylength 1 len && (Nat.ble 10 (ops.headD 0) && Nat.blt (ops.headD 0) 17)) = true from hck)
  obtain ⟨hd, rfl⟩ := am_dk_ok h1
  obtain ⟨h2, h3⟩ := am_an h2
  have h2 : 10 ≤ ops.headD 0 := Nat.le_of_ble_eq_true h2
  obtain ⟨a, w, rfl, h⟩ := iv_A1 (show am_A1 st _ = some r from hrun)
  obtain ⟨n9, h9, h⟩ := iv_b h
  obtain ⟨fs, ha, rfl⟩ := am_ln_iff.mp h9
  obtain ⟨hm, hk⟩ := hk _ _ _ h
  refine ⟨hm, fun H locs ls ad cells slots I => ?_⟩
  obtain ⟨cell, g1, g2, g3, g4, g5, -⟩ := ac_arr I.rl hG.2.2.1 ha h2
  exact W.alen hx hb g1 g2 g5 rfl rfl hd (hk H locs ls ad cells slots (I.stk (am_ws_c ac_wf_int (am_ws_t I.ws))))
theorem sd_getstatic {j : Nat} (E : am_E p l R s m meth c D cA base t1 t2 sa q ad0 n0 c0 s0 r) (hk : am_S p l e R s m args below meth c D cA base q ad0 n0 c0 s0 Qt r (pc + len) k) (hck : am_ck q hs pc (.getstatic j, len, ops, v) = true) : am_S p l e R s m args below meth c D cA base q ad0 n0 c0 s0 Qt r pc (am_1 cal hs J some (.getstatic j, len, ops, v) k) := by
  obtain ⟨hx, hb, hml, hown, hret, hlk, hnm, hG, hbs, hfr, hlo, htr, had, hrc, hrs⟩ := E
  intro L st M hrun
  obtain ⟨h1, h2⟩ := am_an hck
  obtain ⟨hd, rfl⟩ := am_dk_ok h1
  obtain ⟨hm, hk⟩ := hk _ _ _ (show k L (.ref (ops.headD 0) :: st) M = some r from hrun)
  refine ⟨hm, fun H locs ls ad cells slots I => ?_⟩
  have hS : va_S (ac_A base) s.heap H locs := I.sm
  dsimp only at h2
  split at h2
  · rename_i a w t
    have hn0 := I.2.1
    simp only [Bool.or_eq_true, Bool.and_eq_true] at h2
    rcases h2 with ⟨g1, g2⟩ | ⟨g1, g2⟩
    · have e1 := Nat.eq_of_beq_eq_true g1
      subst e1
      have e2 : ad 1 = t1 := (I.1 1 (by omega)).trans had.1
      refine va_gets hx hb hG.2.2.2.1 hS hown (hG.word g2 args) (fun _ h => h) hd ?_
      have hk2 := hk H locs ls ad cells slots (I.stk (am_ws_c (ac_wf_ref (by show 1 < _; omega)) I.ws))
      rw [← e2]
      exact hk2
    · have e1 := Nat.eq_of_beq_eq_true g1
      subst e1
      have e2 : ad 2 = t2 := (I.1 2 (by omega)).trans had.2.1
      refine va_gets hx hb hG.2.2.2.2.1 hS hown (hG.word g2 args) (fun _ h => h) hd ?_
      have hk2 := hk H locs ls ad cells slots (I.stk (am_ws_c (ac_wf_ref (by show 2 < _; omega)) I.ws))
      rw [← e2]
      exact hk2
  · exact nomatch h2
theorem sd_ineg  (E : am_E p l R s m meth c D cA base t1 t2 sa q ad0 n0 c0 s0 r) (hk : am_S p l e R s m args below meth c D cA base q ad0 n0 c0 s0 Qt r (pc + len) k) (hck : am_ck q hs pc (.ineg, len, ops, v) = true) : am_S p l e R s m args below meth c D cA base q ad0 n0 c0 s0 Qt r pc (am_1 cal hs J some (.ineg, len, ops, v) k) := by
  obtain ⟨hx, hb, hml, hown, hret, hlk, hnm, hG, hbs, hfr, hlo, htr, had, hrc, hrs⟩ := E
  intro L st M hrun
  obtain ⟨hd, rfl⟩ := am_dk_ok (show am_dk q.2.1 pc (.ineg) 1 len = true from hck)
  obtain ⟨x, w, rfl, h⟩ := iv_I1 (show am_I1 st _ = some r from hrun)
  obtain ⟨hm, hk⟩ := hk _ _ _ h
  refine ⟨hm, fun H locs ls ad cells slots I => lv_ineg hx hb hd ?_⟩
  have hk2 := hk H locs ls ad cells slots (I.stk (am_ws_c ac_wf_int (am_ws_t I.ws)))
  rw [Int32.zero_sub] at hk2
  exact hk2
end SIM2
