/-! CALLS AND THROWS -/
def am_tb (q : aS) (c : Code) : Prop := (q.2.2.2.2.1 = [] → ∀ x ∈ c.exceptionTable.toList, False) ∧ (q.2.2.2.2.1 ≠ [] → c.exceptionTable.toList = tableOf q.2.2.2.2.1)
def ac_Pc (D : va_G) (cA : Nat → ClassId) (base t1 t2 : Nat) (sa : Nat → Nat) (ad : Nat → Nat) (M : aM) (as : List Value) : Array Value → State → Prop := fun v U => v = (as.map (ac ad)).toArray ∧ ac_G D cA base t1 t2 sa U U.heap ∧ ac_R D cA base ad M U U.heap
def am_rm (d mc ms : Nat) : Room := { frames := d + 8, cells := mc, slots := ms, locals := 64 * d + 200 }
def am_Snd (l : Launch) (D : va_G) (cA : Nat → ClassId) (base t1 t2 : Nat) (sa : Nat → Nat) (d : Nat) (cal : aY) : Prop := ∀ (mi : Nat) (as : List Value) (M : aM) (r : aR), mi < 157 → am_at (am_sp mi).2.2.2.2.2 (am_cw (am_sp mi)) = true → cal mi as M = some r →
  (M.2.1 ≤ r.2.2.1 ∧ M.2.2 ≤ r.2.2.2) ∧ ∀ (ad : Nat → Nat) (mc ms : Nat), ad 1 = t1 → ad 2 = t2 → 3 ≤ M.1.length → am_ws M.1.length as → r.2.2.1 = M.2.1 + mc → r.2.2.2 = M.2.2 + ms →
    vx_Met l (am_sp mi).1 [am_cw (am_sp mi)] (am_rm d mc ms) (ac_Pc D cA base t1 t2 sa ad M as) (ac_Qc D cA base ad M.1.length r) (ac_XC D cA base ad M.1.length r) mc ms (ac_A base)
theorem ac_Pc_blind {D : va_G} {cA : Nat → ClassId} {base t1 t2 : Nat} {sa : Nat → Nat} {ad : Nat → Nat} {M : aM} {as : List Value} : FrameBlind (ac_Pc D cA base t1 t2 sa ad M as) := fun a U g mk h =>
  ⟨h.1, ac_G.go (s := U) (U := U.calling g mk a) (State.WarmedH.refl U) (fun _ _ _ => rfl) h.2.1, ac_R.moved (u := U) (U := U.calling g mk a) (Vm.Alike.refl U.vm) h.2.2⟩
theorem ac_Pc_at {D : va_G} {cA : Nat → ClassId} {base t1 t2 : Nat} {sa : Nat → Nat} {ad : Nat → Nat} {M : aM} {as : List Value} {s : State} {H : Heap} {locs : List Loc} (hG : ac_G D cA base t1 t2 sa s s.heap) (hR : ac_R D cA base ad M s H) (hS : va_S (ac_A base) s.heap H locs) : ∀ U : State, U.heap = H → s.WarmedH U.vm → ac_Pc D cA base t1 t2 sa ad M as ((as.map (ac ad)).toArray) U := fun U hU hW =>
  ⟨rfl, by rw [hU]; exact hG.go hW hS.2.1, by rw [hU]; exact hR.moved hW.alike⟩
theorem am_cs0 {st : List Value} (h : am_cs st = 0) : st = [] := by
  cases st with
  | nil => rfl
  | cons v r =>
    have h : v.category + am_cs r = 0 := by simpa [am_cs] using h
    have h1 : 1 ≤ v.category := by cases v <;> simp [Value.category]
    omega
theorem am_cs_map (ad : Nat → Nat) (st : List Value) : ((st.map (ac ad)).map fun v => v.category).sum = am_cs st := by
  unfold am_cs
  rw [List.map_map]
  congr 1
  apply List.map_congr_left
  intro v _
  exact ac_cat ad v
theorem iv_cI {o : Option aR} {k : Int32 → aM → Option aR} {x : Nat → aM → Option aR} {z : aR} (h : am_cI o k x = some z) : ∃ out M1, o = some (out, M1) ∧ ((∃ v, out = .inl (some (.int v)) ∧ k v M1 = some z) ∨ ∃ e, out = .inr e ∧ x e M1 = some z) := by
  unfold am_cI at h
  split at h
  · exact ⟨_, _, rfl, Or.inl ⟨_, rfl, h⟩⟩
  · exact ⟨_, _, rfl, Or.inr ⟨_, rfl, h⟩⟩
  · exact nomatch h
theorem iv_cJ {o : Option aR} {k : Int64 → aM → Option aR} {x : Nat → aM → Option aR} {z : aR} (h : am_cJ o k x = some z) : ∃ out M1, o = some (out, M1) ∧ ((∃ v, out = .inl (some (.long v)) ∧ k v M1 = some z) ∨ ∃ e, out = .inr e ∧ x e M1 = some z) := by
  unfold am_cJ at h
  split at h
  · exact ⟨_, _, rfl, Or.inl ⟨_, rfl, h⟩⟩
  · exact ⟨_, _, rfl, Or.inr ⟨_, rfl, h⟩⟩
  · exact nomatch h
theorem iv_cA {o : Option aR} {k : Nat → aM → Option aR} {x : Nat → aM → Option aR} {z : aR} (h : am_cA o k x = some z) : ∃ out M1, o = some (out, M1) ∧ ((∃ v, out = .inl (some (.ref v)) ∧ k v M1 = some z) ∨ ∃ e, out = .inr e ∧ x e M1 = some z) := by
  unfold am_cA at h
  split at h
  · exact ⟨_, _, rfl, Or.inl ⟨_, rfl, h⟩⟩
  · exact ⟨_, _, rfl, Or.inr ⟨_, rfl, h⟩⟩
  · exact nomatch h
theorem iv_cV {o : Option aR} {k : aM → Option aR} {x : Nat → aM → Option aR} {z : aR} (h : am_cV o k x = some z) : ∃ out M1, o = some (out, M1) ∧ ((out = .inl none ∧ k M1 = some z) ∨ ∃ e, out = .inr e ∧ x e M1 = some z) := by
  unfold am_cV at h
  split at h
  · exact ⟨_, _, rfl, Or.inl ⟨rfl, h⟩⟩
  · exact ⟨_, _, rfl, Or.inr ⟨_, rfl, h⟩⟩
  · exact nomatch h
/-- what comes back from a call's row -/
theorem iv_iv {cal : aY} {hs : List aH} {J : Nat → aL → List Value → aM → Option aR} {R : aR → Option aR} {mm n rk h : Nat} {o : List Nat} {k : aL → List Value → aM → Option aR} {L : aL} {st : List Value} {M : aM} {z : aR} (hh : am_iv cal hs J R (mm :: n :: rk :: h :: o) k L st M = some z) :
    n ≤ st.length ∧ am_cs (st.drop n) ≤ 8 ∧ ∃ out M1, cal mm (st.take n).reverse M = some (out, M1) ∧ ((∃ v, out = .inl v ∧ k L (v.toList ++ st.drop n) M1 = some z) ∨ ∃ e, out = .inr e ∧ am_ct J R (hs.getD h []) e L M1 = some z) := by
  simp only [am_iv] at hh
  obtain ⟨h1, h2⟩ := iv_c hh
  obtain ⟨h1, h3⟩ := am_an h1
  refine ⟨Nat.le_of_ble_eq_true h1, Nat.le_of_ble_eq_true h3, ?_⟩
  split at h2
  · obtain ⟨out, M1, h4, ⟨v, h5, h6⟩ | ⟨x, h5, h6⟩⟩ := iv_cI h2
    · exact ⟨out, M1, h4, Or.inl ⟨_, h5, h6⟩⟩
    · exact ⟨out, M1, h4, Or.inr ⟨x, h5, h6⟩⟩
  · obtain ⟨out, M1, h4, ⟨v, h5, h6⟩ | ⟨x, h5, h6⟩⟩ := iv_cJ h2
    · exact ⟨out, M1, h4, Or.inl ⟨_, h5, h6⟩⟩
    · exact ⟨out, M1, h4, Or.inr ⟨x, h5, h6⟩⟩
  · obtain ⟨out, M1, h4, ⟨v, h5, h6⟩ | ⟨x, h5, h6⟩⟩ := iv_cA h2
    · exact ⟨out, M1, h4, Or.inl ⟨_, h5, h6⟩⟩
    · exact ⟨out, M1, h4, Or.inr ⟨x, h5, h6⟩⟩
  · obtain ⟨out, M1, h4, ⟨h5, h6⟩ | ⟨x, h5, h6⟩⟩ := iv_cV h2
    · exact ⟨out, M1, h4, Or.inl ⟨none, h5, h6⟩⟩
    · exact ⟨out, M1, h4, Or.inr ⟨x, h5, h6⟩⟩
section SIM4
variable {p : Program} {l : Launch} {e : Env} {R : Room} {s : State} {m : MethodId} {args : Array Value} {below : List Frame} {meth : Method} {c : Code} {D : va_G} {cA : Nat → ClassId} {base t1 t2 : Nat} {sa : Nat → Nat} {q : aS} {ad0 : Nat → Nat} {n0 c0 s0 : Nat} {Qt : State → Prop} {r : aR}
variable {cal : aY} {hs : List aH} {J : Nat → aL → List Value → aM → Option aR} {k : aL → List Value → aM → Option aR} {pc len : Nat} {ops : List Nat} {v : Value}
/-- behind a call: the answer and the memory, or what was thrown -/
theorem am_back {L : aL} {st rest : List Value} {M : aM} {H : Heap} {locs : List Loc} {ls : Array Slot} {ad : Nat → Nat} {cells slots mc' ms' : Nat} {r' : aR} {As : Array Value} {g : JFrame} (I : am_I D cA base q ad0 n0 c0 s0 s L st M H locs ls ad cells slots) (hg : g = F0 m pc ls (st.map (ac ad))) (hw : am_ws M.1.length rest) (hmc : r'.2.2.1 = M.2.1 + mc') (hms : r'.2.2.2 = M.2.2 + ms')
    (hr : vx_Run p l e R s m args below meth c H locs cells slots mc' ms' g (rest.map (ac ad)) (ac_Qc D cA base ad M.1.length r' As) (ac_XC D cA base ad M.1.length r') (ac_A base))
    (kret : ∀ (v : Option Value) (H1 : Heap) (locs1 : List Loc) (ad1 : Nat → Nat), r'.1 = .inl v → am_I D cA base q ad0 n0 c0 s0 s L (v.toList ++ rest) r'.2 H1 locs1 ls ad1 (cells + mc') (slots + ms') → W p l e R s m args below meth c H1 locs1 (cells + mc') (slots + ms') Qt (F0 m (pc + 3) ls ((v.toList ++ rest).map (ac ad1))))
    (kthr : ∀ (x : Nat) (H1 : Heap) (locs1 : List Loc) (ad1 : Nat → Nat) (qq : Nat) (ce : Cell), r'.1 = .inr x → x < 5 → am_I D cA base q ad0 n0 c0 s0 s L rest r'.2 H1 locs1 ls ad1 (cells + mc') (slots + ms') → H1[qq]? = some ce → ce.vm = .none → s.vm.findClass (ac_E x) = some ce.cls → vx_W p l e R s m args below meth c H1 locs1 (cells + mc') (slots + ms') Qt (F0 m pc ls (rest.map (ac ad1))) qq) :
    W p l e R s m args below meth c H locs cells slots Qt g := by
  obtain ⟨i1, i2, i3, i4, i5, i6, i7, i8, i9⟩ := I
  intro T hT X
  have key : ∀ (ad1 : Nat → Nat) (st₀ t T' : State) (L' : List Loc) (st1 : List Value), st₀.heap = H → T'.heap = t.heap → T'.vm = t.vm → s.WarmedH T'.vm → (∀ k, k < M.1.length → ad1 k = ad k) → M.1.length ≤ r'.2.1.length → ac_R D cA base ad1 r'.2 t t.heap → va_F (ac_A base) st₀ t → (∀ z ∈ L', ac_A base z.base) → am_ws r'.2.1.length st1 →
      am_I D cA base q ad0 n0 c0 s0 s L st1 r'.2 T'.heap (locs ++ L') ls ad1 (cells + mc') (slots + ms') := by
    intro ad1 st₀ t T' L' st1 h0 e1 e2 hW he hl hR1 hF hL hst
    refine ⟨fun z hz => (he z (by omega)).trans (i1 z hz), by omega, ?_, ?_, ?_, fun z hz => ac_wf_le (i6 z hz) hl, hst, by omega, by omega⟩
    · rw [e1]
      exact hR1.moved (by rw [← e2]; exact hW.alike.symm)
    · have hz := hF.1
      rw [h0] at hz
      refine ⟨by rw [e1]; exact Nat.le_trans i4.1 hz, fun z g1 g2 => ?_, fun z hz => ?_⟩
      · rw [e1, hF.2 z (by rw [h0]; exact Nat.lt_of_lt_of_le g1 i4.1) g2, h0]
        exact i4.2.1 z g1 g2
      · rcases List.mem_append.mp hz with h | h
        · exact i4.2.2 z h
        · exact hL z h
    · rw [am_lc_ext he i6]
      exact i5
  rcases hr T hT X with ⟨v, st₀, t, T', L', h0, X', hL, e1, e2, ⟨⟨v', ad1, hv, ho, he, hl, hR1, hwv⟩, hF⟩, go⟩ | ⟨qq, st₀, t, T', L', E, ce, h0, X', hL, e1, e2, ⟨⟨x, ad1, hx, hx5, hE, he, hl, hR1⟩, hF⟩, hce, hcv, hcl, go⟩
  · cases ho
    have hst : am_ws r'.2.1.length (v'.toList ++ rest) := fun z hz => by
      rcases List.mem_append.mp hz with h | h
      · exact hwv z (by cases v' with
          | none => exact nomatch h
          | some y => have := List.mem_singleton.mp h; rw [this])
      · exact ac_wf_le (hw z h) hl
    obtain ⟨t2, a1, b1⟩ := kret v' T'.heap (locs ++ L') ad1 hv (key ad1 st₀ t T' L' _ h0 e1 e2 X'.warmed he hl hR1 hF hL hst) T' rfl X'
    refine ⟨t2, go t2 ?_, b1⟩
    have e9 : (v'.toList ++ rest).map (ac ad1) = (v'.map (ac ad1)).toList ++ rest.map (ac ad) := by
      rw [List.map_append, am_map_ext he hw]
      cases v' <;> rfl
    rw [e9] at a1
    subst hg
    exact a1
  · subst hE
    obtain ⟨t2, a1, b1⟩ := kthr x T'.heap (locs ++ L') ad1 qq ce hx hx5 (key ad1 st₀ t T' L' _ h0 e1 e2 X'.warmed he hl hR1 hF hL (fun z hz => ac_wf_le (hw z hz) hl)) (by rw [e1]; exact hce) hcv hcl T' rfl X'
    refine ⟨t2, go.trans ?_, b1⟩
    rw [am_map_ext he hw] at a1
    subst hg
    exact a1
end SIM4
