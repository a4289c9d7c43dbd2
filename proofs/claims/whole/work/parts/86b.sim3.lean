/-! ONE INSTRUCTION: switches, what is made, ends -/
theorem iv_sw {β : Type} {z : β} {J : Nat → aL → List Value → aM → Option β} {x : Int32} {d : Nat} {lv : List Nat} {L : aL} {st : List Value} {M : aM} : ∀ (ts : List Nat) (n : Nat), am_sw J x d lv L st M n ts = some z →
    (∃ i t, ts[i]? = some t ∧ x = nI (n + i) ∧ J t (am_pj lv L) st M = some z) ∨ ((∀ i, i < ts.length → x ≠ nI (n + i)) ∧ J d (am_pj lv L) st M = some z)
  | [], n, h => Or.inr ⟨fun i hi => absurd hi (Nat.not_lt_zero i), h⟩
  | t :: r, n, h => by
    have h : (if x = nI n then J t (am_pj lv L) st M else am_sw J x d lv L st M (n + 1) r) = some z := h
    by_cases e : x = nI n
    · rw [if_pos e] at h
      exact Or.inl ⟨0, t, rfl, e, h⟩
    · rw [if_neg e] at h
      rcases iv_sw r (n + 1) h with ⟨i, t', h1, h2, h3⟩ | ⟨h1, h2⟩
      · exact Or.inl ⟨i + 1, t', h1, by rw [h2]; congr 1; omega, h3⟩
      · refine Or.inr ⟨fun i hi => ?_, h2⟩
        cases i with
        | zero => exact e
        | succ i =>
          have := h1 i (by simpa using hi)
          rw [show n + (i + 1) = n + 1 + i by omega]
          exact this
/-- the heap has grown -/
theorem ac_R.grow {D : va_G} {cA : Nat → ClassId} {base : Nat} {ad : Nat → Nat} {M : aM} {U : State} {H H1 : Heap} (h : ac_R D cA base ad M U H) (hs : H.size ≤ H1.size) (hq : ∀ q, q < H.size → H1[q]? = H[q]?) : ac_R D cA base ad M U H1 :=
  ⟨fun k c hc => (h.1 k c hc).kept (hq _ (h.1 k c hc).lt), h.2.1, h.2.2.1, h.2.2.2.1, Nat.le_trans h.2.2.2.2 hs⟩
theorem ac_R.mk1 {D : va_G} {cA : Nat → ClassId} {base : Nat} {ad : Nat → Nat} {M : aM} {U : State} {H H1 : Heap} (hR : ac_R D cA base ad M U H) (hs : H.size ≤ H1.size) (hq1 : ∀ q, q < H.size → H1[q]? = H[q]?) {ad' : Nat → Nat} (he : ∀ k, k < M.1.length → ad' k = ad k) (hq : ad' M.1.length = H.size) {c : aC} (hv : ∀ v ∈ c.2, ac_wf M.1.length v) {x : Nat × Nat}
    (hn : ac_ok D cA base ad' U H1 M.1.length c) : ac_R D cA base ad' (M.1 ++ [c], x) U H1 := by
  obtain ⟨r1, r2, r3, r4, r5⟩ := id hR
  have hl : (M.1 ++ [c]).length = M.1.length + 1 := by simp
  refine ⟨fun k d hd => ?_, fun i j hi hj hro e => ?_, fun k h1 h2 => ?_, fun k d hd => ?_, by omega⟩
  · have hd : (M.1 ++ [c])[k]? = some d := hd
    by_cases e : k < M.1.length
    · rw [List.getElem?_append_left e] at hd
      refine ((r1 k d hd).ext he e (r4 k d hd)).kept ?_
      rw [he k e]
      exact hq1 _ (hR.lt e)
    · have hk : k = M.1.length := by
        have := (List.getElem?_eq_some_iff.mp hd).1
        omega
      subst hk
      have : d = c := by simpa using hd.symm
      subst this
      exact hn
  · have hi : i < (M.1 ++ [c]).length := hi
    have hj : j < (M.1 ++ [c]).length := hj
    rw [hl] at hi hj
    by_cases e1 : i < M.1.length <;> by_cases e2 : j < M.1.length
    · rw [he i e1, he j e2] at e
      exact r2 i j e1 e2 hro e
    · have : j = M.1.length := by omega
      subst this
      rw [he i e1, hq] at e
      have := hR.lt e1
      omega
    · have : i = M.1.length := by omega
      subst this
      rw [he j e2, hq] at e
      have := hR.lt e2
      omega
    · omega
  · have h2 : k < (M.1 ++ [c]).length := h2
    rw [hl] at h2
    by_cases e1 : k < M.1.length
    · rw [he k e1]; exact r3 k h1 e1
    · have : k = M.1.length := by omega
      subst this
      rw [hq]; exact r5
  · have hd : (M.1 ++ [c])[k]? = some d := hd
    show ∀ v ∈ d.2, ac_wf (M.1 ++ [c]).length v
    rw [hl]
    intro v hv'
    by_cases e : k < M.1.length
    · rw [List.getElem?_append_left e] at hd
      exact ac_wf_le (r4 k d hd v hv') (Nat.le_succ _)
    · have hk : k = M.1.length := by
        have := (List.getElem?_eq_some_iff.mp hd).1
        omega
      subst hk
      have : d = c := by simpa using hd.symm
      subst this
      exact ac_wf_le (hv v hv') (Nat.le_succ _)
theorem arrV_congr {cI : ClassId} {N : Nat} {f g : Nat → Value} (h : ∀ j, j < N → f j = g j) : arrV cI N f = arrV cI N g := by
  have e : (Array.ofFn (n := N) fun j => f j.val) = (Array.ofFn (n := N) fun j => g j.val) := by
    congr 1
    funext j
    exact h j.val j.isLt
  unfold arrV
  rw [e]
theorem am_map_ext {ad ad' : Nat → Nat} {n : Nat} {st : List Value} (he : ∀ k, k < n → ad' k = ad k) (h : am_ws n st) : st.map (ac ad') = st.map (ac ad) := List.map_congr_left fun v hv => ac_ext he (h v hv)
theorem am_lc_ext {ad ad' : Nat → Nat} {n : Nat} {L : aL} (he : ∀ k, k < n → ad' k = ad k) (h : am_wl n L) : am_lc ad' L = am_lc ad L := List.map_congr_left fun q hq => by rw [ac_ext he (h q hq)]
theorem ac_def (ad : Nat → Nat) (t : FieldType) : ac ad (defaultValue t) = defaultValue t := by cases t <;> rfl
/-- the addresses with one more -/
def ac_nx (ad : Nat → Nat) (n a : Nat) : Nat → Nat := fun k => if k = n then a else ad k
theorem ac_nx_lt {ad : Nat → Nat} {n a : Nat} (k : Nat) (h : k < n) : ac_nx ad n a k = ad k := if_neg (by omega)
theorem ac_nx_n {ad : Nat → Nat} {n a : Nat} : ac_nx ad n a n = a := if_pos rfl
section
variable {D : va_G} {cA : Nat → ClassId} {base : Nat} {q : aS} {ad0 : Nat → Nat} {n0 c0 s0 : Nat} {s : State} {L : aL} {st : List Value} {M : aM} {H : Heap} {locs : List Loc} {ls : Array Slot} {ad : Nat → Nat} {cells slots : Nat}
theorem am_I.mk {st' : List Value} {x : aC} {H' : Heap} (I : am_I D cA base q ad0 n0 c0 s0 s L st M H locs ls ad cells slots) (hs : H.size ≤ H'.size) (hq : ∀ q, q < H.size → H'[q]? = H[q]?) (hv : ∀ v ∈ x.2, ac_wf M.1.length v) (hn : ac_ok D cA base (ac_nx ad M.1.length H.size) s H' M.1.length x) (hw : am_ws M.1.length st') :
    am_I D cA base q ad0 n0 c0 s0 s L (.ref M.1.length :: st') (am_nw M x.1 x.2) H' locs ls (ac_nx ad M.1.length H.size) (cells + 1) (slots + x.2.length) := by
  have hl : (M.1 ++ [x]).length = M.1.length + 1 := by simp
  obtain ⟨i1, i2, i3, i4, i5, i6, i7, i8, i9⟩ := I
  refine ⟨fun k hk => (ac_nx_lt k (by omega)).trans (i1 k hk), ?_, i3.mk1 hs hq ac_nx_lt ac_nx_n hv hn, ⟨Nat.le_trans i4.1 hs, fun z h1 h2 => ?_, i4.2.2⟩, ?_, ?_, ?_, ?_, ?_⟩
  · show n0 ≤ (M.1 ++ [x]).length
    omega
  · rw [hq z (Nat.lt_of_lt_of_le h1 i4.1)]
    exact i4.2.1 z h1 h2
  · rw [am_lc_ext ac_nx_lt i6]
    exact i5
  · show am_wl (M.1 ++ [x]).length L
    exact fun z hz => ac_wf_le (i6 z hz) (by omega)
  · show am_ws (M.1 ++ [x]).length _
    exact am_ws_c (ac_wf_ref (by omega)) (fun z hz => ac_wf_le (hw z hz) (by omega))
  · show M.2.1 + 1 = _
    omega
  · show M.2.2 + x.2.length = _
    omega
end
def ac_Qc (D : va_G) (cA : Nat → ClassId) (base : Nat) (ad0 : Nat → Nat) (n0 : Nat) (r : aR) : Array Value → State → Outcome → State → Prop := fun _ st o t =>
  (∃ (v : Option Value) (ad : Nat → Nat), r.1 = .inl v ∧ o = .returned (v.map (ac ad)) ∧ (∀ k, k < n0 → ad k = ad0 k) ∧ n0 ≤ r.2.1.length ∧ ac_R D cA base ad r.2 t t.heap ∧ (∀ x, v = some x → ac_wf r.2.1.length x)) ∧ va_F (ac_A base) st t
def ac_XC (D : va_G) (cA : Nat → ClassId) (base : Nat) (ad0 : Nat → Nat) (n0 : Nat) (r : aR) : String → State → State → Prop := fun E st t =>
  (∃ (e : Nat) (ad : Nat → Nat), r.1 = .inr e ∧ e < 5 ∧ E = ac_E e ∧ (∀ k, k < n0 → ad k = ad0 k) ∧ n0 ≤ r.2.1.length ∧ ac_R D cA base ad r.2 t t.heap) ∧ va_F (ac_A base) st t
abbrev am_Q (D : va_G) (cA : Nat → ClassId) (base : Nat) (ad0 : Nat → Nat) (n0 : Nat) (r : aR) (below : List Frame) (args : Array Value) (s : State) (mc ms : Nat) : State → Prop := vx_MQ below (ac_Qc D cA base ad0 n0 r) (ac_XC D cA base ad0 n0 r) args s mc ms (ac_A base)
theorem am_thrw : ∀ q ∈ am_thr, q.2 ≠ 2 → ∀ w ∈ vx_atS "ActorMachine" q.1 (ac_E q.2) am_nms, (decide (w ∈ lw_tbl) && (am_okw w && vx_ot w)) = true := by decide +kernel
theorem am_thrf : ∀ e, e < 5 → Bundle.fit (ac_E e) = true := by decide +kernel
theorem am_nmsf : ∀ n ∈ am_nms, Bundle.fit n = true := by decide +kernel
section SIM3
variable {p : Program} {l : Launch} {e : Env} {R : Room} {s : State} {m : MethodId} {args : Array Value} {below : List Frame} {meth : Method} {c : Code} {D : va_G} {cA : Nat → ClassId} {base t1 t2 : Nat} {sa : Nat → Nat} {q : aS} {ad0 : Nat → Nat} {n0 c0 s0 : Nat} {Qt : State → Prop} {r : aR}
variable {cal : aY} {hs : List aH} {J : Nat → aL → List Value → aM → Option aR} {k : aL → List Value → aM → Option aR} {pc len : Nat} {ops : List Nat} {v : Value}
theorem sd_tableswitch {d lo hi : Int} {offs : Array Int} (E : am_E p l R s m meth c D cA base t1 t2 sa q ad0 n0 c0 s0 r) (hJ : ∀ z, am_S p l e R s m args below meth c D cA base q ad0 n0 c0 s0 Qt r z (J z)) (hck : am_ck q hs pc (.tableswitch d lo hi offs, len, ops, v) = true) : am_S p l e R s m args below meth c D cA base q ad0 n0 c0 s0 Qt r pc (am_1 cal hs J some (.tableswitch d lo hi offs, len, ops, v) k) := by
  obtain ⟨hx, hb, hml, hown, hret, hlk, hnm, hG, hbs, hfr, hlo, htr, had, hrc, hrs⟩ := E
  intro L st M hrun
  obtain ⟨h1, h2⟩ := am_an hck
  obtain ⟨hd, -⟩ := am_dk_ok h1
  have h3 : ∃ n dd mm w, ops = n :: dd :: mm :: w ∧ (n : Int) = lo ∧ (pc : Int) + d = (dd : Int) ∧ offs.toList.map (fun x => (pc : Int) + x) = (w.drop mm).map (fun (x : Nat) => (x : Int)) ∧ hi = lo + ((w.drop mm).length : Int) - 1 ∧ n + (w.drop mm).length ≤ 1000 := by
    dsimp only at h2
    split at h2
    · obtain ⟨g1, g2⟩ := am_an h2
      obtain ⟨g2, g3⟩ := am_an g2
      obtain ⟨g3, g4⟩ := am_an g3
      obtain ⟨g4, g5⟩ := am_an g4
      exact ⟨_, _, _, _, rfl, of_decide_eq_true g1, of_decide_eq_true g2, of_decide_eq_true g3, of_decide_eq_true g4, Nat.le_of_ble_eq_true g5⟩
    · exact nomatch h2
  obtain ⟨n, dd, mm, w, rfl, hlo2, hdd, hoffs, hhi, hlen⟩ := h3
  obtain ⟨x, w', rfl, h⟩ := iv_I1 (show am_I1 st _ = some r from hrun)
  rcases iv_sw (w.drop mm) n h with ⟨i, t, h4, h5, h6⟩ | ⟨h4, h6⟩
  · obtain ⟨hm, hk⟩ := hJ _ _ _ _ h6
    have hi2 := (List.getElem?_eq_some_iff.mp h4).1
    have hxi : x.toInt = ((n + i : Nat) : Int) := by rw [h5]; exact nI_toInt (by omega)
    have hoff : ∃ off, offs[i]? = some off ∧ (pc : Int) + off = (t : Int) := by
      have e1 : (offs.toList.map (fun x => (pc : Int) + x))[i]? = some (t : Int) := by rw [hoffs, List.getElem?_map, h4]; rfl
      rw [List.getElem?_map] at e1
      cases ho : offs.toList[i]? with
      | none => rw [ho] at e1; exact nomatch e1
      | some off =>
        rw [ho] at e1
        exact ⟨off, by rw [← Array.getElem?_toList]; exact ho, Option.some.inj e1⟩
    obtain ⟨off, ho, ht⟩ := hoff
    have hidx : (x.toInt - lo).toNat = i := by omega
    exact ⟨hm, fun H locs ls ad cells slots I => lv_tableIn hx hb hd (by omega) (by omega) (by rw [hidx]; exact ho) ht (hk H locs ls ad cells slots (I.pj _ (am_ws_t I.ws)))⟩
  · obtain ⟨hm, hk⟩ := hJ _ _ _ _ h6
    have hout : x.toInt < lo ∨ hi < x.toInt := by
      rcases Int.lt_or_le x.toInt lo with h | h
      · exact Or.inl h
      · rcases Int.lt_or_le hi x.toInt with h' | h'
        · exact Or.inr h'
        · have hx0 : ¬ x < 0 := fun hz => by
            have := Int32.lt_iff_toInt_lt.mp hz
            have e0 : (0 : Int32).toInt = 0 := rfl
            omega
          obtain ⟨j, hj, e9⟩ := nI_of hx0
          have e8 : x.toInt = (j : Int) := by rw [e9]; exact nI_toInt hj
          exact absurd (by rw [e9]; congr 1; omega) (h4 (j - n) (by omega))
    exact ⟨hm, fun H locs ls ad cells slots I => lv_tableOut hx hb hd hout hdd (hk H locs ls ad cells slots (I.pj _ (am_ws_t I.ws)))⟩
theorem sd_newarray {at_ : ArrayType} (E : am_E p l R s m meth c D cA base t1 t2 sa q ad0 n0 c0 s0 r) (hk : am_S p l e R s m args below meth c D cA base q ad0 n0 c0 s0 Qt r (pc + len) k) (hck : am_ck q hs pc (.newarray at_, len, ops, v) = true) : am_S p l e R s m args below meth c D cA base q ad0 n0 c0 s0 Qt r pc (am_1 cal hs J some (.newarray at_, len, ops, v) k) := by
  obtain ⟨hx, hb, hml, hown, hret, hlk, hnm, hG, hbs, hfr, hlo, htr, had, hrc, hrs⟩ := E
  intro L st M hrun
  obtain ⟨h1, h2⟩ := am_an (show (am_dk q.2.1 pc (.newarray at_) 2 len && (Nat.ble 10 (ops.headD 0) && (Nat.blt (ops.headD 0) 14 && (decide (newarray.typeOf at_ = ac_ty (ops.headD 0)) && am_at (ops.getD 1 0) (.arrayClass (ac_ty (ops.headD 0))))))) = true from hck)
  obtain ⟨hd, rfl⟩ := am_dk_ok h1
  obtain ⟨h2, h3⟩ := am_an h2
  obtain ⟨h3, h4⟩ := am_an h3
  obtain ⟨h4, h5⟩ := am_an h4
  have h2 : 10 ≤ ops.headD 0 := Nat.le_of_ble_eq_true h2
  have h3 : ops.headD 0 < 14 := Nat.le_of_ble_eq_true h3
  have h4 := of_decide_eq_true h4
  obtain ⟨x, w, rfl, h⟩ := iv_I1 (show am_I1 st _ = some r from hrun)
  obtain ⟨j, h6, h⟩ := iv_b h
  obtain ⟨hn, rfl⟩ := iv_ix h6
  obtain ⟨h7, h⟩ := iv_c h
  have h7 : x.toNatClampNeg ≤ 1000 := Nat.le_of_ble_eq_true h7
  generalize hN : x.toNatClampNeg = N at h h7
  generalize hkd : ops.headD 0 = kd at h2 h3 h4 h5
  have h : k L (.ref M.1.length :: w) (am_nw M kd (List.replicate N (am_dv kd))) = some r := by rw [← hkd]; exact h
  obtain ⟨hm, hk⟩ := hk _ _ _ h
  refine ⟨⟨Nat.le_trans (Nat.le_add_right _ _) hm.1, Nat.le_trans (Nat.le_add_right _ _) hm.2⟩, fun H locs ls ad cells slots I => ?_⟩
  have hm1 : M.2.1 + 1 ≤ r.2.2.1 := hm.1
  have hm2 : M.2.2 + N ≤ r.2.2.2 := by have := hm.2; simpa [am_nw] using this
  have hc1 : M.2.1 = c0 + cells := I.2.2.2.2.2.2.2.1
  have hc2 : M.2.2 = s0 + slots := I.2.2.2.2.2.2.2.2
  have hdv : am_dv kd = defaultValue (ac_ty kd) := by
    have : kd = 10 ∨ kd = 11 ∨ kd = 12 ∨ kd = 13 := by omega
    rcases this with h | h | h | h <;> rw [h] <;> rfl
  have hcb : componentBytes (ac_ty kd) ≤ 8 := by
    have : kd = 10 ∨ kd = 11 ∨ kd = 12 ∨ kd = 13 := by omega
    rcases this with h | h | h | h <;> rw [h] <;> decide
  refine W.newa hx hb (by rw [h4]; exact hG.word h5 args) rfl hd rfl hn (by rw [hN, h4]; calc N * componentBytes (ac_ty kd) ≤ 1000 * 8 := Nat.mul_le_mul h7 hcb
                                                                              _ ≤ _ := by decide) (by omega) (by rw [hN]; omega) (fun cA' kA comp f1 f2 f3 => ?_)
  rw [hN, h4] at *
  have e9 : cA' = cA kd := by
    have hRA := (hG.2.2.1 kd h2 (by omega)).2
    have hRA : s.vm.findClass ("[" ++ (ac_ty kd).toString) = some (cA kd) := by
      have : kd = 10 ∨ kd = 11 ∨ kd = 12 ∨ kd = 13 := by omega
      rcases this with h | h | h | h <;> rw [h] at hRA ⊢ <;> exact hRA
    exact Option.some.inj (f1.symm.trans hRA)
  subst e9
  have hsz : H.size ≤ (H.push { cls := cA kd, slots := Array.replicate N (defaultValue (ac_ty kd)), vm := .none }).size := by rw [Array.size_push]; omega
  have hqq : ∀ z, z < H.size → (H.push { cls := cA kd, slots := Array.replicate N (defaultValue (ac_ty kd)), vm := .none })[z]? = H[z]? := fun z hz => by rw [Array.getElem?_push_lt hz, Array.getElem?_eq_getElem hz]
  have I2 := I.mk (x := (kd, List.replicate N (am_dv kd))) (st' := w) hsz hqq (fun v hv => by rw [List.eq_of_mem_replicate hv, hdv]; cases ac_ty kd <;> exact fun a h => nomatch h) ?_ (am_ws_t I.ws)
  · have hk2 := hk _ locs ls _ (cells + 1) (slots + N) (by simpa using I2)
    have e1 : ((Value.ref M.1.length :: w).map (ac (ac_nx ad M.1.length H.size))) = .ref H.size :: w.map (ac ad) := by
      show Value.ref (ac_nx ad M.1.length H.size M.1.length) :: w.map (ac (ac_nx ad M.1.length H.size)) = _
      rw [ac_nx_n, am_map_ext ac_nx_lt (am_ws_t I.ws)]
    rw [e1] at hk2
    exact hk2
  · refine ⟨fun h => absurd h (Nat.not_lt.mpr h2), fun _ => ⟨by show kd < 17; omega, by show (List.replicate N (am_dv kd)).length < 2 ^ 31; rw [List.length_replicate]; omega, fun _ => ?_, fun h => ?_⟩⟩
    · show (H.push _)[ac_nx ad M.1.length H.size M.1.length]? = _
      rw [ac_nx_n, Array.getElem?_push_size, arrV_new]
      show some (arrV (cA kd) N _) = some (arrV (cA kd) (List.replicate N (am_dv kd)).length _)
      rw [List.length_replicate]
      refine congrArg some (arrV_congr fun j hj => ?_)
      show defaultValue (ac_ty kd) = ac _ ((List.replicate N (am_dv kd)).getD j .null)
      rw [am_getD (v := am_dv kd) (by simp [hj]), hdv, ac_def]
    · have := I.2.1
      have h : M.1.length < 3 := h
      omega
theorem sd_anewarray {j : Nat} (E : am_E p l R s m meth c D cA base t1 t2 sa q ad0 n0 c0 s0 r) (hk : am_S p l e R s m args below meth c D cA base q ad0 n0 c0 s0 Qt r (pc + len) k) (hck : am_ck q hs pc (.anewarray j, len, ops, v) = true) : am_S p l e R s m args below meth c D cA base q ad0 n0 c0 s0 Qt r pc (am_1 cal hs J some (.anewarray j, len, ops, v) k) := by
  obtain ⟨hx, hb, hml, hown, hret, hlk, hnm, hG, hbs, hfr, hlo, htr, had, hrc, hrs⟩ := E
  intro L st M hrun
  obtain ⟨h1, h2⟩ := am_an (show (am_dk q.2.1 pc (.anewarray j) 3 len && (Nat.ble 14 (ops.headD 0) && (Nat.blt (ops.headD 0) 17 && (am_at (ops.getD 1 0) (.classLink q.1.cls j (ac_cn (ops.headD 0))) && am_at (ops.getD 2 0) (.arrayOver (.object (ac_cn (ops.headD 0)))))))) = true from hck)
  obtain ⟨hd, rfl⟩ := am_dk_ok h1
  obtain ⟨h2, h3⟩ := am_an h2
  obtain ⟨h3, h4⟩ := am_an h3
  obtain ⟨h4, h5⟩ := am_an h4
  have h2 : 14 ≤ ops.headD 0 := Nat.le_of_ble_eq_true h2
  have h3 : ops.headD 0 < 17 := Nat.le_of_ble_eq_true h3
  obtain ⟨x, w, rfl, h⟩ := iv_I1 (show am_I1 st _ = some r from hrun)
  obtain ⟨j', h6, h⟩ := iv_b h
  obtain ⟨hn, rfl⟩ := iv_ix h6
  obtain ⟨h7, h⟩ := iv_c h
  have h7 : x.toNatClampNeg ≤ 1000 := Nat.le_of_ble_eq_true h7
  generalize hN : x.toNatClampNeg = N at h h7
  generalize hkd : ops.headD 0 = kd at h2 h3 h4 h5
  have h : k L (.ref M.1.length :: w) (am_nw M kd (List.replicate N .null)) = some r := by rw [← hkd]; exact h
  obtain ⟨hm, hk⟩ := hk _ _ _ h
  refine ⟨⟨Nat.le_trans (Nat.le_add_right _ _) hm.1, Nat.le_trans (Nat.le_add_right _ _) hm.2⟩, fun H locs ls ad cells slots I => ?_⟩
  have hm1 : M.2.1 + 1 ≤ r.2.2.1 := hm.1
  have hm2 : M.2.2 + N ≤ r.2.2.2 := by have := hm.2; simpa [am_nw] using this
  have hc1 : M.2.1 = c0 + cells := I.2.2.2.2.2.2.2.1
  have hc2 : M.2.2 = s0 + slots := I.2.2.2.2.2.2.2.2
  have hty : ac_ty kd = .object (ac_cn kd) := by
    have : kd = 14 ∨ kd = 15 ∨ kd = 16 := by omega
    rcases this with h | h | h <;> rw [h] <;> rfl
  refine W.anew hx hb hown (hG.word h4 args) (hG.word h5 args) rfl hd rfl hn (by rw [hN]; omega) (by omega) (by rw [hN]; omega) (fun cA' kA comp f1 f2 f3 f4 => ?_)
  rw [hN] at *
  have e9 : cA' = cA kd := by
    have hRA := (hG.2.2.1 kd (by omega) h3).2
    rw [hty] at hRA
    obtain ⟨_, _, -, -, -, g9⟩ := hRA
    exact Option.some.inj (f1.symm.trans g9)
  subst e9
  have hsz : H.size ≤ (H.push { cls := cA kd, slots := Array.replicate N .null, vm := .none }).size := by rw [Array.size_push]; omega
  have hqq : ∀ z, z < H.size → (H.push { cls := cA kd, slots := Array.replicate N .null, vm := .none })[z]? = H[z]? := fun z hz => by rw [Array.getElem?_push_lt hz, Array.getElem?_eq_getElem hz]
  have I2 := I.mk (x := (kd, List.replicate N .null)) (st' := w) hsz hqq (fun v hv => by rw [List.eq_of_mem_replicate hv]; exact ac_wf_null) ?_ (am_ws_t I.ws)
  · have hk2 := hk _ locs ls _ (cells + 1) (slots + N) (by simpa using I2)
    have e1 : ((Value.ref M.1.length :: w).map (ac (ac_nx ad M.1.length H.size))) = .ref H.size :: w.map (ac ad) := by
      show Value.ref (ac_nx ad M.1.length H.size M.1.length) :: w.map (ac (ac_nx ad M.1.length H.size)) = _
      rw [ac_nx_n, am_map_ext ac_nx_lt (am_ws_t I.ws)]
    rw [e1] at hk2
    exact hk2
  · refine ⟨fun h => absurd h (Nat.not_lt.mpr (by show 10 ≤ kd; omega)), fun _ => ⟨by show kd < 17; omega, by show (List.replicate N Value.null).length < 2 ^ 31; rw [List.length_replicate]; omega, fun _ => ?_, fun h => ?_⟩⟩
    · show (H.push _)[ac_nx ad M.1.length H.size M.1.length]? = _
      rw [ac_nx_n, Array.getElem?_push_size, arrV_new]
      show some (arrV (cA kd) N _) = some (arrV (cA kd) (List.replicate N Value.null).length _)
      rw [List.length_replicate]
      refine congrArg some (arrV_congr fun j hj => ?_)
      show Value.null = ac _ ((List.replicate N Value.null).getD j .null)
      rw [am_getD (v := .null) (by simp [hj])]
      rfl
    · have := I.2.1
      have h : M.1.length < 3 := h
      omega
theorem sd_newobj {j : Nat} (E : am_E p l R s m meth c D cA base t1 t2 sa q ad0 n0 c0 s0 r) (hk : am_S p l e R s m args below meth c D cA base q ad0 n0 c0 s0 Qt r (pc + len) k) (hne : ops.headD 0 ≠ 999) (hck : am_ck q hs pc (.new j, len, ops, v) = true) : am_S p l e R s m args below meth c D cA base q ad0 n0 c0 s0 Qt r pc (am_1 cal hs J some (.new j, len, ops, v) k) := by
  obtain ⟨hx, hb, hml, hown, hret, hlk, hnm, hG, hbs, hfr, hlo, htr, had, hrc, hrs⟩ := E
  intro L st M hrun
  obtain ⟨h1, h2⟩ := am_an hck
  obtain ⟨hd, rfl⟩ := am_dk_ok h1
  have h3 : ∃ ci w1 w2 w3, ci < 10 ∧ am_at w1 (.classLink q.1.cls j (ac_C ci)) = true ∧ am_at w2 (.instantiable (ac_C ci) (ac_N ci)) = true ∧ am_at w3 (.initialized (ac_C ci)) = true ∧ k L (.ref M.1.length :: st) (am_nw M ci (am_df ci)) = some r := by
    dsimp only at h2
    split at h2
    · exact absurd rfl hne
    · rename_i ci z w1 w2 w3 t hh
      obtain ⟨g1, g2⟩ := am_an h2
      obtain ⟨g2, g3⟩ := am_an g2
      obtain ⟨g3, g4⟩ := am_an g3
      have g1 : ci < 10 := Nat.le_of_ble_eq_true g1
      have e0 : Nat.beq ci 999 = false := by
        cases hb : Nat.beq ci 999 with
        | false => rfl
        | true => have := Nat.eq_of_beq_eq_true hb; omega
      have hrun : (bif Nat.beq ci 999 then (bif Nat.beq (am_cs st) 0 then some (.inr z, am_tk M 1 6) else none) else k L (.ref M.1.length :: st) (am_nw M ci (am_df ci))) = some r := hrun
      rw [e0] at hrun
      exact ⟨ci, w1, w2, w3, g1, g2, g3, g4, hrun⟩
    · exact nomatch h2
  obtain ⟨ci, w1, w2, w3, hci, g2, g3, g4, h⟩ := h3
  obtain ⟨hm, hk⟩ := hk _ _ _ h
  obtain ⟨hdl, hdf⟩ := ac_dfok ci hci
  refine ⟨⟨Nat.le_trans (Nat.le_add_right _ _) hm.1, Nat.le_trans (Nat.le_add_right _ _) hm.2⟩, fun H locs ls ad cells slots I => ?_⟩
  have hm1 : M.2.1 + 1 ≤ r.2.2.1 := hm.1
  have hm2 : M.2.2 + ac_N ci ≤ r.2.2.2 := by have := hm.2; rw [← hdl]; exact this
  have hc1 : M.2.1 = c0 + cells := I.2.2.2.2.2.2.2.1
  have hc2 : M.2.2 = s0 + slots := I.2.2.2.2.2.2.2.2
  obtain ⟨hS, hfc, kC0, hkC0, hkind⟩ := hG.2.1 ci hci
  refine W.newcK hx hb hown (hG.word g2 args) (hG.word g3 args) (hG.word g4 args) rfl hd (by omega) (by omega) hfc rfl (fun H' kC f1 f2 f3 f4 => ?_)
  have I2 := I.mk (x := (ci, am_df ci)) (st' := st) (H' := H') (by omega) f4 (fun v hv => ?_) ?_ I.ws
  · have hk2 := hk _ locs ls _ (cells + 1) (slots + ac_N ci) (by rw [← hdl]; exact I2)
    have e1 : ((Value.ref M.1.length :: st).map (ac (ac_nx ad M.1.length H.size))) = .ref H.size :: st.map (ac ad) := by
      show Value.ref (ac_nx ad M.1.length H.size M.1.length) :: st.map (ac (ac_nx ad M.1.length H.size)) = _
      rw [ac_nx_n, am_map_ext ac_nx_lt I.ws]
    rw [e1] at hk2
    exact hk2
  · obtain ⟨i, hi⟩ := List.getElem?_of_mem hv
    have hil := (List.getElem?_eq_some_iff.mp hi).1
    rw [hdl] at hil
    have := hdf i hil
    rw [am_getD hi] at this
    rw [this]
    cases ac_F ci i <;> exact fun a h => nomatch h
  · refine ⟨fun _ => ⟨hdl, ?_, blank (D.1 ci) kC, ?_, rfl, rfl, fun k hk => ?_⟩, fun h => absurd hci (Nat.not_lt.mpr h)⟩
    · have := I.2.1
      show 3 ≤ M.1.length
      omega
    · rw [ac_nx_n]; exact f2
    · obtain ⟨cf, kf, fi, fd, hi, he⟩ := hS k hk
      have h3 := (u_facts hfc f1 (ac_lay hG hci hk args) hi).2.2
      rw [(State.fieldFound?_type hi (ac_tok ci hci k hk)).2] at h3
      rw [← he]
      show _ = some (ac _ ((am_df ci).getD k .null))
      rw [hdf k hk, ac_def]
      exact k2_blank h3
theorem sd_ireturn  {mc ms : Nat} (E : am_E p l R s m meth c D cA base t1 t2 sa q ad0 n0 c0 s0 r) (hmc : r.2.2.1 = c0 + mc) (hms : r.2.2.2 = s0 + ms) (hck : am_ck q hs pc (.ireturn, len, ops, v) = true) : am_S p l e R s m args below meth c D cA base q ad0 n0 c0 s0 (am_Q D cA base ad0 n0 r below args s mc ms) r pc (am_1 cal hs J some (.ireturn, len, ops, v) k) := by
  obtain ⟨hx, hb, hml, hown, hret, hlk, hnm, hG, hbs, hfr, hlo, htr, had, hrc, hrs⟩ := E
  intro L st M hrun
  obtain ⟨h1, h2⟩ := am_an hck
  obtain ⟨hd, rfl⟩ := am_dk_ok h1
  have h3 : ∃ t, q.2.2.2.1 = some t ∧ ops.headD 0 = ac_fc t ∧ (t = .int ∨ t = .boolean ∨ t = .char) := by
    dsimp only at h2
    split at h2
    · rename_i t ht
      obtain ⟨g1, g2⟩ := am_an h2
      exact ⟨t, ht, Nat.eq_of_beq_eq_true g1, of_decide_eq_true g2⟩
    · exact nomatch h2
  obtain ⟨t, ht, ho, htt⟩ := h3
  have h4 : ∃ x, st = [.int x] ∧ am_ft (ops.headD 0) (.int x) = true ∧ r = (.inl (some (.int x)), M) := by
    simp only [am_1] at hrun
    split at hrun
    · obtain ⟨g1, g2⟩ := iv_c hrun
      exact ⟨_, rfl, g1, (Option.some.inj g2).symm⟩
    · exact nomatch hrun
  obtain ⟨x, rfl, hft, rfl⟩ := h4
  refine ⟨⟨Nat.le_refl _, Nat.le_refl _⟩, fun H locs ls ad cells slots I => ?_⟩
  obtain ⟨i1, i2, i3, i4, i5, i6, i7, i8, i9⟩ := I
  have e1 : cells = mc := by have : M.2.1 = c0 + mc := hmc; omega
  have e2 : slots = ms := by have : M.2.2 = s0 + ms := hms; omega
  subst e1; subst e2
  rw [ho] at hft
  refine vx_ret (W.zret hx hb (hret.trans ht) (am_ft_ok (ad := ad) hft).1 (fun t' ht' hW => ⟨⟨some (.int x), ad, rfl, rfl, i1, i2, ?_, fun y hy => by cases hy; exact ac_wf_int⟩, i4.F ht'⟩) i4.2.2 hd hlk)
  rw [ht']
  exact i3.moved hW.alike
theorem sd_lreturn  {mc ms : Nat} (E : am_E p l R s m meth c D cA base t1 t2 sa q ad0 n0 c0 s0 r) (hmc : r.2.2.1 = c0 + mc) (hms : r.2.2.2 = s0 + ms) (hck : am_ck q hs pc (.lreturn, len, ops, v) = true) : am_S p l e R s m args below meth c D cA base q ad0 n0 c0 s0 (am_Q D cA base ad0 n0 r below args s mc ms) r pc (am_1 cal hs J some (.lreturn, len, ops, v) k) := by
  obtain ⟨hx, hb, hml, hown, hret, hlk, hnm, hG, hbs, hfr, hlo, htr, had, hrc, hrs⟩ := E
  intro L st M hrun
  obtain ⟨h1, h2⟩ := am_an (show (am_dk q.2.1 pc .lreturn 1 len && decide (q.2.2.2.1 = some .long)) = true from hck)
  obtain ⟨hd, rfl⟩ := am_dk_ok h1
  have h2 := of_decide_eq_true h2
  have h4 : ∃ x, st = [.long x] ∧ r = (.inl (some (.long x)), M) := by
    simp only [am_1] at hrun
    split at hrun
    · exact ⟨_, rfl, (Option.some.inj hrun).symm⟩
    · exact nomatch hrun
  obtain ⟨x, rfl, rfl⟩ := h4
  refine ⟨⟨Nat.le_refl _, Nat.le_refl _⟩, fun H locs ls ad cells slots I => ?_⟩
  obtain ⟨i1, i2, i3, i4, i5, i6, i7, i8, i9⟩ := I
  have e1 : cells = mc := by have : M.2.1 = c0 + mc := hmc; omega
  have e2 : slots = ms := by have : M.2.2 = s0 + ms := hms; omega
  subst e1; subst e2
  refine vx_ret (W.lret hx hb (hret.trans h2) (fun t' ht' hW => ⟨⟨some (.long x), ad, rfl, rfl, i1, i2, ?_, fun y hy => by cases hy; exact ac_wf_long⟩, i4.F ht'⟩) i4.2.2 hd hlk)
  rw [ht']
  exact i3.moved hW.alike
theorem sd_areturn  {mc ms : Nat} (E : am_E p l R s m meth c D cA base t1 t2 sa q ad0 n0 c0 s0 r) (hmc : r.2.2.1 = c0 + mc) (hms : r.2.2.2 = s0 + ms) (hck : am_ck q hs pc (.areturn, len, ops, v) = true) : am_S p l e R s m args below meth c D cA base q ad0 n0 c0 s0 (am_Q D cA base ad0 n0 r below args s mc ms) r pc (am_1 cal hs J some (.areturn, len, ops, v) k) := by
  obtain ⟨hx, hb, hml, hown, hret, hlk, hnm, hG, hbs, hfr, hlo, htr, had, hrc, hrs⟩ := E
  intro L st M hrun
  obtain ⟨h1, h2⟩ := am_an hck
  obtain ⟨hd, rfl⟩ := am_dk_ok h1
  have h3 : ∃ t, q.2.2.2.1 = some (.object t) := by
    try dsimp only at h2
    split at h2
    · rename_i t ht
      exact ⟨t, ht⟩
    · exact nomatch h2
  obtain ⟨t, ht⟩ := h3
  have h4 : ∃ x, st = [.ref x] ∧ r = (.inl (some (.ref x)), M) := by
    simp only [am_1] at hrun
    split at hrun
    · exact ⟨_, rfl, (Option.some.inj hrun).symm⟩
    · exact nomatch hrun
  obtain ⟨x, rfl, rfl⟩ := h4
  refine ⟨⟨Nat.le_refl _, Nat.le_refl _⟩, fun H locs ls ad cells slots I => ?_⟩
  obtain ⟨i1, i2, i3, i4, i5, i6, i7, i8, i9⟩ := I
  have e1 : cells = mc := by have : M.2.1 = c0 + mc := hmc; omega
  have e2 : slots = ms := by have : M.2.2 = s0 + ms := hms; omega
  subst e1; subst e2
  refine vx_ret (W.aret hx hb (hret.trans ht) (Or.inl ⟨t, rfl⟩) (Or.inr ⟨ad x, rfl⟩) (fun t' ht' hW => ⟨⟨some (.ref x), ad, rfl, rfl, i1, i2, ?_, fun y hy => by cases hy; exact am_ws_h i7⟩, i4.F ht'⟩) i4.2.2 hd hlk)
  rw [ht']
  exact i3.moved hW.alike
theorem sd_return  {mc ms : Nat} (E : am_E p l R s m meth c D cA base t1 t2 sa q ad0 n0 c0 s0 r) (hmc : r.2.2.1 = c0 + mc) (hms : r.2.2.2 = s0 + ms) (hck : am_ck q hs pc (.return_, len, ops, v) = true) : am_S p l e R s m args below meth c D cA base q ad0 n0 c0 s0 (am_Q D cA base ad0 n0 r below args s mc ms) r pc (am_1 cal hs J some (.return_, len, ops, v) k) := by
  obtain ⟨hx, hb, hml, hown, hret, hlk, hnm, hG, hbs, hfr, hlo, htr, had, hrc, hrs⟩ := E
  intro L st M hrun
  obtain ⟨h1, h2⟩ := am_an (show (am_dk q.2.1 pc .return_ 1 len && decide (q.2.2.2.1 = none)) = true from hck)
  obtain ⟨hd, rfl⟩ := am_dk_ok h1
  have h2 := of_decide_eq_true h2
  have h4 : st = [] ∧ r = (.inl none, M) := by
    simp only [am_1] at hrun
    split at hrun
    · exact ⟨rfl, (Option.some.inj hrun).symm⟩
    · exact nomatch hrun
  obtain ⟨rfl, rfl⟩ := h4
  refine ⟨⟨Nat.le_refl _, Nat.le_refl _⟩, fun H locs ls ad cells slots I => ?_⟩
  obtain ⟨i1, i2, i3, i4, i5, i6, i7, i8, i9⟩ := I
  have e1 : cells = mc := by have : M.2.1 = c0 + mc := hmc; omega
  have e2 : slots = ms := by have : M.2.2 = s0 + ms := hms; omega
  subst e1; subst e2
  refine vx_ret (W.vret hx hb (hret.trans h2) (fun t' ht' hW => ⟨⟨none, ad, rfl, rfl, i1, i2, ?_, fun y hy => nomatch hy⟩, i4.F ht'⟩) i4.2.2 hd hlk)
  rw [ht']
  exact i3.moved hW.alike
end SIM3
