/-! what the heap holds of the plain memory: 'ad' says where each of its cells lies -/
def ac (ad : Nat → Nat) : Value → Value
  | .ref k => .ref (ad k)
  | v => v
def ac_wf (n : Nat) (v : Value) : Prop := ∀ a, v = .ref a → a < n
def ac_A (base : Nat) : Nat → Prop := fun q => base ≤ q
def ac_ok (D : va_G) (cA : Nat → ClassId) (base : Nat) (ad : Nat → Nat) (U : State) (H : Heap) (k : Nat) (c : aC) : Prop :=
  (c.1 < 10 → c.2.length = ac_N c.1 ∧ am_ro ≤ k ∧ t_OB (ad k) (D.1 c.1) (ac_N c.1) (D.2 c.1) H (fun j => ac ad (c.2.getD j .null))) ∧
  (10 ≤ c.1 → c.1 < 17 ∧ c.2.length < 2 ^ 31 ∧ (am_ro ≤ k → H[ad k]? = some (arrV (cA c.1) c.2.length (fun j => ac ad (c.2.getD j .null)))) ∧ (k < am_ro → va_T (ac_ty c.1) (ad k) c.2.length (fun j => ac ad (c.2.getD j .null)) (ac_A base) U H))
def ac_R (D : va_G) (cA : Nat → ClassId) (base : Nat) (ad : Nat → Nat) (M : aM) (U : State) (H : Heap) : Prop :=
  (∀ (k : Nat) (c : aC), M.1[k]? = some c → ac_ok D cA base ad U H k c) ∧ (∀ i j : Nat, i < M.1.length → j < M.1.length → am_ro ≤ j → ad i = ad j → i = j) ∧ (∀ k : Nat, am_ro ≤ k → k < M.1.length → base ≤ ad k) ∧
  (∀ (k : Nat) (c : aC), M.1[k]? = some c → ∀ v ∈ c.2, ac_wf M.1.length v) ∧ base ≤ H.size
/-- classes and array classes as the tables have them -/
def ac_Kn (D : va_G) (U : State) : Prop := ∀ ci, ci < 10 → u_Kn U (ac_C ci) (ac_T ci) (ac_N ci) (D.1 ci) (D.2 ci)
def ac_An (cA : Nat → ClassId) (U : State) : Prop := ∀ kd, 10 ≤ kd → kd < 17 → ArrOfT U (cA kd) (ac_ty kd) ∧ va_RA U (cA kd) (ac_ty kd)
theorem ac_Kn.moved {D : va_G} {u U : State} (hvm : u.vm.Alike U.vm) (h : ac_Kn D u) : ac_Kn D U := fun ci hc => u_Kn_moved hvm (h ci hc)
theorem ac_An.moved {cA : Nat → ClassId} {u U : State} (hvm : u.vm.Alike U.vm) (h : ac_An cA u) : ac_An cA U := fun kd h1 h2 => ⟨arrOfT_moved hvm (h kd h1 h2).1, (h kd h1 h2).2.moved hvm⟩
theorem ac_ok.moved {D : va_G} {cA : Nat → ClassId} {base : Nat} {ad : Nat → Nat} {u U : State} {H : Heap} {k : Nat} {c : aC} (hvm : u.vm.Alike U.vm) (h : ac_ok D cA base ad u H k c) : ac_ok D cA base ad U H k c :=
  ⟨h.1, fun h1 => ⟨(h.2 h1).1, (h.2 h1).2.1, (h.2 h1).2.2.1, fun h2 => ((h.2 h1).2.2.2 h2).moved hvm⟩⟩
theorem ac_R.moved {D : va_G} {cA : Nat → ClassId} {base : Nat} {ad : Nat → Nat} {M : aM} {u U : State} {H : Heap} (hvm : u.vm.Alike U.vm) (h : ac_R D cA base ad M u H) : ac_R D cA base ad M U H :=
  ⟨fun k c hc => (h.1 k c hc).moved hvm, h.2⟩
theorem va_T.sameCell {ty : FieldType} {t N : Nat} {f : Nat → Value} {A : Nat → Prop} {U : State} {H H1 : Heap} (h : va_T ty t N f A U H) (hq : H1[t]? = H[t]?) : va_T ty t N f A U H1 := by
  obtain ⟨cell, h1, h2⟩ := h
  exact ⟨cell, hq.trans h1, h2⟩
theorem ac_ok.kept {D : va_G} {cA : Nat → ClassId} {base : Nat} {ad : Nat → Nat} {U : State} {H H1 : Heap} {k : Nat} {c : aC} (h : ac_ok D cA base ad U H k c) (hq : H1[ad k]? = H[ad k]?) : ac_ok D cA base ad U H1 k c :=
  ⟨fun h1 => ⟨(h.1 h1).1, (h.1 h1).2.1, (h.1 h1).2.2.kept hq⟩, fun h1 => ⟨(h.2 h1).1, (h.2 h1).2.1, fun h2 => hq.trans ((h.2 h1).2.2.1 h2), fun h2 => ((h.2 h1).2.2.2 h2).sameCell hq⟩⟩
theorem ac_ext {ad ad' : Nat → Nat} {n : Nat} {v : Value} (h : ∀ k, k < n → ad' k = ad k) (hv : ac_wf n v) : ac ad' v = ac ad v := by
  cases v with
  | ref a => exact congrArg Value.ref (h a (hv a rfl))
  | _ => rfl
theorem ac_wf_null {n : Nat} : ac_wf n .null := fun a h => nomatch h
theorem ac_wf_int {n : Nat} {x : Int32} : ac_wf n (.int x) := fun a h => nomatch h
theorem ac_wf_long {n : Nat} {x : Int64} : ac_wf n (.long x) := fun a h => nomatch h
theorem ac_wf_ref {n a : Nat} (h : a < n) : ac_wf n (.ref a) := fun b e => by cases e; exact h
theorem ac_wf_le {n n' : Nat} {v : Value} (h : ac_wf n v) (hn : n ≤ n') : ac_wf n' v := fun a e => Nat.lt_of_lt_of_le (h a e) hn
theorem ac_wf_getD {n : Nat} {fs : List Value} (h : ∀ v ∈ fs, ac_wf n v) (j : Nat) : ac_wf n (fs.getD j .null) := by
  rw [List.getD_eq_getElem?_getD]
  cases hj : fs[j]? with
  | none => exact ac_wf_null
  | some v => exact h v (List.mem_of_getElem? hj)
theorem ac_ok.ext {D : va_G} {cA : Nat → ClassId} {base : Nat} {ad ad' : Nat → Nat} {U : State} {H : Heap} {k n : Nat} {c : aC} (h : ac_ok D cA base ad U H k c) (he : ∀ k, k < n → ad' k = ad k) (hk : k < n) (hv : ∀ v ∈ c.2, ac_wf n v) : ac_ok D cA base ad' U H k c := by
  have hf : (fun j => ac ad' (c.2.getD j .null)) = (fun j => ac ad (c.2.getD j .null)) := funext fun j => ac_ext he (ac_wf_getD hv j)
  unfold ac_ok
  rw [he k hk, hf]
  exact h
theorem ac_ok.lt {D : va_G} {cA : Nat → ClassId} {base : Nat} {ad : Nat → Nat} {U : State} {H : Heap} {k : Nat} {c : aC} (h : ac_ok D cA base ad U H k c) : ad k < H.size := by
  by_cases h1 : c.1 < 10
  · obtain ⟨-, -, cell, h2, -⟩ := h.1 h1
    exact (Array.getElem?_eq_some_iff.mp h2).1
  · obtain ⟨-, -, h2, h3⟩ := h.2 (Nat.not_lt.mp h1)
    by_cases h4 : am_ro ≤ k
    · exact (Array.getElem?_eq_some_iff.mp (h2 h4)).1
    · obtain ⟨cell, h5, -⟩ := h3 (Nat.not_le.mp h4)
      exact (Array.getElem?_eq_some_iff.mp h5).1
theorem ac_R.lt {D : va_G} {cA : Nat → ClassId} {base : Nat} {ad : Nat → Nat} {M : aM} {U : State} {H : Heap} (h : ac_R D cA base ad M U H) {k : Nat} (hk : k < M.1.length) : ad k < H.size := (h.1 k _ (List.getElem?_eq_getElem hk)).lt
theorem am_rd_iff {M : aM} {a ci k : Nat} {v : Value} : am_rd M a ci k = some v ↔ ∃ fs, M.1[a]? = some (ci, fs) ∧ fs[k]? = some v := by
  unfold am_rd
  constructor
  · intro h
    cases hc : M.1[a]? with
    | none => rw [hc] at h; exact nomatch h
    | some c =>
      obtain ⟨c1, fs⟩ := c
      rw [hc] at h
      have g : (bif Nat.beq c1 ci then fs[k]? else none) = some v := h
      cases hb : Nat.beq c1 ci with
      | false => rw [hb] at g; exact nomatch g
      | true =>
        rw [hb] at g
        have := Nat.eq_of_beq_eq_true hb
        subst this
        exact ⟨fs, rfl, g⟩
  · rintro ⟨fs, h1, h2⟩
    rw [h1]
    show (bif Nat.beq ci ci then fs[k]? else none) = some v
    rw [Nat.beq_refl]
    exact h2
theorem am_ln_iff {M : aM} {a ci n : Nat} : am_ln M a ci = some n ↔ ∃ fs, M.1[a]? = some (ci, fs) ∧ fs.length = n := by
  unfold am_ln
  constructor
  · intro h
    cases hc : M.1[a]? with
    | none => rw [hc] at h; exact nomatch h
    | some c =>
      obtain ⟨c1, fs⟩ := c
      rw [hc] at h
      have g : (bif Nat.beq c1 ci then some fs.length else none) = some n := h
      cases hb : Nat.beq c1 ci with
      | false => rw [hb] at g; exact nomatch g
      | true =>
        rw [hb] at g
        have := Nat.eq_of_beq_eq_true hb
        subst this
        exact ⟨fs, rfl, Option.some.inj g⟩
  · rintro ⟨fs, h1, h2⟩
    rw [h1]
    show (bif Nat.beq ci ci then some fs.length else none) = some n
    rw [Nat.beq_refl, h2]
    rfl
theorem am_wr_iff {M M' : aM} {a ci k : Nat} {v : Value} : am_wr M a ci k v = some M' ↔ ∃ fs, M.1[a]? = some (ci, fs) ∧ am_ro ≤ a ∧ k < fs.length ∧ M' = (M.1.set a (ci, fs.set k v), M.2) := by
  unfold am_wr
  constructor
  · intro h
    cases hc : M.1[a]? with
    | none => rw [hc] at h; exact nomatch h
    | some c =>
      obtain ⟨c1, fs⟩ := c
      rw [hc] at h
      have g : (bif Nat.beq c1 ci && (Nat.ble am_ro a && Nat.blt k fs.length) then some (M.1.set a (c1, fs.set k v), M.2) else none) = some M' := h
      cases hb : (Nat.beq c1 ci && (Nat.ble am_ro a && Nat.blt k fs.length)) with
      | false => rw [hb] at g; exact nomatch g
      | true =>
        rw [hb] at g
        simp only [Bool.and_eq_true] at hb
        have h1 := Nat.eq_of_beq_eq_true hb.1
        subst h1
        exact ⟨fs, rfl, Nat.le_of_ble_eq_true hb.2.1, Nat.le_of_ble_eq_true hb.2.2, (Option.some.inj g).symm⟩
  · rintro ⟨fs, h1, h2, h3, rfl⟩
    rw [h1]
    show (bif Nat.beq ci ci && (Nat.ble am_ro a && Nat.blt k fs.length) then some (M.1.set a (ci, fs.set k v), M.2) else none) = _
    have e1 : Nat.blt k fs.length = true := Nat.ble_eq_true_of_le h3
    rw [Nat.beq_refl, Nat.ble_eq_true_of_le h2, e1]
    rfl
theorem am_getD {fs : List Value} {k : Nat} {v : Value} (h : fs[k]? = some v) : fs.getD k .null = v := by
  rw [List.getD_eq_getElem?_getD, h]; rfl
section
variable {D : va_G} {cA : Nat → ClassId} {base : Nat} {ad : Nat → Nat} {M : aM} {U : State} {H : Heap}
theorem ac_rdo (hR : ac_R D cA base ad M U H) {a ci k : Nat} {v : Value} (h : am_rd M a ci k = some v) (hc : ci < 10) :
    ∃ cell, H[ad a]? = some cell ∧ cell.cls = D.1 ci ∧ cell.vm = .none ∧ k < ac_N ci ∧ cell.slots[D.2 ci k]? = some (ac ad v) ∧ ac_wf M.1.length v ∧ a < M.1.length := by
  obtain ⟨fs, h1, h2⟩ := am_rd_iff.mp h
  obtain ⟨hl, -, cell, q1, q2, q3, q4⟩ := (hR.1 a _ h1).1 hc
  have hk : k < ac_N ci := by rw [← hl]; exact (List.getElem?_eq_some_iff.mp h2).1
  refine ⟨cell, q1, q2, q3, hk, ?_, hR.2.2.2.1 a _ h1 v (List.mem_of_getElem? h2), (List.getElem?_eq_some_iff.mp h1).1⟩
  rw [q4 k hk]
  show some (ac ad (fs.getD k .null)) = _
  rw [am_getD h2]
theorem ac_arr (hR : ac_R D cA base ad M U H) (hA : ac_An cA U) {a kd : Nat} {fs : List Value} (h1 : M.1[a]? = some (kd, fs)) (hc : 10 ≤ kd) :
    ∃ cell, H[ad a]? = some cell ∧ U.isArrayOf cell (ac_ty kd) ∧ cell.vm ≠ .unknown ∧ fs.length ≤ cell.slots.size ∧ cell.slots.size.toInt32 = Int32.ofNat fs.length ∧ ∀ j, j < fs.length → cell.slots[j]? = some (ac ad (fs.getD j .null)) := by
  obtain ⟨h17, hl, h2, h3⟩ := (hR.1 a _ h1).2 hc
  by_cases h4 : am_ro ≤ a
  · refine ⟨_, h2 h4, (hA kd hc h17).1 _ _, (fun q => by cases q), ?_, ?_, fun j hj => ?_⟩
    · rw [arrV_size]; exact Nat.le_refl _
    · rw [arrV_size]
    · rw [arrV_read _ _ hj]
  · obtain ⟨cell, g1, g2, g3, g4, g5, g6, -⟩ := h3 (Nat.not_le.mp h4)
    exact ⟨cell, g1, g2, g3, g4, g5, g6⟩
theorem ac_rda (hR : ac_R D cA base ad M U H) (hA : ac_An cA U) {a kd k : Nat} {v : Value} (h : am_rd M a kd k = some v) (hc : 10 ≤ kd) :
    ∃ cell, H[ad a]? = some cell ∧ U.isArrayOf cell (ac_ty kd) ∧ cell.vm ≠ .unknown ∧ k < cell.slots.size ∧ cell.slots[k]? = some (ac ad v) ∧ ac_wf M.1.length v := by
  obtain ⟨fs, h1, h2⟩ := am_rd_iff.mp h
  obtain ⟨cell, g1, g2, g3, g4, -, g6⟩ := ac_arr hR hA h1 hc
  have hk := (List.getElem?_eq_some_iff.mp h2).1
  refine ⟨cell, g1, g2, g3, Nat.lt_of_lt_of_le hk g4, ?_, hR.2.2.2.1 a _ h1 v (List.mem_of_getElem? h2)⟩
  rw [g6 k hk, am_getD h2]
/-- one cell is replaced -/
theorem ac_R.set (hR : ac_R D cA base ad M U H) {a ci : Nat} {fs fs' : List Value} (hro : am_ro ≤ a) (ha : M.1[a]? = some (ci, fs)) (hv : ∀ v ∈ fs', ac_wf M.1.length v) {H' : Heap} (hsz : H'.size = H.size) (ho : ∀ q, q ≠ ad a → H'[q]? = H[q]?)
    (hn : ac_ok D cA base ad U H' a (ci, fs')) : ac_R D cA base ad (M.1.set a (ci, fs'), M.2) U H' := by
  obtain ⟨r1, r2, r3, r4, r5⟩ := hR
  have hal : a < M.1.length := (List.getElem?_eq_some_iff.mp ha).1
  have hl : (M.1.set a (ci, fs')).length = M.1.length := List.length_set
  refine ⟨fun k c hc => ?_, ?_, ?_, fun k c hc => ?_, by rw [hsz]; exact r5⟩
  · have hc : (M.1.set a (ci, fs'))[k]? = some c := hc
    rw [List.getElem?_set] at hc
    by_cases e : a = k
    · subst e
      rw [if_pos rfl, if_pos hal] at hc
      cases hc
      exact hn
    · rw [if_neg e] at hc
      have hk := (List.getElem?_eq_some_iff.mp hc).1
      exact (r1 k c hc).kept (ho _ (fun q => e (r2 k a hk hal hro q).symm))
  · show ∀ i j, i < (M.1.set a (ci, fs')).length → j < (M.1.set a (ci, fs')).length → _
    rw [hl]; exact r2
  · show ∀ k, am_ro ≤ k → k < (M.1.set a (ci, fs')).length → _
    rw [hl]; exact r3
  · have hc : (M.1.set a (ci, fs'))[k]? = some c := hc
    show ∀ v ∈ c.2, ac_wf (M.1.set a (ci, fs')).length v
    rw [hl]
    rw [List.getElem?_set] at hc
    by_cases e : a = k
    · subst e
      rw [if_pos rfl, if_pos hal] at hc
      cases hc
      exact hv
    · rw [if_neg e] at hc
      exact r4 k c hc
end
