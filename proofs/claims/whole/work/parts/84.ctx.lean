/-! what stays true along a run -/
def ac_G (D : va_G) (cA : Nat → ClassId) (base : Nat) (t1 t2 : Nat) (sa : Nat → Nat) (U : State) (H : Heap) : Prop :=
  (∀ w ∈ lw_tbl, am_okw w = true → w.before #[] U = true) ∧ ac_Kn D U ∧ ac_An cA U ∧
  va_Z "ActorMachine$Term" "TENS" "[I" (.ref t1) (ac_A base) U H ∧ va_Z "ActorMachine$Term" "DEEPER" "[I" (.ref t2) (ac_A base) U H ∧
  vx_Zq Bundle.tN "UNASSIGNED_STACK" Bundle.steD (ac_A base) U H ∧ vx_Zq Bundle.tN "SUPPRESSED_SENTINEL" Bundle.listD (ac_A base) U H ∧
  (∀ q ∈ am_str, vk_R "ActorMachine" q.1 q.2 (sa q.1) U) ∧ (∀ e e' : Nat, e < 5 → e' < 5 → e ≠ e' → va_Nc (ac_E e) (ac_E e') U)
section
variable {D : va_G} {cA : Nat → ClassId} {base t1 t2 : Nat} {sa : Nat → Nat}
theorem ac_G.go {s U : State} {H H1 : Heap} (hW : s.WarmedH U.vm) (hq : ∀ a : Nat, a < H.size → ¬ ac_A base a → H1[a]? = H[a]?) (h : ac_G D cA base t1 t2 sa s H) : ac_G D cA base t1 t2 sa U H1 := by
  obtain ⟨g1, g2, g3, g4, g5, g6, g7, g8, g9⟩ := h
  exact ⟨fun w hw ho => am_okw_at hW ho (g1 w hw ho), g2.moved hW.alike, g3.moved hW.alike, (g4.kept hq).moved hW.alike, (g5.kept hq).moved hW.alike, (g6.kept hq).moved hW.alike, (g7.kept hq).moved hW.alike,
    fun q hq' => (g8 q hq').warm hW, fun e e' h1 h2 h3 => (g9 e e' h1 h2 h3).moved hW.alike⟩
theorem ac_G.word {s : State} {H : Heap} (h : ac_G D cA base t1 t2 sa s H) {pos : Nat} {w : Cond} (hw : am_at pos w = true) (args : Array Value) : w.before args s = true := by
  simp only [am_at, Bool.and_eq_true, decide_eq_true_eq] at hw
  exact am_okw_at (State.WarmedH.refl s) hw.2 (h.1 w (List.mem_of_getElem? hw.1) hw.2)
end
/-! reading the machine's own rows backwards -/
section
variable {β : Type} {z : β}
theorem iv_I1 {st : List Value} {f : Int32 → List Value → Option β} (h : am_I1 st f = some z) : ∃ x r, st = .int x :: r ∧ f x r = some z := by
  unfold am_I1 at h; split at h
  · exact ⟨_, _, rfl, h⟩
  · exact nomatch h
theorem iv_I2 {st : List Value} {f : Int32 → Int32 → List Value → Option β} (h : am_I2 st f = some z) : ∃ x y r, st = .int y :: .int x :: r ∧ f x y r = some z := by
  unfold am_I2 at h; split at h
  · exact ⟨_, _, _, rfl, h⟩
  · exact nomatch h
theorem iv_J1 {st : List Value} {f : Int64 → List Value → Option β} (h : am_J1 st f = some z) : ∃ x r, st = .long x :: r ∧ f x r = some z := by
  unfold am_J1 at h; split at h
  · exact ⟨_, _, rfl, h⟩
  · exact nomatch h
theorem iv_J2 {st : List Value} {f : Int64 → Int64 → List Value → Option β} (h : am_J2 st f = some z) : ∃ x y r, st = .long y :: .long x :: r ∧ f x y r = some z := by
  unfold am_J2 at h; split at h
  · exact ⟨_, _, _, rfl, h⟩
  · exact nomatch h
theorem iv_JI {st : List Value} {f : Int64 → Int32 → List Value → Option β} (h : am_JI st f = some z) : ∃ x y r, st = .int y :: .long x :: r ∧ f x y r = some z := by
  unfold am_JI at h; split at h
  · exact ⟨_, _, _, rfl, h⟩
  · exact nomatch h
theorem iv_A1 {st : List Value} {f : Nat → List Value → Option β} (h : am_A1 st f = some z) : ∃ x r, st = .ref x :: r ∧ f x r = some z := by
  unfold am_A1 at h; split at h
  · exact ⟨_, _, rfl, h⟩
  · exact nomatch h
theorem iv_lI {o : Option Value} {f : Int32 → Option β} (h : am_lI o f = some z) : ∃ x, o = some (.int x) ∧ f x = some z := by
  unfold am_lI at h; split at h
  · exact ⟨_, rfl, h⟩
  · exact nomatch h
theorem iv_lJ {o : Option Value} {f : Int64 → Option β} (h : am_lJ o f = some z) : ∃ x, o = some (.long x) ∧ f x = some z := by
  unfold am_lJ at h; split at h
  · exact ⟨_, rfl, h⟩
  · exact nomatch h
theorem iv_lA {o : Option Value} {f : Nat → Option β} (h : am_lA o f = some z) : ∃ x, o = some (.ref x) ∧ f x = some z := by
  unfold am_lA at h; split at h
  · exact ⟨_, rfl, h⟩
  · exact nomatch h
theorem iv_dp {st : List Value} {f : Value → List Value → Option β} (h : am_dp st f = some z) : ∃ v r, st = v :: r ∧ v.category = 1 ∧ f v r = some z := by
  unfold am_dp at h; split at h
  · rename_i v r
    cases hb : Nat.beq v.category 1 with
    | false => rw [hb] at h; exact nomatch h
    | true => rw [hb] at h; exact ⟨v, r, rfl, Nat.eq_of_beq_eq_true hb, h⟩
  · exact nomatch h
theorem iv_b {α : Type} {o : Option α} {f : α → Option β} (h : o.bind f = some z) : ∃ x, o = some x ∧ f x = some z := by
  cases o with
  | none => exact nomatch h
  | some x => exact ⟨x, rfl, h⟩
theorem iv_c {b : Bool} {x : Option β} (h : (bif b then x else none) = some z) : b = true ∧ x = some z := by
  cases b with
  | false => exact nomatch h
  | true => exact ⟨rfl, h⟩
theorem iv_n {p : Prop} {hp : Decidable p} {x : Option β} (h : (if p then none else x) = some z) : ¬ p ∧ x = some z := by
  split at h
  · exact nomatch h
  · rename_i hn; exact ⟨hn, h⟩
theorem iv_ix {i : Int32} {j : Nat} (h : am_ix i = some j) : ¬ i < 0 ∧ i.toNatClampNeg = j := by
  unfold am_ix at h
  split at h
  · exact nomatch h
  · rename_i hn; exact ⟨hn, Option.some.inj h⟩
end
theorem iv_rI {M : aM} {a ci k : Nat} {x : Int32} (h : am_rI M a ci k = some x) : am_rd M a ci k = some (.int x) := by
  obtain ⟨v, h1, h2⟩ := iv_b h
  cases v <;> first | (cases h2; exact h1) | exact nomatch h2
theorem iv_rJ {M : aM} {a ci k : Nat} {x : Int64} (h : am_rJ M a ci k = some x) : am_rd M a ci k = some (.long x) := by
  obtain ⟨v, h1, h2⟩ := iv_b h
  cases v <;> first | (cases h2; exact h1) | exact nomatch h2
theorem iv_rA {M : aM} {a ci k : Nat} {x : Nat} (h : am_rA M a ci k = some x) : am_rd M a ci k = some (.ref x) := by
  obtain ⟨v, h1, h2⟩ := iv_b h
  cases v <;> first | (cases h2; exact h1) | exact nomatch h2
theorem am_ld_mem {L : aL} {i : Nat} {v : Value} (h : am_ld L i = some v) : (i, v) ∈ L := by
  induction L with
  | nil => exact nomatch h
  | cons q r ih =>
    have h : (bif Nat.beq q.1 i then some q.2 else am_ld r i) = some v := h
    cases hb : Nat.beq q.1 i with
    | true =>
      rw [hb] at h
      have e1 := Nat.eq_of_beq_eq_true hb
      have e2 : q.2 = v := Option.some.inj h
      subst e1; subst e2
      exact List.mem_cons_self
    | false => rw [hb] at h; exact List.mem_cons_of_mem _ (ih h)
theorem am_pj_mem {lv : List Nat} {L : aL} {q : Nat × Value} (h : q ∈ am_pj lv L) : q ∈ L := by
  induction lv with
  | nil => exact nomatch h
  | cons i r ih =>
    unfold am_pj at h
    split at h
    · rename_i v hv
      rcases List.mem_cons.mp h with e | h
      · rw [e]; exact am_ld_mem hv
      · exact ih h
    · exact ih h
theorem ac_cat (ad : Nat → Nat) (v : Value) : (ac ad v).category = v.category := by cases v <;> rfl
/-- the locals as the frame has them -/
def am_lc (ad : Nat → Nat) (L : aL) : List (Nat × Value) := L.map (fun q => (q.1, ac ad q.2))
theorem am_lc_s1 (ad : Nat → Nat) (L : aL) (i : Nat) (v : Value) : (i, ac ad v) :: (am_lc ad L).filter (fun q => !(q.1 == i) && !(q.1 + 1 == i && q.2.category == 2)) = am_lc ad (am_s1 L i v) := by
  unfold am_lc am_s1
  rw [List.filter_map]
  simp only [List.map_cons]
  congr 2
  apply List.filter_congr
  intro q _
  simp only [Function.comp, ac_cat]
theorem am_lc_s2 (ad : Nat → Nat) (L : aL) (i : Nat) (v : Value) : (i, ac ad v) :: (am_lc ad L).filter (fun q => !(q.1 == i) && (!(q.1 == i + 1) && !(q.1 + 1 == i && q.2.category == 2))) = am_lc ad (am_s2 L i v) := by
  unfold am_lc am_s2
  rw [List.filter_map]
  simp only [List.map_cons]
  congr 2
  apply List.filter_congr
  intro q _
  simp only [Function.comp, ac_cat]
theorem am_lc_at {ls : Array Slot} {nL : Nat} {ad : Nat → Nat} {L : aL} (h : lv_has ls nL (am_lc ad L)) {i : Nat} {v : Value} (hv : am_ld L i = some v) : ls[i]? = some (.val (ac ad v)) := h.2.2 (i, ac ad v) (List.mem_map.mpr ⟨_, am_ld_mem hv, rfl⟩)
theorem am_lc_pj {ls : Array Slot} {nL : Nat} {ad : Nat → Nat} {L : aL} (h : lv_has ls nL (am_lc ad L)) (lv : List Nat) : lv_has ls nL (am_lc ad (am_pj lv L)) := by
  refine ⟨h.1, h.2.1, fun q hq => ?_⟩
  obtain ⟨q0, h0, rfl⟩ := List.mem_map.mp hq
  exact h.2.2 _ (List.mem_map.mpr ⟨q0, am_pj_mem h0, rfl⟩)
def am_wl (n : Nat) (L : aL) : Prop := ∀ q ∈ L, ac_wf n q.2
def am_ws (n : Nat) (st : List Value) : Prop := ∀ v ∈ st, ac_wf n v
theorem am_wl_pj {n : Nat} {L : aL} (h : am_wl n L) (lv : List Nat) : am_wl n (am_pj lv L) := fun q hq => h q (am_pj_mem hq)
theorem am_wl_s1 {n : Nat} {L : aL} {i : Nat} {v : Value} (h : am_wl n L) (hv : ac_wf n v) : am_wl n (am_s1 L i v) := fun q hq => by
  rcases List.mem_cons.mp hq with e | h1
  · rw [e]; exact hv
  · exact h q (List.mem_filter.mp h1).1
theorem am_wl_s2 {n : Nat} {L : aL} {i : Nat} {v : Value} (h : am_wl n L) (hv : ac_wf n v) : am_wl n (am_s2 L i v) := fun q hq => by
  rcases List.mem_cons.mp hq with e | h1
  · rw [e]; exact hv
  · exact h q (List.mem_filter.mp h1).1
theorem am_ws_c {n : Nat} {v : Value} {st : List Value} (hv : ac_wf n v) (h : am_ws n st) : am_ws n (v :: st) := List.forall_mem_cons.mpr ⟨hv, h⟩
theorem am_ws_t {n : Nat} {v : Value} {st : List Value} (h : am_ws n (v :: st)) : am_ws n st := (List.forall_mem_cons.mp h).2
theorem am_ws_h {n : Nat} {v : Value} {st : List Value} (h : am_ws n (v :: st)) : ac_wf n v := (List.forall_mem_cons.mp h).1
theorem am_ld_wf {n : Nat} {L : aL} {i : Nat} {v : Value} (h : am_wl n L) (hv : am_ld L i = some v) : ac_wf n v := h (i, v) (am_ld_mem hv)
