/-! runs without a counter: the limit of the counted ones -/
section
variable {β γ : Type}
theorem an_I1 (f : β → Option γ) (st : List Value) (g : Int32 → List Value → Option β) : (am_I1 st g).bind f = am_I1 st (fun x r => (g x r).bind f) := by
  unfold am_I1; split <;> rfl
theorem an_I2 (f : β → Option γ) (st : List Value) (g : Int32 → Int32 → List Value → Option β) : (am_I2 st g).bind f = am_I2 st (fun x y r => (g x y r).bind f) := by
  unfold am_I2; split <;> rfl
theorem an_J1 (f : β → Option γ) (st : List Value) (g : Int64 → List Value → Option β) : (am_J1 st g).bind f = am_J1 st (fun x r => (g x r).bind f) := by
  unfold am_J1; split <;> rfl
theorem an_J2 (f : β → Option γ) (st : List Value) (g : Int64 → Int64 → List Value → Option β) : (am_J2 st g).bind f = am_J2 st (fun x y r => (g x y r).bind f) := by
  unfold am_J2; split <;> rfl
theorem an_JI (f : β → Option γ) (st : List Value) (g : Int64 → Int32 → List Value → Option β) : (am_JI st g).bind f = am_JI st (fun x y r => (g x y r).bind f) := by
  unfold am_JI; split <;> rfl
theorem an_A1 (f : β → Option γ) (st : List Value) (g : Nat → List Value → Option β) : (am_A1 st g).bind f = am_A1 st (fun x r => (g x r).bind f) := by
  unfold am_A1; split <;> rfl
theorem an_lI (f : β → Option γ) (o : Option Value) (g : Int32 → Option β) : (am_lI o g).bind f = am_lI o (fun x => (g x).bind f) := by
  unfold am_lI; split <;> rfl
theorem an_lJ (f : β → Option γ) (o : Option Value) (g : Int64 → Option β) : (am_lJ o g).bind f = am_lJ o (fun x => (g x).bind f) := by
  unfold am_lJ; split <;> rfl
theorem an_lA (f : β → Option γ) (o : Option Value) (g : Nat → Option β) : (am_lA o g).bind f = am_lA o (fun x => (g x).bind f) := by
  unfold am_lA; split <;> rfl
theorem an_if (f : β → Option γ) (b : Bool) (x : Option β) : (cond b x none).bind f = cond b (x.bind f) none := by cases b <;> rfl
theorem an_if2 (f : β → Option γ) (b : Bool) (x y : Option β) : (cond b x y).bind f = cond b (x.bind f) (y.bind f) := by cases b <;> rfl
theorem an_ite (f : β → Option γ) (p : Prop) [Decidable p] (x y : Option β) : (if p then x else y).bind f = if p then x.bind f else y.bind f := by split <;> rfl
theorem an_dp (f : β → Option γ) (st : List Value) (g : Value → List Value → Option β) : (am_dp st g).bind f = am_dp st (fun x r => (g x r).bind f) := by
  unfold am_dp; split
  · exact an_if f _ _
  · rfl
theorem an_jp (f : β → Option γ) (J : Nat → aL → List Value → aM → Option β) (o : List Nat) (L : aL) (st : List Value) (M : aM) : (am_jp J o L st M).bind f = am_jp (fun a b c d => (J a b c d).bind f) o L st M := by
  unfold am_jp; split <;> rfl
theorem an_sw (f : β → Option γ) (J : Nat → aL → List Value → aM → Option β) (x : Int32) (d : Nat) (lv : List Nat) (L : aL) (st : List Value) (M : aM) (q : List Nat) : ∀ n, (am_sw J x d lv L st M n q).bind f = am_sw (fun a b c d => (J a b c d).bind f) x d lv L st M n q := by
  induction q with
  | nil => intro n; rfl
  | cons t r ih => intro n; simp only [am_sw, an_ite, ih]
theorem an_cx (f : β → Option γ) (J : Nat → aL → List Value → aM → Option β) (h : aH) (e : Nat) (L : aL) (M : aM) : (am_cx J h e L M).bind f = am_cx (fun a b c d => (J a b c d).bind f) h e L M := by
  induction h with
  | nil => rfl
  | cons t r ih => simp only [am_cx, an_if2, ih]
theorem an_ct (f : β → Option γ) (J : Nat → aL → List Value → aM → Option β) (R : aR → Option β) (h : aH) (e : Nat) (L : aL) (M : aM) : (am_ct J R h e L M).bind f = am_ct (fun a b c d => (J a b c d).bind f) (fun r => (R r).bind f) h e L M := by
  cases h with
  | nil => rfl
  | cons t r => exact an_cx f J (t :: r) e L M
theorem an_cV (f : β → Option γ) (o : Option aR) (k : aM → Option β) (x : Nat → aM → Option β) : (am_cV o k x).bind f = am_cV o (fun a => (k a).bind f) (fun a b => (x a b).bind f) := by
  unfold am_cV; split <;> rfl
theorem an_cI (f : β → Option γ) (o : Option aR) (k : Int32 → aM → Option β) (x : Nat → aM → Option β) : (am_cI o k x).bind f = am_cI o (fun a b => (k a b).bind f) (fun a b => (x a b).bind f) := by
  unfold am_cI; split <;> rfl
theorem an_cJ (f : β → Option γ) (o : Option aR) (k : Int64 → aM → Option β) (x : Nat → aM → Option β) : (am_cJ o k x).bind f = am_cJ o (fun a b => (k a b).bind f) (fun a b => (x a b).bind f) := by
  unfold am_cJ; split <;> rfl
theorem an_cA (f : β → Option γ) (o : Option aR) (k : Nat → aM → Option β) (x : Nat → aM → Option β) : (am_cA o k x).bind f = am_cA o (fun a b => (k a b).bind f) (fun a b => (x a b).bind f) := by
  unfold am_cA; split <;> rfl
theorem an_iv (f : β → Option γ) (cal : aY) (hs : List aH) (J : Nat → aL → List Value → aM → Option β) (R : aR → Option β) (o : List Nat) (k : aL → List Value → aM → Option β) (L : aL) (st : List Value) (M : aM) :
    (am_iv cal hs J R o k L st M).bind f = am_iv cal hs (fun a b c d => (J a b c d).bind f) (fun r => (R r).bind f) o (fun a b c => (k a b c).bind f) L st M := by
  unfold am_iv
  split
  · rw [an_if]
    congr 1
    split <;> simp only [an_cI, an_cJ, an_cA, an_cV, an_ct]
  · rfl
set_option maxHeartbeats 4000000 in
theorem an_1 (f : β → Option γ) (cal : aY) (hs : List aH) (J : Nat → aL → List Value → aM → Option β) (R : aR → Option β) (i : aI) (k : aL → List Value → aM → Option β) (L : aL) (st : List Value) (M : aM) :
    (am_1 cal hs J R i k L st M).bind f = am_1 cal hs (fun a b c d => (J a b c d).bind f) (fun r => (R r).bind f) i (fun a b c => (k a b c).bind f) L st M := by
  obtain ⟨ins, len, ops, v⟩ := i
  cases ins
  case ifCond c off => cases c <;> simp only [am_1, an_I1, an_ite, an_jp]
  case if_icmp c off => cases c <;> simp only [am_1, an_I2, an_ite, an_jp]
  case tableswitch =>
    simp only [am_1, an_I1]
    congr 1; funext x r
    split <;> simp only [an_sw, Option.bind_none]
  case getfield =>
    simp only [am_1, an_A1]
    congr 1; funext x r
    split
    · split <;> simp only [Option.bind_assoc]
    · rfl
  case putfield =>
    simp only [am_1]
    split
    · split
      · simp only [an_if, Option.bind_assoc]
      · rfl
    · rfl
  case new =>
    simp only [am_1]
    split
    · simp only [an_if2, Option.bind_none]
    · rfl
  case invokestatic =>
    simp only [am_1]
    split
    · simp only [an_I1, an_A1, an_if, an_ite, Option.bind_assoc, Option.bind_none]
    · simp only [an_I1, an_if]
    · exact an_iv f cal hs J R _ k L st M
  case invokespecial =>
    simp only [am_1]
    split
    · simp only [an_A1, an_if]
    · split
      · simp only [an_if, an_cV, Option.bind_none]
      · rfl
    · rfl
  case invokevirtual =>
    simp only [am_1]
    split
    · split
      · simp only [Option.bind_assoc, an_iv]
      · rfl
    · rfl
  case ireturn =>
    simp only [am_1]
    split
    · rw [an_if]
    · rfl
  case lreturn => simp only [am_1]; split <;> rfl
  case areturn => simp only [am_1]; split <;> rfl
  case return_ => simp only [am_1]; split <;> rfl
  all_goals first
    | rfl
    | (simp only [am_1, an_I1, an_I2, an_J1, an_J2, an_JI, an_A1, an_lI, an_lJ, an_lA, an_dp, an_jp, an_ite, an_if, Option.bind_assoc, Option.bind_none]; done)
theorem an_go (f : β → Option γ) (cal : aY) (hs : List aH) (J : Nat → aL → List Value → aM → Option β) (R : aR → Option β) (is : List aI) : ∀ (L : aL) (st : List Value) (M : aM),
    (am_go cal hs J R is L st M).bind f = am_go cal hs (fun a b c d => (J a b c d).bind f) (fun r => (R r).bind f) is L st M := by
  induction is with
  | nil => intro L st M; rfl
  | cons i r ih =>
    intro L st M
    show (am_1 cal hs J R i (am_go cal hs J R r) L st M).bind f = am_1 cal hs _ _ i (am_go cal hs _ _ r) L st M
    rw [an_1]
    congr 1
    funext a b c
    exact ih a b c
end
def am_oo (cal : aY) (hs : List aH) (is : List aI) (L : aL) (st : List Value) (M : aM) : Option aO := am_go cal hs (fun pc L st M => some (.inl (pc, L, st, M))) (fun r => some (.inr r)) is L st M
def am_nx (J : Nat → aL → List Value → aM → Option aR) : aO → Option aR
  | .inl q => J q.1 q.2.1 q.2.2.1 q.2.2.2
  | .inr r => some r
theorem am_oo_eq (cal : aY) (hs : List aH) (J : Nat → aL → List Value → aM → Option aR) (is : List aI) (L : aL) (st : List Value) (M : aM) : am_go cal hs J some is L st M = (am_oo cal hs is L st M).bind (am_nx J) := by
  unfold am_oo
  rw [an_go]
  rfl
theorem am_ex_mono {cal : aY} {K : aK} : ∀ (n : Nat) (pc : Nat) (L : aL) (st : List Value) (M : aM) (r : aR), am_ex cal K n pc L st M = some r → am_ex cal K (n + 1) pc L st M = some r := by
  intro n
  induction n with
  | zero => intro pc L st M r h; exact nomatch h
  | succ n ih =>
    intro pc L st M r h
    have h1 : am_go cal K.2.1 (am_ex cal K n) some (am_bk K.1 pc) L st M = some r := h
    show am_go cal K.2.1 (am_ex cal K (n + 1)) some (am_bk K.1 pc) L st M = some r
    rw [am_oo_eq] at h1 ⊢
    cases ho : am_oo cal K.2.1 (am_bk K.1 pc) L st M with
    | none => rw [ho] at h1; exact nomatch h1
    | some o =>
      rw [ho] at h1
      cases o with
      | inl q => exact ih _ _ _ _ _ h1
      | inr q => exact h1
theorem am_ex_le {cal : aY} {K : aK} {n n' pc : Nat} {L : aL} {st : List Value} {M : aM} {r : aR} (h : am_ex cal K n pc L st M = some r) (hn : n ≤ n') : am_ex cal K n' pc L st M = some r := by
  induction hn with
  | refl => exact h
  | step _ ih => exact am_ex_mono _ _ _ _ _ _ ih
noncomputable def am_X (cal : aY) (K : aK) (pc : Nat) (L : aL) (st : List Value) (M : aM) : Option aR := @dite _ (∃ r, ∃ n, am_ex cal K n pc L st M = some r) (Classical.propDecidable _) (fun h => some h.choose) (fun _ => none)
theorem am_X_iff {cal : aY} {K : aK} {pc : Nat} {L : aL} {st : List Value} {M : aM} {r : aR} : am_X cal K pc L st M = some r ↔ ∃ n, am_ex cal K n pc L st M = some r := by
  unfold am_X
  by_cases h : ∃ r, ∃ n, am_ex cal K n pc L st M = some r
  · rw [dif_pos h]
    obtain ⟨n, hn⟩ := h.choose_spec
    constructor
    · intro e; exact ⟨n, by rw [hn]; exact e⟩
    · rintro ⟨n', hn'⟩
      have h1 := am_ex_le hn (Nat.le_max_left n n')
      have h2 := am_ex_le hn' (Nat.le_max_right n n')
      rw [h1] at h2
      exact h2
  · rw [dif_neg h]
    constructor
    · intro e; exact nomatch e
    · rintro ⟨n', hn'⟩; exact absurd ⟨r, n', hn'⟩ h
theorem am_X_eq (cal : aY) (K : aK) (pc : Nat) (L : aL) (st : List Value) (M : aM) : am_X cal K pc L st M = am_go cal K.2.1 (am_X cal K) some (am_bk K.1 pc) L st M := by
  apply Option.ext
  intro r
  rw [am_oo_eq]
  constructor
  · intro h
    obtain ⟨n, hn⟩ := am_X_iff.mp h
    cases n with
    | zero => exact nomatch hn
    | succ n =>
      have h1 : am_go cal K.2.1 (am_ex cal K n) some (am_bk K.1 pc) L st M = some r := hn
      rw [am_oo_eq] at h1
      cases ho : am_oo cal K.2.1 (am_bk K.1 pc) L st M with
      | none => rw [ho] at h1; exact nomatch h1
      | some o =>
        rw [ho] at h1
        cases o with
        | inl q => exact am_X_iff.mpr ⟨n, h1⟩
        | inr q => exact h1
  · intro h
    cases ho : am_oo cal K.2.1 (am_bk K.1 pc) L st M with
    | none => rw [ho] at h; exact nomatch h
    | some o =>
      rw [ho] at h
      cases o with
      | inl q =>
        obtain ⟨n, hn⟩ := am_X_iff.mp (show am_X cal K q.1 q.2.1 q.2.2.1 q.2.2.2 = some r from h)
        refine am_X_iff.mpr ⟨n + 1, ?_⟩
        show am_go cal K.2.1 (am_ex cal K n) some (am_bk K.1 pc) L st M = some r
        rw [am_oo_eq, ho]
        exact hn
      | inr q =>
        refine am_X_iff.mpr ⟨1, ?_⟩
        show am_go cal K.2.1 (am_ex cal K 0) some (am_bk K.1 pc) L st M = some r
        rw [am_oo_eq, ho]
        exact h
