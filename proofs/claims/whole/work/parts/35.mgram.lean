/-! THE GRAMMAR OF THE MODEL: a machine of states -/
def isD (c : Int32) : Bool := decide (48 ≤ c ∧ c ≤ 57)
def isA (c : Int32) : Bool := decide (97 ≤ c ∧ c ≤ 104)
def isV (c : Int32) : Bool := decide ((65 ≤ c ∧ c ≤ 69) ∨ c = 83)
def vOf (c : Int32) : Int32 := if 65 ≤ c ∧ c ≤ 69 then c - 65 else if c = 83 then 5 else -1
abbrev gA : Type := Nat × Nat × List (Int32 × Bool)
def cmp (fo : Nat) : List (Int32 × Bool) → gA
  | [] => (if fo = 0 then 4 else if fo = 1 then 5 else if fo = 2 then 6 else if fo = 3 then 1 else 7, if fo = 3 then 4 else fo, [])
  | (c, false) :: r => (if c = 40 then 2 else 1, fo, (c, true) :: r)
  | (c, true) :: r => if c = 40 then (3, fo, (c, true) :: r) else cmp fo r
def pce (fo : Nat) (st : List (Int32 × Bool)) (c : Int32) : Option gA :=
  if c = 40 ∨ (fo ≠ 0 ∧ (c = 43 ∨ c = 45 ∨ c = 47)) then (if st.length = 4 then none else some (1, fo, (c, false) :: st))
  else if c = 39 then some (8, fo, st) else if isD c = true ∨ isA c = true ∨ isV c = true ∨ c = (if fo = 0 then 95 else 35) then some (cmp fo st) else none
def stp (A : gA) (c : Int32) : Option gA := match A.1 with
  | 0 => pce 0 A.2.2 c
  | 1 => pce A.2.1 A.2.2 c
  | 2 => if c = 44 then some (1, A.2.1, A.2.2) else none
  | 3 => if c = 41 then some (cmp A.2.1 A.2.2.tail) else none
  | 4 => if c = 63 then some (1, 1, A.2.2) else if c = 58 then some (7, 1, A.2.2) else none
  | 5 => if c = 60 ∨ c = 61 then some (1, 2, A.2.2) else none
  | 6 => if c = 58 then some (7, A.2.1, A.2.2) else none
  | 7 => if c = 59 then some (0, 4, A.2.2) else if c = 64 then some (10, 4, A.2.2) else if c = 42 then some (12, 4, A.2.2) else if c = 33 then some (1, 3, A.2.2) else if c = 126 ∨ c = 38 ∨ c = 36 then some (1, 4, A.2.2) else none
  | 8 => if isD c then some (9, A.2.1, A.2.2) else none
  | 9 => if isD c then some (cmp A.2.1 A.2.2) else none
  | 10 => if 48 ≤ c ∧ c ≤ 50 then some (11, A.2.1, A.2.2) else none
  | 11 => if isV c then some (7, A.2.1, A.2.2) else none
  | _ => if 48 ≤ c ∧ c ≤ 49 then some (7, A.2.1, A.2.2) else none
def rst (f : mF) : List (Int32 × Bool) → Prop
  | [] => True
  | x :: r => f 153 r.length = x.1 ∧ f 154 r.length = m_b x.2 ∧ rst f r
def rA (f : mF) (A : gA) : Prop := f 139 16 = nI A.1 ∧ f 139 17 = nI A.2.1 ∧ f 139 15 = nI A.2.2.length ∧ A.2.2.length ≤ 4 ∧ rst f A.2.2 ∧ A.1 ≤ 12 ∧ A.2.1 ≤ 4
def gfr (f f' : mF) : Prop := ∀ a k, ¬ (a = 139 ∧ 15 ≤ k ∧ k ≤ 17) → a ≠ 153 → a ≠ 154 → f' a k = f a k
theorem gfr_refl (f : mF) : gfr f f := fun _ _ _ _ _ => rfl
theorem gfr_trans {f f' f'' : mF} (h : gfr f f') (h' : gfr f' f'') : gfr f f'' := fun a k h1 h2 h3 => (h' a k h1 h2 h3).trans (h a k h1 h2 h3)
theorem gfr_139 {f f' : mF} {k : Nat} {v : Int32} (h : gfr f f') (hk : 15 ≤ k ∧ k ≤ 17) : gfr f (m_u f' 139 k v) := fun a j h1 h2 h3 => by
  rw [m_un (by omega)]; exact h a j h1 h2 h3
theorem gfr_153 {f f' : mF} {k : Nat} {v : Int32} (h : gfr f f') : gfr f (m_u f' 153 k v) := fun a j h1 h2 h3 => by
  rw [m_un (by omega)]; exact h a j h1 h2 h3
theorem gfr_154 {f f' : mF} {k : Nat} {v : Int32} (h : gfr f f') : gfr f (m_u f' 154 k v) := fun a j h1 h2 h3 => by
  rw [m_un (by omega)]; exact h a j h1 h2 h3
theorem rst_congr {f f' : mF} : ∀ (st : List (Int32 × Bool)), (∀ k, k < st.length → f' 153 k = f 153 k ∧ f' 154 k = f 154 k) → rst f st → rst f' st
  | [], _, _ => trivial
  | x :: r, h, hs => ⟨(h r.length (by simp)).1.trans hs.1, (h r.length (by simp)).2.trans hs.2.1, rst_congr r (fun k hk => h k (by simp; omega)) hs.2.2⟩
theorem rst_139 {f : mF} {st : List (Int32 × Bool)} {k : Nat} {v : Int32} (h : rst f st) : rst (m_u f 139 k v) st := rst_congr st (fun j _ => ⟨m_un (by omega), m_un (by omega)⟩) h
theorem cmp_ok : ∀ (st : List (Int32 × Bool)) {fo : Nat}, fo ≤ 4 → (cmp fo st).1 ≤ 12 ∧ (cmp fo st).2.1 ≤ 4 ∧ ((cmp fo st).1 = 3 → (cmp fo st).2.2 ≠ []) ∧ (cmp fo st).2.2.length ≤ st.length
  | [], fo, h => by
    refine ⟨?_, ?_, ?_, ?_⟩
    · simp only [cmp]; repeat' split
      all_goals omega
    · simp only [cmp]; split <;> omega
    · simp only [cmp]; repeat' split
      all_goals (intro h; omega)
    · simp [cmp]
  | (c, false) :: r, fo, h => by
    refine ⟨?_, h, ?_, ?_⟩
    · simp only [cmp]; split <;> omega
    · simp [cmp]
    · simp [cmp]
  | (c, true) :: r, fo, h => by
    by_cases hc : c = 40
    · simp [cmp, hc, h]
    · simp only [cmp, hc, if_false]
      have := cmp_ok r h
      refine ⟨this.1, this.2.1, this.2.2.1, ?_⟩
      simp; omega
theorem rng {c : Int32} {a b : Int32} (h : a ≤ c ∧ c ≤ b) : a.toInt ≤ c.toInt ∧ c.toInt ≤ b.toInt := ⟨Int32.le_iff_toInt_le.mp h.1, Int32.le_iff_toInt_le.mp h.2⟩
theorem rng5 {c : Int32} (h : 65 ≤ c ∧ c ≤ 69) : c = 65 ∨ c = 66 ∨ c = 67 ∨ c = 68 ∨ c = 69 := by
  have h1 := rng h
  have e1 : (65 : Int32).toInt = 65 := by decide
  have e2 : (69 : Int32).toInt = 69 := by decide
  have : c.toInt = 65 ∨ c.toInt = 66 ∨ c.toInt = 67 ∨ c.toInt = 68 ∨ c.toInt = 69 := by omega
  rcases this with h | h | h | h | h
  · exact .inl (Int32.toInt_inj.mp h)
  · exact .inr (.inl (Int32.toInt_inj.mp h))
  · exact .inr (.inr (.inl (Int32.toInt_inj.mp h)))
  · exact .inr (.inr (.inr (.inl (Int32.toInt_inj.mp h))))
  · exact .inr (.inr (.inr (.inr (Int32.toInt_inj.mp h))))
theorem vOf_neg (c : Int32) : (vOf c < 0) = (isV c = false) := by
  unfold vOf isV
  split
  · rename_i h
    rcases rng5 h with rfl | rfl | rfl | rfl | rfl <;> decide
  · rename_i h
    split
    · rename_i h'; subst h'; decide
    · rename_i h'
      have : ¬ ((65 ≤ c ∧ c ≤ 69) ∨ c = 83) := fun hh => hh.elim h h'
      rw [eq_iff_iff]; exact ⟨fun _ => decide_eq_false this, fun _ => by decide⟩
theorem vOf_nn (c : Int32) : (0 ≤ vOf c) = (isV c = true) := by
  have := vOf_neg c
  cases h : isV c
  · rw [h, eq_self, eq_iff_iff, iff_true] at this
    simp only [eq_iff_iff, Bool.false_eq_true, iff_false]; exact Int32.not_le.mpr this
  · rw [h, eq_iff_iff] at this
    simp only [eq_iff_iff, iff_true]; exact Int32.not_lt.mp fun e => absurd (this.mp e) (by decide)
section MG
variable {xs : List Int32} {f : mF} {g : mG} {t u c s d : Nat} {M : aM} {x y z : Int32}
theorem c_in (hd : 1 ≤ d) : am_Y d 90 [.int x, .int y, .int z] M = some (.inl (some (.int (m_b (decide (y ≤ x ∧ x ≤ z))))), M) := by
  obtain ⟨d, rfl⟩ : ∃ e, d = e + 1 := ⟨d - 1, by omega⟩
  by_cases h1 : y ≤ x
  · by_cases h2 : x ≤ z
    · simp only [y_Md_in, e_Md_in_0, e_Md_in_14, e_Md_in_15, Int32.not_lt.mpr h1, Int32.not_lt.mpr h2, if_false, ft3_1, cond_true, h1, h2, and_self, decide_true, m_b]
    · simp only [y_Md_in, e_Md_in_0, e_Md_in_14, e_Md_in_15, Int32.not_lt.mpr h1, Int32.not_le.mp h2, if_false, if_true, ft3_0, cond_true, cond_false, h1, h2, and_false, decide_false, m_b]
  · simp only [y_Md_in, e_Md_in_0, e_Md_in_14, e_Md_in_15, Int32.not_le.mp h1, if_true, ft3_0, cond_true, cond_false, h1, false_and, decide_false, m_b]
theorem c_isDigit (hd : 2 ≤ d) : am_Y d 98 [.int x] M = some (.inl (some (.int (m_b (isD x)))), M) := by
  obtain ⟨d, rfl⟩ : ∃ e, d = e + 1 := ⟨d - 1, by omega⟩
  simp (maxSteps := 4000000) (disch := first | omega | assumption) only [m_l3, m_a3_0, m_a3_1, m_a3_2, m_l4, m_a4_0, m_a4_1, m_a4_2, m_a4_3, m_l129, m_a129_0, m_l130, m_i130_1, m_wi130_1, m_l133, m_a133_0, m_a133_1, m_i133_2, m_wi133_2, m_j133_3, m_wj133_3, m_i133_4, m_wi133_4, m_l134, m_a134_0, m_a134_1, m_i134_2, m_wi134_2, m_i134_3, m_wi134_3, m_l135, m_i135_1, m_wi135_1, m_l139, m_a139_0, m_a139_1, m_a139_2, m_a139_3, m_a139_4, m_a139_5, m_a139_6, m_a139_7, m_a139_8, m_a139_9, m_a139_10, m_a139_11, m_a139_12, m_a139_13, m_a139_14, m_i139_15, m_wi139_15, m_i139_16, m_wi139_16, m_i139_17, m_wi139_17, m_a139_18, m_i139_19, m_wi139_19, m_i139_20, m_wi139_20, m_i139_21, m_wi139_21, m_rt, m_ru, m_wt, m_wu, m_tk, m_l6, m_i6, m_wi6, m_l140, m_i140, m_wi140, m_l141, m_i141, m_wi141, m_l142, m_i142, m_wi142, m_l143, m_i143, m_wi143, m_l144, m_j144, m_wj144, m_l145, m_j145, m_wj145, m_l146, m_i146, m_wi146, m_l147, m_i147, m_wi147, m_l148, m_i148, m_wi148, m_l149, m_i149, m_wi149, m_l150, m_j150, m_wj150, m_l151, m_i151, m_wi151, m_l152, m_j152, m_wj152, m_l153, m_i153, m_wi153, m_l154, m_i154, m_wi154, m_l155, m_j155, m_wj155, m_l156, m_j156, m_wj156, m_l138, m_j138, m_wj138, m_a5, m_a13, m_a44, m_lA, m_aA_0, m_aA_1, m_iA_2, m_wiA_2, m_iA_4, m_wiA_4, m_iA_5, m_wiA_5, m_iA_6, m_wiA_6, m_jA_3, m_wjA_3, m_lT, m_lTc, m_aT, m_iT, m_wiT, m_iTc, m_wiTc, m_lW, m_lWc, m_aW, m_iW, m_wiW, m_jWc, m_wjWc, m_0l, m_0, m_1, m_2, Option.bind_some, am_cI, am_cJ, am_cA, am_cV, cond_true, cond_false, reduceIte, y_Md_isDigit, e_Md_isDigit_0, c_in, m_ft3]
  rfl
theorem c_isAtom (hd : 2 ≤ d) : am_Y d 99 [.int x] M = some (.inl (some (.int (m_b (isA x)))), M) := by
  obtain ⟨d, rfl⟩ : ∃ e, d = e + 1 := ⟨d - 1, by omega⟩
  simp (maxSteps := 4000000) (disch := first | omega | assumption) only [m_l3, m_a3_0, m_a3_1, m_a3_2, m_l4, m_a4_0, m_a4_1, m_a4_2, m_a4_3, m_l129, m_a129_0, m_l130, m_i130_1, m_wi130_1, m_l133, m_a133_0, m_a133_1, m_i133_2, m_wi133_2, m_j133_3, m_wj133_3, m_i133_4, m_wi133_4, m_l134, m_a134_0, m_a134_1, m_i134_2, m_wi134_2, m_i134_3, m_wi134_3, m_l135, m_i135_1, m_wi135_1, m_l139, m_a139_0, m_a139_1, m_a139_2, m_a139_3, m_a139_4, m_a139_5, m_a139_6, m_a139_7, m_a139_8, m_a139_9, m_a139_10, m_a139_11, m_a139_12, m_a139_13, m_a139_14, m_i139_15, m_wi139_15, m_i139_16, m_wi139_16, m_i139_17, m_wi139_17, m_a139_18, m_i139_19, m_wi139_19, m_i139_20, m_wi139_20, m_i139_21, m_wi139_21, m_rt, m_ru, m_wt, m_wu, m_tk, m_l6, m_i6, m_wi6, m_l140, m_i140, m_wi140, m_l141, m_i141, m_wi141, m_l142, m_i142, m_wi142, m_l143, m_i143, m_wi143, m_l144, m_j144, m_wj144, m_l145, m_j145, m_wj145, m_l146, m_i146, m_wi146, m_l147, m_i147, m_wi147, m_l148, m_i148, m_wi148, m_l149, m_i149, m_wi149, m_l150, m_j150, m_wj150, m_l151, m_i151, m_wi151, m_l152, m_j152, m_wj152, m_l153, m_i153, m_wi153, m_l154, m_i154, m_wi154, m_l155, m_j155, m_wj155, m_l156, m_j156, m_wj156, m_l138, m_j138, m_wj138, m_a5, m_a13, m_a44, m_lA, m_aA_0, m_aA_1, m_iA_2, m_wiA_2, m_iA_4, m_wiA_4, m_iA_5, m_wiA_5, m_iA_6, m_wiA_6, m_jA_3, m_wjA_3, m_lT, m_lTc, m_aT, m_iT, m_wiT, m_iTc, m_wiTc, m_lW, m_lWc, m_aW, m_iW, m_wiW, m_jWc, m_wjWc, m_0l, m_0, m_1, m_2, Option.bind_some, am_cI, am_cJ, am_cA, am_cV, cond_true, cond_false, reduceIte, y_Md_isAtom, e_Md_isAtom_0, c_in, m_ft3]
  rfl
theorem c_mvariableOf (hd : 2 ≤ d) : am_Y d 100 [.int x] M = some (.inl (some (.int (vOf x))), M) := by
  obtain ⟨d, rfl⟩ : ∃ e, d = e + 1 := ⟨d - 1, by omega⟩
  simp (maxSteps := 4000000) (disch := first | omega | assumption) only [m_l3, m_a3_0, m_a3_1, m_a3_2, m_l4, m_a4_0, m_a4_1, m_a4_2, m_a4_3, m_l129, m_a129_0, m_l130, m_i130_1, m_wi130_1, m_l133, m_a133_0, m_a133_1, m_i133_2, m_wi133_2, m_j133_3, m_wj133_3, m_i133_4, m_wi133_4, m_l134, m_a134_0, m_a134_1, m_i134_2, m_wi134_2, m_i134_3, m_wi134_3, m_l135, m_i135_1, m_wi135_1, m_l139, m_a139_0, m_a139_1, m_a139_2, m_a139_3, m_a139_4, m_a139_5, m_a139_6, m_a139_7, m_a139_8, m_a139_9, m_a139_10, m_a139_11, m_a139_12, m_a139_13, m_a139_14, m_i139_15, m_wi139_15, m_i139_16, m_wi139_16, m_i139_17, m_wi139_17, m_a139_18, m_i139_19, m_wi139_19, m_i139_20, m_wi139_20, m_i139_21, m_wi139_21, m_rt, m_ru, m_wt, m_wu, m_tk, m_l6, m_i6, m_wi6, m_l140, m_i140, m_wi140, m_l141, m_i141, m_wi141, m_l142, m_i142, m_wi142, m_l143, m_i143, m_wi143, m_l144, m_j144, m_wj144, m_l145, m_j145, m_wj145, m_l146, m_i146, m_wi146, m_l147, m_i147, m_wi147, m_l148, m_i148, m_wi148, m_l149, m_i149, m_wi149, m_l150, m_j150, m_wj150, m_l151, m_i151, m_wi151, m_l152, m_j152, m_wj152, m_l153, m_i153, m_wi153, m_l154, m_i154, m_wi154, m_l155, m_j155, m_wj155, m_l156, m_j156, m_wj156, m_l138, m_j138, m_wj138, m_a5, m_a13, m_a44, m_lA, m_aA_0, m_aA_1, m_iA_2, m_wiA_2, m_iA_4, m_wiA_4, m_iA_5, m_wiA_5, m_iA_6, m_wiA_6, m_jA_3, m_wjA_3, m_lT, m_lTc, m_aT, m_iT, m_wiT, m_iTc, m_wiTc, m_lW, m_lWc, m_aW, m_iW, m_wiW, m_jWc, m_wjWc, m_0l, m_0, m_1, m_2, Option.bind_some, am_cI, am_cJ, am_cA, am_cV, cond_true, cond_false, reduceIte, y_Md_variableOf, e_Md_variableOf_0, e_Md_variableOf_18, e_Md_variableOf_28, e_Md_variableOf_29, c_in, m_b0, decide_eq_false_iff_not, vOf]
  by_cases h : 65 ≤ x ∧ x ≤ 69
  · simp only [h, and_self, not_true, if_false, if_true]
  · by_cases h2 : x = 83
    · subst h2; simp only [show ¬ ((65 : Int32) ≤ 83 ∧ (83 : Int32) ≤ 69) by decide, not_false_eq_true, not_true, if_false, if_true]
    · simp only [h, h2, not_false_eq_true, if_false, if_true]
theorem c_complete (hd : 1 ≤ d) : ∀ (st : List (Int32 × Bool)) {f : mF} {m fo : Nat}, rA f (m, fo, st) → ∃ f', am_Y d 101 [.ref 139] (mM xs f g t u c s) = some (.inl none, mM xs f' g t u c s) ∧ rA f' (cmp fo st) ∧ gfr f f' := by
  obtain ⟨d, rfl⟩ : ∃ e, d = e + 1 := ⟨d - 1, by omega⟩
  simp only [y_Md_complete]
  intro st
  induction st with
  | nil =>
    intro f m fo h
    obtain ⟨h1, h2, h3, h4, h5, h6, h7⟩ := h
    simp only at h1 h2 h3 h4 h5 h6 h7
    rw [e_Md_complete_0]
    have : fo = 0 ∨ fo = 1 ∨ fo = 2 ∨ fo = 3 ∨ fo = 4 := by omega
    have e3 : f 139 15 = 0 := h3
    rcases this with rfl | rfl | rfl | rfl | rfl
    · have e2 : f 139 17 = 0 := h2
      refine ⟨m_u f 139 16 4, ?_, ⟨m_uu _, (m_un (by omega)).trans h2, (m_un (by omega)).trans h3, h4, trivial, by decide, by decide⟩, gfr_139 (gfr_refl f) (by decide)⟩
      simp (maxSteps := 4000000) (disch := first | omega | assumption) only [m_l3, m_a3_0, m_a3_1, m_a3_2, m_l4, m_a4_0, m_a4_1, m_a4_2, m_a4_3, m_l129, m_a129_0, m_l130, m_i130_1, m_wi130_1, m_l133, m_a133_0, m_a133_1, m_i133_2, m_wi133_2, m_j133_3, m_wj133_3, m_i133_4, m_wi133_4, m_l134, m_a134_0, m_a134_1, m_i134_2, m_wi134_2, m_i134_3, m_wi134_3, m_l135, m_i135_1, m_wi135_1, m_l139, m_a139_0, m_a139_1, m_a139_2, m_a139_3, m_a139_4, m_a139_5, m_a139_6, m_a139_7, m_a139_8, m_a139_9, m_a139_10, m_a139_11, m_a139_12, m_a139_13, m_a139_14, m_i139_15, m_wi139_15, m_i139_16, m_wi139_16, m_i139_17, m_wi139_17, m_a139_18, m_i139_19, m_wi139_19, m_i139_20, m_wi139_20, m_i139_21, m_wi139_21, m_rt, m_ru, m_wt, m_wu, m_tk, m_l6, m_i6, m_wi6, m_l140, m_i140, m_wi140, m_l141, m_i141, m_wi141, m_l142, m_i142, m_wi142, m_l143, m_i143, m_wi143, m_l144, m_j144, m_wj144, m_l145, m_j145, m_wj145, m_l146, m_i146, m_wi146, m_l147, m_i147, m_wi147, m_l148, m_i148, m_wi148, m_l149, m_i149, m_wi149, m_l150, m_j150, m_wj150, m_l151, m_i151, m_wi151, m_l152, m_j152, m_wj152, m_l153, m_i153, m_wi153, m_l154, m_i154, m_wi154, m_l155, m_j155, m_wj155, m_l156, m_j156, m_wj156, m_l138, m_j138, m_wj138, m_a5, m_a13, m_a44, m_lA, m_aA_0, m_aA_1, m_iA_2, m_wiA_2, m_iA_4, m_wiA_4, m_iA_5, m_wiA_5, m_iA_6, m_wiA_6, m_jA_3, m_wjA_3, m_lT, m_lTc, m_aT, m_iT, m_wiT, m_iTc, m_wiTc, m_lW, m_lWc, m_aW, m_iW, m_wiW, m_jWc, m_wjWc, m_0l, m_0, m_1, m_2, Option.bind_some, am_cI, am_cJ, am_cA, am_cV, cond_true, cond_false, reduceIte, e_Md_complete_46, e_Md_complete_47, e_Md_complete_51, e_Md_complete_68, e_Md_complete_81, e_Md_complete_93, e_Md_complete_105, e_Md_complete_118, e_Md_complete_130, e_Md_complete_132, e_Md_complete_148, e2, e3, m_un, Int32.le_refl, i_0_1, i_0_2, i_0_3, i_0_4, i_0_5, i_0_6, i_0_7, i_0_8, i_0_9, i_0_10, i_0_11, i_0_12, i2_0, i_11, i_01, i_1_0, i_0_1, not_true, not_false_eq_true, if_true, if_false, Bool.true_eq_false, Bool.false_eq_true, decide_true, decide_false]
    · have e2 : f 139 17 = 1 := h2
      refine ⟨m_u f 139 16 5, ?_, ⟨m_uu _, (m_un (by omega)).trans h2, (m_un (by omega)).trans h3, h4, trivial, by decide, by decide⟩, gfr_139 (gfr_refl f) (by decide)⟩
      simp (maxSteps := 4000000) (disch := first | omega | assumption) only [m_l3, m_a3_0, m_a3_1, m_a3_2, m_l4, m_a4_0, m_a4_1, m_a4_2, m_a4_3, m_l129, m_a129_0, m_l130, m_i130_1, m_wi130_1, m_l133, m_a133_0, m_a133_1, m_i133_2, m_wi133_2, m_j133_3, m_wj133_3, m_i133_4, m_wi133_4, m_l134, m_a134_0, m_a134_1, m_i134_2, m_wi134_2, m_i134_3, m_wi134_3, m_l135, m_i135_1, m_wi135_1, m_l139, m_a139_0, m_a139_1, m_a139_2, m_a139_3, m_a139_4, m_a139_5, m_a139_6, m_a139_7, m_a139_8, m_a139_9, m_a139_10, m_a139_11, m_a139_12, m_a139_13, m_a139_14, m_i139_15, m_wi139_15, m_i139_16, m_wi139_16, m_i139_17, m_wi139_17, m_a139_18, m_i139_19, m_wi139_19, m_i139_20, m_wi139_20, m_i139_21, m_wi139_21, m_rt, m_ru, m_wt, m_wu, m_tk, m_l6, m_i6, m_wi6, m_l140, m_i140, m_wi140, m_l141, m_i141, m_wi141, m_l142, m_i142, m_wi142, m_l143, m_i143, m_wi143, m_l144, m_j144, m_wj144, m_l145, m_j145, m_wj145, m_l146, m_i146, m_wi146, m_l147, m_i147, m_wi147, m_l148, m_i148, m_wi148, m_l149, m_i149, m_wi149, m_l150, m_j150, m_wj150, m_l151, m_i151, m_wi151, m_l152, m_j152, m_wj152, m_l153, m_i153, m_wi153, m_l154, m_i154, m_wi154, m_l155, m_j155, m_wj155, m_l156, m_j156, m_wj156, m_l138, m_j138, m_wj138, m_a5, m_a13, m_a44, m_lA, m_aA_0, m_aA_1, m_iA_2, m_wiA_2, m_iA_4, m_wiA_4, m_iA_5, m_wiA_5, m_iA_6, m_wiA_6, m_jA_3, m_wjA_3, m_lT, m_lTc, m_aT, m_iT, m_wiT, m_iTc, m_wiTc, m_lW, m_lWc, m_aW, m_iW, m_wiW, m_jWc, m_wjWc, m_0l, m_0, m_1, m_2, Option.bind_some, am_cI, am_cJ, am_cA, am_cV, cond_true, cond_false, reduceIte, e_Md_complete_46, e_Md_complete_47, e_Md_complete_51, e_Md_complete_68, e_Md_complete_81, e_Md_complete_93, e_Md_complete_105, e_Md_complete_118, e_Md_complete_130, e_Md_complete_132, e_Md_complete_148, e2, e3, m_un, Int32.le_refl, i_1_0, i_1_2, i_1_3, i_1_4, i_1_5, i_1_6, i_1_7, i_1_8, i_1_9, i_1_10, i_1_11, i_1_12, i2_1, i_11, i_01, i_1_0, i_0_1, not_true, not_false_eq_true, if_true, if_false, Bool.true_eq_false, Bool.false_eq_true, decide_true, decide_false]
    · have e2 : f 139 17 = 2 := h2
      refine ⟨m_u f 139 16 6, ?_, ⟨m_uu _, (m_un (by omega)).trans h2, (m_un (by omega)).trans h3, h4, trivial, by decide, by decide⟩, gfr_139 (gfr_refl f) (by decide)⟩
      simp (maxSteps := 4000000) (disch := first | omega | assumption) only [m_l3, m_a3_0, m_a3_1, m_a3_2, m_l4, m_a4_0, m_a4_1, m_a4_2, m_a4_3, m_l129, m_a129_0, m_l130, m_i130_1, m_wi130_1, m_l133, m_a133_0, m_a133_1, m_i133_2, m_wi133_2, m_j133_3, m_wj133_3, m_i133_4, m_wi133_4, m_l134, m_a134_0, m_a134_1, m_i134_2, m_wi134_2, m_i134_3, m_wi134_3, m_l135, m_i135_1, m_wi135_1, m_l139, m_a139_0, m_a139_1, m_a139_2, m_a139_3, m_a139_4, m_a139_5, m_a139_6, m_a139_7, m_a139_8, m_a139_9, m_a139_10, m_a139_11, m_a139_12, m_a139_13, m_a139_14, m_i139_15, m_wi139_15, m_i139_16, m_wi139_16, m_i139_17, m_wi139_17, m_a139_18, m_i139_19, m_wi139_19, m_i139_20, m_wi139_20, m_i139_21, m_wi139_21, m_rt, m_ru, m_wt, m_wu, m_tk, m_l6, m_i6, m_wi6, m_l140, m_i140, m_wi140, m_l141, m_i141, m_wi141, m_l142, m_i142, m_wi142, m_l143, m_i143, m_wi143, m_l144, m_j144, m_wj144, m_l145, m_j145, m_wj145, m_l146, m_i146, m_wi146, m_l147, m_i147, m_wi147, m_l148, m_i148, m_wi148, m_l149, m_i149, m_wi149, m_l150, m_j150, m_wj150, m_l151, m_i151, m_wi151, m_l152, m_j152, m_wj152, m_l153, m_i153, m_wi153, m_l154, m_i154, m_wi154, m_l155, m_j155, m_wj155, m_l156, m_j156, m_wj156, m_l138, m_j138, m_wj138, m_a5, m_a13, m_a44, m_lA, m_aA_0, m_aA_1, m_iA_2, m_wiA_2, m_iA_4, m_wiA_4, m_iA_5, m_wiA_5, m_iA_6, m_wiA_6, m_jA_3, m_wjA_3, m_lT, m_lTc, m_aT, m_iT, m_wiT, m_iTc, m_wiTc, m_lW, m_lWc, m_aW, m_iW, m_wiW, m_jWc, m_wjWc, m_0l, m_0, m_1, m_2, Option.bind_some, am_cI, am_cJ, am_cA, am_cV, cond_true, cond_false, reduceIte, e_Md_complete_46, e_Md_complete_47, e_Md_complete_51, e_Md_complete_68, e_Md_complete_81, e_Md_complete_93, e_Md_complete_105, e_Md_complete_118, e_Md_complete_130, e_Md_complete_132, e_Md_complete_148, e2, e3, m_un, Int32.le_refl, i_2_0, i_2_1, i_2_3, i_2_4, i_2_5, i_2_6, i_2_7, i_2_8, i_2_9, i_2_10, i_2_11, i_2_12, i2_2, i_11, i_01, i_1_0, i_0_1, not_true, not_false_eq_true, if_true, if_false, Bool.true_eq_false, Bool.false_eq_true, decide_true, decide_false]
    · have e2 : f 139 17 = 3 := h2
      refine ⟨m_u (m_u f 139 16 1) 139 17 4, ?_, ⟨(m_un (by omega)).trans (m_uu _), m_uu _, (m_un (by omega)).trans ((m_un (by omega)).trans h3), h4, trivial, by decide, by decide⟩, gfr_139 (gfr_139 (gfr_refl f) (by decide)) (by decide)⟩
      simp (maxSteps := 4000000) (disch := first | omega | assumption) only [m_l3, m_a3_0, m_a3_1, m_a3_2, m_l4, m_a4_0, m_a4_1, m_a4_2, m_a4_3, m_l129, m_a129_0, m_l130, m_i130_1, m_wi130_1, m_l133, m_a133_0, m_a133_1, m_i133_2, m_wi133_2, m_j133_3, m_wj133_3, m_i133_4, m_wi133_4, m_l134, m_a134_0, m_a134_1, m_i134_2, m_wi134_2, m_i134_3, m_wi134_3, m_l135, m_i135_1, m_wi135_1, m_l139, m_a139_0, m_a139_1, m_a139_2, m_a139_3, m_a139_4, m_a139_5, m_a139_6, m_a139_7, m_a139_8, m_a139_9, m_a139_10, m_a139_11, m_a139_12, m_a139_13, m_a139_14, m_i139_15, m_wi139_15, m_i139_16, m_wi139_16, m_i139_17, m_wi139_17, m_a139_18, m_i139_19, m_wi139_19, m_i139_20, m_wi139_20, m_i139_21, m_wi139_21, m_rt, m_ru, m_wt, m_wu, m_tk, m_l6, m_i6, m_wi6, m_l140, m_i140, m_wi140, m_l141, m_i141, m_wi141, m_l142, m_i142, m_wi142, m_l143, m_i143, m_wi143, m_l144, m_j144, m_wj144, m_l145, m_j145, m_wj145, m_l146, m_i146, m_wi146, m_l147, m_i147, m_wi147, m_l148, m_i148, m_wi148, m_l149, m_i149, m_wi149, m_l150, m_j150, m_wj150, m_l151, m_i151, m_wi151, m_l152, m_j152, m_wj152, m_l153, m_i153, m_wi153, m_l154, m_i154, m_wi154, m_l155, m_j155, m_wj155, m_l156, m_j156, m_wj156, m_l138, m_j138, m_wj138, m_a5, m_a13, m_a44, m_lA, m_aA_0, m_aA_1, m_iA_2, m_wiA_2, m_iA_4, m_wiA_4, m_iA_5, m_wiA_5, m_iA_6, m_wiA_6, m_jA_3, m_wjA_3, m_lT, m_lTc, m_aT, m_iT, m_wiT, m_iTc, m_wiTc, m_lW, m_lWc, m_aW, m_iW, m_wiW, m_jWc, m_wjWc, m_0l, m_0, m_1, m_2, Option.bind_some, am_cI, am_cJ, am_cA, am_cV, cond_true, cond_false, reduceIte, e_Md_complete_46, e_Md_complete_47, e_Md_complete_51, e_Md_complete_68, e_Md_complete_81, e_Md_complete_93, e_Md_complete_105, e_Md_complete_118, e_Md_complete_130, e_Md_complete_132, e_Md_complete_148, e2, e3, m_un, Int32.le_refl, i_3_0, i_3_1, i_3_2, i_3_4, i_3_5, i_3_6, i_3_7, i_3_8, i_3_9, i_3_10, i_3_11, i_3_12, i2_3, i_11, i_01, i_1_0, i_0_1, not_true, not_false_eq_true, if_true, if_false, Bool.true_eq_false, Bool.false_eq_true, decide_true, decide_false]
    · have e2 : f 139 17 = 4 := h2
      refine ⟨m_u f 139 16 7, ?_, ⟨m_uu _, (m_un (by omega)).trans h2, (m_un (by omega)).trans h3, h4, trivial, by decide, by decide⟩, gfr_139 (gfr_refl f) (by decide)⟩
      simp (maxSteps := 4000000) (disch := first | omega | assumption) only [m_l3, m_a3_0, m_a3_1, m_a3_2, m_l4, m_a4_0, m_a4_1, m_a4_2, m_a4_3, m_l129, m_a129_0, m_l130, m_i130_1, m_wi130_1, m_l133, m_a133_0, m_a133_1, m_i133_2, m_wi133_2, m_j133_3, m_wj133_3, m_i133_4, m_wi133_4, m_l134, m_a134_0, m_a134_1, m_i134_2, m_wi134_2, m_i134_3, m_wi134_3, m_l135, m_i135_1, m_wi135_1, m_l139, m_a139_0, m_a139_1, m_a139_2, m_a139_3, m_a139_4, m_a139_5, m_a139_6, m_a139_7, m_a139_8, m_a139_9, m_a139_10, m_a139_11, m_a139_12, m_a139_13, m_a139_14, m_i139_15, m_wi139_15, m_i139_16, m_wi139_16, m_i139_17, m_wi139_17, m_a139_18, m_i139_19, m_wi139_19, m_i139_20, m_wi139_20, m_i139_21, m_wi139_21, m_rt, m_ru, m_wt, m_wu, m_tk, m_l6, m_i6, m_wi6, m_l140, m_i140, m_wi140, m_l141, m_i141, m_wi141, m_l142, m_i142, m_wi142, m_l143, m_i143, m_wi143, m_l144, m_j144, m_wj144, m_l145, m_j145, m_wj145, m_l146, m_i146, m_wi146, m_l147, m_i147, m_wi147, m_l148, m_i148, m_wi148, m_l149, m_i149, m_wi149, m_l150, m_j150, m_wj150, m_l151, m_i151, m_wi151, m_l152, m_j152, m_wj152, m_l153, m_i153, m_wi153, m_l154, m_i154, m_wi154, m_l155, m_j155, m_wj155, m_l156, m_j156, m_wj156, m_l138, m_j138, m_wj138, m_a5, m_a13, m_a44, m_lA, m_aA_0, m_aA_1, m_iA_2, m_wiA_2, m_iA_4, m_wiA_4, m_iA_5, m_wiA_5, m_iA_6, m_wiA_6, m_jA_3, m_wjA_3, m_lT, m_lTc, m_aT, m_iT, m_wiT, m_iTc, m_wiTc, m_lW, m_lWc, m_aW, m_iW, m_wiW, m_jWc, m_wjWc, m_0l, m_0, m_1, m_2, Option.bind_some, am_cI, am_cJ, am_cA, am_cV, cond_true, cond_false, reduceIte, e_Md_complete_46, e_Md_complete_47, e_Md_complete_51, e_Md_complete_68, e_Md_complete_81, e_Md_complete_93, e_Md_complete_105, e_Md_complete_118, e_Md_complete_130, e_Md_complete_132, e_Md_complete_148, e2, e3, m_un, Int32.le_refl, i_4_0, i_4_1, i_4_2, i_4_3, i_4_5, i_4_6, i_4_7, i_4_8, i_4_9, i_4_10, i_4_11, i_4_12, i2_4, i_11, i_01, i_1_0, i_0_1, not_true, not_false_eq_true, if_true, if_false, Bool.true_eq_false, Bool.false_eq_true, decide_true, decide_false]
  | cons x r ih =>
    intro f m fo h
    obtain ⟨h1, h2, h3, h4, ⟨h51, h52, h53⟩, h6, h7⟩ := h
    simp only [List.length_cons] at h1 h2 h3 h4 h6 h7
    obtain ⟨ch, b⟩ := x
    simp only at h51 h52
    have e3 : ¬ nI (r.length + 1) ≤ 0 := nI_nle (by omega) (by omega)
    rw [e_Md_complete_0]
    cases b with
    | false =>
      have h52 : f 154 r.length = 0 := h52
      by_cases hc : ch = 40
      · refine ⟨m_u (m_u f 154 r.length 1) 139 16 2, ?_, ⟨?_, ?_, ?_, ?_, ?_, ?_, ?_⟩, gfr_139 (gfr_154 (gfr_refl f)) (by decide)⟩
        · simp (maxSteps := 4000000) (disch := first | omega | assumption) only [m_l3, m_a3_0, m_a3_1, m_a3_2, m_l4, m_a4_0, m_a4_1, m_a4_2, m_a4_3, m_l129, m_a129_0, m_l130, m_i130_1, m_wi130_1, m_l133, m_a133_0, m_a133_1, m_i133_2, m_wi133_2, m_j133_3, m_wj133_3, m_i133_4, m_wi133_4, m_l134, m_a134_0, m_a134_1, m_i134_2, m_wi134_2, m_i134_3, m_wi134_3, m_l135, m_i135_1, m_wi135_1, m_l139, m_a139_0, m_a139_1, m_a139_2, m_a139_3, m_a139_4, m_a139_5, m_a139_6, m_a139_7, m_a139_8, m_a139_9, m_a139_10, m_a139_11, m_a139_12, m_a139_13, m_a139_14, m_i139_15, m_wi139_15, m_i139_16, m_wi139_16, m_i139_17, m_wi139_17, m_a139_18, m_i139_19, m_wi139_19, m_i139_20, m_wi139_20, m_i139_21, m_wi139_21, m_rt, m_ru, m_wt, m_wu, m_tk, m_l6, m_i6, m_wi6, m_l140, m_i140, m_wi140, m_l141, m_i141, m_wi141, m_l142, m_i142, m_wi142, m_l143, m_i143, m_wi143, m_l144, m_j144, m_wj144, m_l145, m_j145, m_wj145, m_l146, m_i146, m_wi146, m_l147, m_i147, m_wi147, m_l148, m_i148, m_wi148, m_l149, m_i149, m_wi149, m_l150, m_j150, m_wj150, m_l151, m_i151, m_wi151, m_l152, m_j152, m_wj152, m_l153, m_i153, m_wi153, m_l154, m_i154, m_wi154, m_l155, m_j155, m_wj155, m_l156, m_j156, m_wj156, m_l138, m_j138, m_wj138, m_a5, m_a13, m_a44, m_lA, m_aA_0, m_aA_1, m_iA_2, m_wiA_2, m_iA_4, m_wiA_4, m_iA_5, m_wiA_5, m_iA_6, m_wiA_6, m_jA_3, m_wjA_3, m_lT, m_lTc, m_aT, m_iT, m_wiT, m_iTc, m_wiTc, m_lW, m_lWc, m_aW, m_iW, m_wiW, m_jWc, m_wjWc, m_0l, m_0, m_1, m_2, Option.bind_some, am_cI, am_cJ, am_cA, am_cV, cond_true, cond_false, reduceIte, e_Md_complete_46, e_Md_complete_47, e_Md_complete_51, e_Md_complete_68, e_Md_complete_81, e_Md_complete_93, e_Md_complete_105, e_Md_complete_118, e_Md_complete_130, e_Md_complete_132, e_Md_complete_148, h3, e3, nI_pred, ix_n, h52, h51, hc, m_un, i_11, i_01, i_1_0, i_0_1, not_true, not_false_eq_true, if_true, if_false, Bool.true_eq_false, Bool.false_eq_true, decide_true, decide_false]
        · simp only [cmp, hc, if_true]; exact m_uu _
        · simp only [cmp]; rw [m_un (by omega), m_un (by omega)]; exact h2
        · simp only [cmp, List.length_cons]; rw [m_un (by omega), m_un (by omega)]; exact h3
        · simp only [cmp, List.length_cons]; exact h4
        · simp only [cmp]; exact rst_139 ⟨(m_un (by omega)).trans h51, m_uu _, rst_congr r (fun k hk => ⟨m_un (by omega), m_un (by omega)⟩) h53⟩
        · simp [cmp, hc]
        · simp only [cmp]; exact h7
      · refine ⟨m_u (m_u f 154 r.length 1) 139 16 1, ?_, ⟨?_, ?_, ?_, ?_, ?_, ?_, ?_⟩, gfr_139 (gfr_154 (gfr_refl f)) (by decide)⟩
        · simp (maxSteps := 4000000) (disch := first | omega | assumption) only [m_l3, m_a3_0, m_a3_1, m_a3_2, m_l4, m_a4_0, m_a4_1, m_a4_2, m_a4_3, m_l129, m_a129_0, m_l130, m_i130_1, m_wi130_1, m_l133, m_a133_0, m_a133_1, m_i133_2, m_wi133_2, m_j133_3, m_wj133_3, m_i133_4, m_wi133_4, m_l134, m_a134_0, m_a134_1, m_i134_2, m_wi134_2, m_i134_3, m_wi134_3, m_l135, m_i135_1, m_wi135_1, m_l139, m_a139_0, m_a139_1, m_a139_2, m_a139_3, m_a139_4, m_a139_5, m_a139_6, m_a139_7, m_a139_8, m_a139_9, m_a139_10, m_a139_11, m_a139_12, m_a139_13, m_a139_14, m_i139_15, m_wi139_15, m_i139_16, m_wi139_16, m_i139_17, m_wi139_17, m_a139_18, m_i139_19, m_wi139_19, m_i139_20, m_wi139_20, m_i139_21, m_wi139_21, m_rt, m_ru, m_wt, m_wu, m_tk, m_l6, m_i6, m_wi6, m_l140, m_i140, m_wi140, m_l141, m_i141, m_wi141, m_l142, m_i142, m_wi142, m_l143, m_i143, m_wi143, m_l144, m_j144, m_wj144, m_l145, m_j145, m_wj145, m_l146, m_i146, m_wi146, m_l147, m_i147, m_wi147, m_l148, m_i148, m_wi148, m_l149, m_i149, m_wi149, m_l150, m_j150, m_wj150, m_l151, m_i151, m_wi151, m_l152, m_j152, m_wj152, m_l153, m_i153, m_wi153, m_l154, m_i154, m_wi154, m_l155, m_j155, m_wj155, m_l156, m_j156, m_wj156, m_l138, m_j138, m_wj138, m_a5, m_a13, m_a44, m_lA, m_aA_0, m_aA_1, m_iA_2, m_wiA_2, m_iA_4, m_wiA_4, m_iA_5, m_wiA_5, m_iA_6, m_wiA_6, m_jA_3, m_wjA_3, m_lT, m_lTc, m_aT, m_iT, m_wiT, m_iTc, m_wiTc, m_lW, m_lWc, m_aW, m_iW, m_wiW, m_jWc, m_wjWc, m_0l, m_0, m_1, m_2, Option.bind_some, am_cI, am_cJ, am_cA, am_cV, cond_true, cond_false, reduceIte, e_Md_complete_46, e_Md_complete_47, e_Md_complete_51, e_Md_complete_68, e_Md_complete_81, e_Md_complete_93, e_Md_complete_105, e_Md_complete_118, e_Md_complete_130, e_Md_complete_132, e_Md_complete_148, h3, e3, nI_pred, ix_n, h52, h51, hc, m_un, i_11, i_01, i_1_0, i_0_1, not_true, not_false_eq_true, if_true, if_false, Bool.true_eq_false, Bool.false_eq_true, decide_true, decide_false]
        · simp only [cmp, hc, if_false]; exact m_uu _
        · simp only [cmp]; rw [m_un (by omega), m_un (by omega)]; exact h2
        · simp only [cmp, List.length_cons]; rw [m_un (by omega), m_un (by omega)]; exact h3
        · simp only [cmp, List.length_cons]; exact h4
        · simp only [cmp]; exact rst_139 ⟨(m_un (by omega)).trans h51, m_uu _, rst_congr r (fun k hk => ⟨m_un (by omega), m_un (by omega)⟩) h53⟩
        · simp [cmp, hc]
        · simp only [cmp]; exact h7
    | true =>
      have h52 : f 154 r.length = 1 := h52
      by_cases hc : ch = 40
      · refine ⟨m_u f 139 16 3, ?_, ⟨?_, ?_, ?_, ?_, ?_, ?_, ?_⟩, gfr_139 (gfr_refl f) (by decide)⟩
        · simp (maxSteps := 4000000) (disch := first | omega | assumption) only [m_l3, m_a3_0, m_a3_1, m_a3_2, m_l4, m_a4_0, m_a4_1, m_a4_2, m_a4_3, m_l129, m_a129_0, m_l130, m_i130_1, m_wi130_1, m_l133, m_a133_0, m_a133_1, m_i133_2, m_wi133_2, m_j133_3, m_wj133_3, m_i133_4, m_wi133_4, m_l134, m_a134_0, m_a134_1, m_i134_2, m_wi134_2, m_i134_3, m_wi134_3, m_l135, m_i135_1, m_wi135_1, m_l139, m_a139_0, m_a139_1, m_a139_2, m_a139_3, m_a139_4, m_a139_5, m_a139_6, m_a139_7, m_a139_8, m_a139_9, m_a139_10, m_a139_11, m_a139_12, m_a139_13, m_a139_14, m_i139_15, m_wi139_15, m_i139_16, m_wi139_16, m_i139_17, m_wi139_17, m_a139_18, m_i139_19, m_wi139_19, m_i139_20, m_wi139_20, m_i139_21, m_wi139_21, m_rt, m_ru, m_wt, m_wu, m_tk, m_l6, m_i6, m_wi6, m_l140, m_i140, m_wi140, m_l141, m_i141, m_wi141, m_l142, m_i142, m_wi142, m_l143, m_i143, m_wi143, m_l144, m_j144, m_wj144, m_l145, m_j145, m_wj145, m_l146, m_i146, m_wi146, m_l147, m_i147, m_wi147, m_l148, m_i148, m_wi148, m_l149, m_i149, m_wi149, m_l150, m_j150, m_wj150, m_l151, m_i151, m_wi151, m_l152, m_j152, m_wj152, m_l153, m_i153, m_wi153, m_l154, m_i154, m_wi154, m_l155, m_j155, m_wj155, m_l156, m_j156, m_wj156, m_l138, m_j138, m_wj138, m_a5, m_a13, m_a44, m_lA, m_aA_0, m_aA_1, m_iA_2, m_wiA_2, m_iA_4, m_wiA_4, m_iA_5, m_wiA_5, m_iA_6, m_wiA_6, m_jA_3, m_wjA_3, m_lT, m_lTc, m_aT, m_iT, m_wiT, m_iTc, m_wiTc, m_lW, m_lWc, m_aW, m_iW, m_wiW, m_jWc, m_wjWc, m_0l, m_0, m_1, m_2, Option.bind_some, am_cI, am_cJ, am_cA, am_cV, cond_true, cond_false, reduceIte, e_Md_complete_46, e_Md_complete_47, e_Md_complete_51, e_Md_complete_68, e_Md_complete_81, e_Md_complete_93, e_Md_complete_105, e_Md_complete_118, e_Md_complete_130, e_Md_complete_132, e_Md_complete_148, h3, e3, nI_pred, ix_n, h52, h51, hc, m_un, i_11, i_01, i_1_0, i_0_1, not_true, not_false_eq_true, if_true, if_false, Bool.true_eq_false, Bool.false_eq_true, decide_true, decide_false]
        · simp only [cmp, hc, if_true]; exact m_uu _
        · simp only [cmp, hc, if_true]; rw [m_un (by omega)]; exact h2
        · simp only [cmp, hc, if_true, List.length_cons]; rw [m_un (by omega)]; exact h3
        · simp only [cmp, hc, if_true, List.length_cons]; exact h4
        · simp only [cmp, hc, if_true]; exact rst_139 ⟨hc ▸ h51, h52, h53⟩
        · simp [cmp, hc]
        · simp only [cmp, hc, if_true]; exact h7
      · have hr : rA (m_u f 139 15 (nI r.length)) (m, fo, r) := ⟨(m_un (by omega)).trans h1, (m_un (by omega)).trans h2, m_uu _, by simp only; omega, rst_139 h53, h6, h7⟩
        obtain ⟨f', e1, e2, e4⟩ := ih hr
        refine ⟨f', ?_, ?_, gfr_trans (gfr_139 (gfr_refl f) (by decide)) e4⟩
        · rw [← e1]
          simp (maxSteps := 4000000) (disch := first | omega | assumption) only [m_l3, m_a3_0, m_a3_1, m_a3_2, m_l4, m_a4_0, m_a4_1, m_a4_2, m_a4_3, m_l129, m_a129_0, m_l130, m_i130_1, m_wi130_1, m_l133, m_a133_0, m_a133_1, m_i133_2, m_wi133_2, m_j133_3, m_wj133_3, m_i133_4, m_wi133_4, m_l134, m_a134_0, m_a134_1, m_i134_2, m_wi134_2, m_i134_3, m_wi134_3, m_l135, m_i135_1, m_wi135_1, m_l139, m_a139_0, m_a139_1, m_a139_2, m_a139_3, m_a139_4, m_a139_5, m_a139_6, m_a139_7, m_a139_8, m_a139_9, m_a139_10, m_a139_11, m_a139_12, m_a139_13, m_a139_14, m_i139_15, m_wi139_15, m_i139_16, m_wi139_16, m_i139_17, m_wi139_17, m_a139_18, m_i139_19, m_wi139_19, m_i139_20, m_wi139_20, m_i139_21, m_wi139_21, m_rt, m_ru, m_wt, m_wu, m_tk, m_l6, m_i6, m_wi6, m_l140, m_i140, m_wi140, m_l141, m_i141, m_wi141, m_l142, m_i142, m_wi142, m_l143, m_i143, m_wi143, m_l144, m_j144, m_wj144, m_l145, m_j145, m_wj145, m_l146, m_i146, m_wi146, m_l147, m_i147, m_wi147, m_l148, m_i148, m_wi148, m_l149, m_i149, m_wi149, m_l150, m_j150, m_wj150, m_l151, m_i151, m_wi151, m_l152, m_j152, m_wj152, m_l153, m_i153, m_wi153, m_l154, m_i154, m_wi154, m_l155, m_j155, m_wj155, m_l156, m_j156, m_wj156, m_l138, m_j138, m_wj138, m_a5, m_a13, m_a44, m_lA, m_aA_0, m_aA_1, m_iA_2, m_wiA_2, m_iA_4, m_wiA_4, m_iA_5, m_wiA_5, m_iA_6, m_wiA_6, m_jA_3, m_wjA_3, m_lT, m_lTc, m_aT, m_iT, m_wiT, m_iTc, m_wiTc, m_lW, m_lWc, m_aW, m_iW, m_wiW, m_jWc, m_wjWc, m_0l, m_0, m_1, m_2, Option.bind_some, am_cI, am_cJ, am_cA, am_cV, cond_true, cond_false, reduceIte, e_Md_complete_46, e_Md_complete_47, e_Md_complete_51, e_Md_complete_68, e_Md_complete_81, e_Md_complete_93, e_Md_complete_105, e_Md_complete_118, e_Md_complete_130, e_Md_complete_132, e_Md_complete_148, h3, e3, nI_pred, ix_n, h52, h51, hc, m_un, i_11, i_01, i_1_0, i_0_1, not_true, not_false_eq_true, if_true, if_false, Bool.true_eq_false, Bool.false_eq_true, decide_true, decide_false]
        · simp only [cmp, hc, if_false]; exact e2
end MG
