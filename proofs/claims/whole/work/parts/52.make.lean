/-! MAKING AN ACTOR -/
def fFree (a : sA) : Nat → Nat → Option Nat
  | 0, _ => none
  | q + 1, i => if a 1 i = 0 then some i else fFree a q (i + 1)
def aCp (a : sA) (p i : Nat) : sA := fun y j => if y = 13 + i then a (10 + p) j else a y j
theorem aCp_n {a : sA} {p i y j : Nat} (h : y ≠ 13 + i) : aCp a p i y j = a y j := if_neg h
theorem aCp_s {a : sA} {p i j : Nat} : aCp a p i (13 + i) j = a (10 + p) j := if_pos rfl
def mkA (a : sA) (p i : Nat) : sA := aU (aU (aCp a p i) 7 (3 + i) (a 7 p)) 1 i 1
def pMake (S : sS2) (p : Nat) (st : sTm) : Option (Nat × sS2) := if S.1 0 p = 0 then none else match fFree S.1 6 0 with
  | none => none
  | some i => some (i, (mkA S.1 p i, bU S.2 0 i st))
theorem fFree_s {a : sA} : ∀ q i k, fFree a q i = some k → i ≤ k ∧ k < i + q ∧ a 1 k = 0
  | 0, i, k, h => (nomatch h)
  | q + 1, i, k, h => by
    unfold fFree at h
    by_cases e : a 1 i = 0
    · rw [if_pos e] at h; have := Option.some.inj h; subst this; exact ⟨Nat.le_refl _, by omega, e⟩
    · rw [if_neg e] at h; have := fFree_s q (i + 1) k h; exact ⟨by omega, by omega, this.2.2⟩
theorem tq_p {p : Nat} (h : p < 3) : tq p = 7 + 2 * p := if_pos h
theorem tq_a {i : Nat} : tq (3 + i) = 15 + 5 * i := by unfold tq; rw [if_neg (by omega)]; omega
theorem cpy_n {f : mF} {A B b j : Nat} (h : b ≠ B) : m_cpy f A B b j = f b j := if_neg (by omega)
theorem cpy_s {f : mF} {A B j : Nat} (h : j < 60) : m_cpy f A B B j = f A j := if_pos ⟨rfl, h⟩
theorem cA_cp {f : mF} {g : mG} {a : sA} {b : sQ} {p i : Nat} (h : cA f g a b) (hp : p < 3) (hi : i < 6) (h60 : a 7 p ≤ 60) : cA (m_u (m_cpy f (7 + 2 * p + 1) (15 + 5 * i + 1)) (15 + 5 * i) 1 (nI (a 7 p))) g (aU (aCp a p i) 7 (3 + i) (a 7 p)) b := by
  obtain ⟨h0, h1, h2, h3, h4, h5, h6, h7, h8, h9, h10, h11, h12⟩ := h
  refine ⟨fun j hj => by rw [m_un (by omega), cpy_n (by omega), aU_n (by omega), aCp_n (by omega)]; exact h0 j hj, fun j hj => by rw [m_un (by omega), cpy_n (by omega), aU_n (by omega), aCp_n (by omega)]; exact h1 j hj, fun j hj => by rw [m_un (by omega), cpy_n (by omega), aU_n (by omega), aCp_n (by omega)]; exact h2 j hj, fun j hj => by rw [m_un (by omega), cpy_n (by omega), aU_n (by omega), aCp_n (by omega)]; exact h3 j hj, fun j hj => by rw [m_un (by omega), cpy_n (by omega), aU_n (by omega), aCp_n (by omega)]; exact h4 j hj, fun j hj => by rw [m_un (by omega), cpy_n (by omega), aU_n (by omega), aCp_n (by omega)]; exact h5 j hj, fun j hj => by rw [m_un (by omega), cpy_n (by omega), aU_n (by omega), aCp_n (by omega)]; exact h6 j hj, h7, fun j hj k hk => by rw [aU_n (by omega), aCp_n (by omega)] at hk; exact h8 j hj k hk, fun j hj k hk => by rw [aU_n (by omega), aCp_n (by omega)] at hk; exact h9 j hj k hk, fun q hq => ?_, fun q hq k hk => ?_, fun q hq k hk => ?_⟩
  · by_cases e : q = 3 + i
    · subst e; rw [tq_a, m_uu, aU_s]
    · have := tq_r q; rw [m_un (by omega), cpy_n (by omega), aU_n (by omega), aCp_n (by omega)]; exact h10 q hq
  · by_cases e : q = 3 + i
    · subst e; rw [tq_a, m_un (by omega), cpy_s hk, ← tq_p hp]; exact h11 p (by omega) k hk
    · have := tq_r q; rw [m_un (by omega), cpy_n (by omega)]; exact h11 q hq k hk
  · by_cases e : q = 3 + i
    · subst e
      rw [aU_s] at hk
      rw [tq_a, m_un (by omega), cpy_s (by omega), aU_n (by omega), show 10 + (3 + i) = 13 + i by omega, aCp_s, ← tq_p hp]; exact h12 p (by omega) k hk
    · have := tq_r q
      rw [aU_n (by omega), aCp_n (by omega)] at hk
      rw [m_un (by omega), cpy_n (by omega), aU_n (by omega), aCp_n (by omega)]; exact h12 q hq k hk
section MKE
variable {xs : List Int32} {f : mF} {g : mG} {t u c s d : Nat} {S : sS2}
theorem c_copyFrom {p i : Nat} (hd : 1 ≤ d) (h : cA f g S.1 S.2) (hp : p < 3) (hi : i < 6) : am_Y d 59 [.ref (15 + 5 * i), .ref (7 + 2 * p)] (mM xs f g t u c s) = some (.inl none, mM xs (m_u (m_cpy f (7 + 2 * p + 1) (15 + 5 * i + 1)) (15 + 5 * i) 1 (nI (S.1 7 p))) g t u c s) := by
  obtain ⟨d, rfl⟩ : ∃ e, d = e + 1 := ⟨d - 1, by omega⟩
  have hT1 := mT_p hp
  have hT2 := mT_a hi
  have r : ∀ j, j < 60 → 0 ≤ f (7 + 2 * p + 1) j ∧ f (7 + 2 * p + 1) j ≤ 65535 := fun j hj => by rw [← tq_p hp]; exact h.2.2.2.2.2.2.2.2.2.2.2.1 p (by omega) j hj
  have cp := m_cp (xs := xs) (g := g) (t := t) (u := u) (c := c) (s := s) hT1 hT2 r
  have e1 : m_cpy f (7 + 2 * p + 1) (15 + 5 * i + 1) (7 + 2 * p) 1 = nI (S.1 7 p) := by rw [cpy_n (by omega), ← tq_p hp]; exact h.2.2.2.2.2.2.2.2.2.2.1 p (by omega)
  simp (maxSteps := 4000000) (disch := first | omega | assumption) only [↓b_ix, ↓b_l3, ↓b_a3_0, ↓b_a3_1, ↓b_a3_2, ↓b_l4, ↓b_a4_0, ↓b_a4_1, ↓b_a4_2, ↓b_a4_3, ↓b_l129, ↓b_a129_0, ↓b_l130, ↓b_i130_1, ↓b_wi130_1, ↓b_l133, ↓b_a133_0, ↓b_a133_1, ↓b_i133_2, ↓b_wi133_2, ↓b_j133_3, ↓b_wj133_3, ↓b_i133_4, ↓b_wi133_4, ↓b_l134, ↓b_a134_0, ↓b_a134_1, ↓b_i134_2, ↓b_wi134_2, ↓b_i134_3, ↓b_wi134_3, ↓b_l135, ↓b_i135_1, ↓b_wi135_1, ↓b_l139, ↓b_a139_0, ↓b_a139_1, ↓b_a139_2, ↓b_a139_3, ↓b_a139_4, ↓b_a139_5, ↓b_a139_6, ↓b_a139_7, ↓b_a139_8, ↓b_a139_9, ↓b_a139_10, ↓b_a139_11, ↓b_a139_12, ↓b_a139_13, ↓b_a139_14, ↓b_i139_15, ↓b_wi139_15, ↓b_i139_16, ↓b_wi139_16, ↓b_i139_17, ↓b_wi139_17, ↓b_a139_18, ↓b_i139_19, ↓b_wi139_19, ↓b_i139_20, ↓b_wi139_20, ↓b_i139_21, ↓b_wi139_21, ↓b_l6, ↓b_i6, ↓b_wi6, ↓b_l140, ↓b_i140, ↓b_wi140, ↓b_l141, ↓b_i141, ↓b_wi141, ↓b_l142, ↓b_i142, ↓b_wi142, ↓b_l143, ↓b_i143, ↓b_wi143, ↓b_l144, ↓b_j144, ↓b_wj144, ↓b_l145, ↓b_j145, ↓b_wj145, ↓b_l146, ↓b_i146, ↓b_wi146, ↓b_l147, ↓b_i147, ↓b_wi147, ↓b_l148, ↓b_i148, ↓b_wi148, ↓b_l149, ↓b_i149, ↓b_wi149, ↓b_l150, ↓b_j150, ↓b_wj150, ↓b_l151, ↓b_i151, ↓b_wi151, ↓b_l152, ↓b_j152, ↓b_wj152, ↓b_l153, ↓b_i153, ↓b_wi153, ↓b_l154, ↓b_i154, ↓b_wi154, ↓b_l155, ↓b_j155, ↓b_wj155, ↓b_l156, ↓b_j156, ↓b_wj156, ↓b_l138, ↓b_j138, ↓b_wj138, ↓b_a5, ↓b_a13, ↓b_a44, ↓b_lA, ↓b_aA_0, ↓b_aA_1, ↓b_iA_2, ↓b_wiA_2, ↓b_iA_4, ↓b_wiA_4, ↓b_iA_5, ↓b_wiA_5, ↓b_iA_6, ↓b_wiA_6, ↓b_jA_3, ↓b_wjA_3, ↓b_lT, ↓b_lTc, ↓b_aT, ↓b_iT, ↓b_wiT, ↓b_iTc, ↓b_wiTc, ↓b_lW, ↓b_lWc, ↓b_aW, ↓b_iW, ↓b_wiW, ↓b_jWc, ↓b_wjWc, ↓b_rt, ↓b_ru, ↓b_wt, ↓b_wu, ↓b_0l, ↓b_0, ↓b_1, ↓b_2, m_tk, ↓reduceIte, cond_true, cond_false, Option.bind_some, y_Text_copyFrom, e_Text_copyFrom_0, ↓show am_ix 60 = some 60 from rfl, ↓bb cp, e1, and_self, if_true]
theorem c_actBegin {p i : Nat} {st : sTm} (hd : 2 ≤ d) (h : cA f g S.1 S.2) (hb : bd S.1) (hp : p < 3) (hi : i < 6) : ∃ f' g', am_Y d 1 [.ref (14 + 5 * i), .ref (7 + 2 * p), .long (cTh st)] (mM xs f g t u c s) = some (.inl none, mM xs f' g' t u c s) ∧ cA f' g' (mkA S.1 p i) (bU S.2 0 i st) ∧ (∀ x k, (129 ≤ x ∨ (14 ≤ x ∧ x < 44 ∧ (x % 5 = 0 ∨ x % 5 = 1) ∧ x ≠ 15 + 5 * i ∧ x ≠ 16 + 5 * i)) → f' x k = f x k) ∧ frg g g' := by
  obtain ⟨d, rfl⟩ : ∃ e, d = e + 1 := ⟨d - 1, by omega⟩
  have cf := c_copyFrom (xs := xs) (t := t) (u := u) (c := c) (s := s) (show 1 ≤ d by omega) h hp hi
  have h1 := cA_cp h hp hi (hb.2.2.1 p (by omega))
  refine ⟨m_u (m_u (m_cpy f (7 + 2 * p + 1) (15 + 5 * i + 1)) (15 + 5 * i) 1 (nI (S.1 7 p))) (14 + 5 * i) 2 (nI 1), m_w g (14 + 5 * i) 3 (cTh st), ?_, cA_sa (cA_st h1 hi) hi, ?_, frg_w (frg_r g) (by omega)⟩
  · simp (maxSteps := 4000000) (disch := first | omega | assumption) only [↓b_ix, ↓b_l3, ↓b_a3_0, ↓b_a3_1, ↓b_a3_2, ↓b_l4, ↓b_a4_0, ↓b_a4_1, ↓b_a4_2, ↓b_a4_3, ↓b_l129, ↓b_a129_0, ↓b_l130, ↓b_i130_1, ↓b_wi130_1, ↓b_l133, ↓b_a133_0, ↓b_a133_1, ↓b_i133_2, ↓b_wi133_2, ↓b_j133_3, ↓b_wj133_3, ↓b_i133_4, ↓b_wi133_4, ↓b_l134, ↓b_a134_0, ↓b_a134_1, ↓b_i134_2, ↓b_wi134_2, ↓b_i134_3, ↓b_wi134_3, ↓b_l135, ↓b_i135_1, ↓b_wi135_1, ↓b_l139, ↓b_a139_0, ↓b_a139_1, ↓b_a139_2, ↓b_a139_3, ↓b_a139_4, ↓b_a139_5, ↓b_a139_6, ↓b_a139_7, ↓b_a139_8, ↓b_a139_9, ↓b_a139_10, ↓b_a139_11, ↓b_a139_12, ↓b_a139_13, ↓b_a139_14, ↓b_i139_15, ↓b_wi139_15, ↓b_i139_16, ↓b_wi139_16, ↓b_i139_17, ↓b_wi139_17, ↓b_a139_18, ↓b_i139_19, ↓b_wi139_19, ↓b_i139_20, ↓b_wi139_20, ↓b_i139_21, ↓b_wi139_21, ↓b_l6, ↓b_i6, ↓b_wi6, ↓b_l140, ↓b_i140, ↓b_wi140, ↓b_l141, ↓b_i141, ↓b_wi141, ↓b_l142, ↓b_i142, ↓b_wi142, ↓b_l143, ↓b_i143, ↓b_wi143, ↓b_l144, ↓b_j144, ↓b_wj144, ↓b_l145, ↓b_j145, ↓b_wj145, ↓b_l146, ↓b_i146, ↓b_wi146, ↓b_l147, ↓b_i147, ↓b_wi147, ↓b_l148, ↓b_i148, ↓b_wi148, ↓b_l149, ↓b_i149, ↓b_wi149, ↓b_l150, ↓b_j150, ↓b_wj150, ↓b_l151, ↓b_i151, ↓b_wi151, ↓b_l152, ↓b_j152, ↓b_wj152, ↓b_l153, ↓b_i153, ↓b_wi153, ↓b_l154, ↓b_i154, ↓b_wi154, ↓b_l155, ↓b_j155, ↓b_wj155, ↓b_l156, ↓b_j156, ↓b_wj156, ↓b_l138, ↓b_j138, ↓b_wj138, ↓b_a5, ↓b_a13, ↓b_a44, ↓b_lA, ↓b_aA_0, ↓b_aA_1, ↓b_iA_2, ↓b_wiA_2, ↓b_iA_4, ↓b_wiA_4, ↓b_iA_5, ↓b_wiA_5, ↓b_iA_6, ↓b_wiA_6, ↓b_jA_3, ↓b_wjA_3, ↓b_lT, ↓b_lTc, ↓b_aT, ↓b_iT, ↓b_wiT, ↓b_iTc, ↓b_wiTc, ↓b_lW, ↓b_lWc, ↓b_aW, ↓b_iW, ↓b_wiW, ↓b_jWc, ↓b_wjWc, ↓b_rt, ↓b_ru, ↓b_wt, ↓b_wu, ↓b_0l, ↓b_0, ↓b_1, ↓b_2, m_tk, ↓reduceIte, cond_true, cond_false, Option.bind_some, y_Actor_begin, e_Actor_begin_0, ↓b_lT _ (mT_a hi), ↓bV cf]
    rfl
  · intro x k hx
    rw [m_un (by omega), m_un (by omega), cpy_n (by omega)]
theorem c_makeL {p : Nat} {st : sTm} (hd : 2 ≤ d) (h : cA f g S.1 S.2) (hb : bd S.1) (hp : p < 3) : ∀ q i, q + i = 6 → ∃ r f' g', am_X (am_Y d) k_World_make 14 [(0, .ref 4), (1, .int (nI p)), (2, .long (cTh st)), (4, .int (nI i))] [] (mM xs f g t u c s) = some (.inl (some (.int r)), mM xs f' g' t u c s) ∧ frg g g' ∧ (match fFree S.1 q i with
    | none => r = -1 ∧ f' = f ∧ g' = g
    | some k => r = nI k ∧ cA f' g' (mkA S.1 p k) (bU S.2 0 k st) ∧ (∀ x j, (129 ≤ x ∨ (14 ≤ x ∧ x < 44 ∧ (x % 5 = 0 ∨ x % 5 = 1) ∧ x ≠ 15 + 5 * k ∧ x ≠ 16 + 5 * k)) → f' x j = f x j))
  | 0, i, hq => by
    refine ⟨-1, f, g, ?_, frg_r g, rfl, rfl, rfl⟩
    rw [e_World_make_14, l_6, if_pos (nI_le (by omega) (by omega)), e_World_make_60]
  | q + 1, i, hq => by
    have e6 : ¬ nI 6 ≤ nI i := by rw [nI_leI (by omega) (by omega)]; omega
    have hi : i < 6 := by omega
    have hs : f (14 + 5 * i) 2 = nI (S.1 1 i) := h.2.1 i hi
    have h2 := (hb.1 i hi).1
    unfold fFree
    by_cases h0 : S.1 1 i = 0
    · obtain ⟨f', g', y1, y2, y3, y4⟩ := c_actBegin (xs := xs) (t := t) (u := u) (c := c) (s := s) (st := st) hd h hb hp hi
      rw [if_pos h0]
      refine ⟨nI i, f', g', ?_, y4, rfl, y2, y3⟩
      rw [e_World_make_14, l_6, if_neg e6]
      simp (maxSteps := 4000000) (disch := first | omega | assumption) only [↓b_ix, ↓b_l3, ↓b_a3_0, ↓b_a3_1, ↓b_a3_2, ↓b_l4, ↓b_a4_0, ↓b_a4_1, ↓b_a4_2, ↓b_a4_3, ↓b_l129, ↓b_a129_0, ↓b_l130, ↓b_i130_1, ↓b_wi130_1, ↓b_l133, ↓b_a133_0, ↓b_a133_1, ↓b_i133_2, ↓b_wi133_2, ↓b_j133_3, ↓b_wj133_3, ↓b_i133_4, ↓b_wi133_4, ↓b_l134, ↓b_a134_0, ↓b_a134_1, ↓b_i134_2, ↓b_wi134_2, ↓b_i134_3, ↓b_wi134_3, ↓b_l135, ↓b_i135_1, ↓b_wi135_1, ↓b_l139, ↓b_a139_0, ↓b_a139_1, ↓b_a139_2, ↓b_a139_3, ↓b_a139_4, ↓b_a139_5, ↓b_a139_6, ↓b_a139_7, ↓b_a139_8, ↓b_a139_9, ↓b_a139_10, ↓b_a139_11, ↓b_a139_12, ↓b_a139_13, ↓b_a139_14, ↓b_i139_15, ↓b_wi139_15, ↓b_i139_16, ↓b_wi139_16, ↓b_i139_17, ↓b_wi139_17, ↓b_a139_18, ↓b_i139_19, ↓b_wi139_19, ↓b_i139_20, ↓b_wi139_20, ↓b_i139_21, ↓b_wi139_21, ↓b_l6, ↓b_i6, ↓b_wi6, ↓b_l140, ↓b_i140, ↓b_wi140, ↓b_l141, ↓b_i141, ↓b_wi141, ↓b_l142, ↓b_i142, ↓b_wi142, ↓b_l143, ↓b_i143, ↓b_wi143, ↓b_l144, ↓b_j144, ↓b_wj144, ↓b_l145, ↓b_j145, ↓b_wj145, ↓b_l146, ↓b_i146, ↓b_wi146, ↓b_l147, ↓b_i147, ↓b_wi147, ↓b_l148, ↓b_i148, ↓b_wi148, ↓b_l149, ↓b_i149, ↓b_wi149, ↓b_l150, ↓b_j150, ↓b_wj150, ↓b_l151, ↓b_i151, ↓b_wi151, ↓b_l152, ↓b_j152, ↓b_wj152, ↓b_l153, ↓b_i153, ↓b_wi153, ↓b_l154, ↓b_i154, ↓b_wi154, ↓b_l155, ↓b_j155, ↓b_wj155, ↓b_l156, ↓b_j156, ↓b_wj156, ↓b_l138, ↓b_j138, ↓b_wj138, ↓b_a5, ↓b_a13, ↓b_a44, ↓b_lA, ↓b_aA_0, ↓b_aA_1, ↓b_iA_2, ↓b_wiA_2, ↓b_iA_4, ↓b_wiA_4, ↓b_iA_5, ↓b_wiA_5, ↓b_iA_6, ↓b_wiA_6, ↓b_jA_3, ↓b_wjA_3, ↓b_lT, ↓b_lTc, ↓b_aT, ↓b_iT, ↓b_wiT, ↓b_iTc, ↓b_wiTc, ↓b_lW, ↓b_lWc, ↓b_aW, ↓b_iW, ↓b_wiW, ↓b_jWc, ↓b_wjWc, ↓b_rt, ↓b_ru, ↓b_wt, ↓b_wu, ↓b_0l, ↓b_0, ↓b_1, ↓b_2, m_tk, ↓reduceIte, cond_true, cond_false, Option.bind_some, hs, h0, nI_0, ↓bV y1, i_11, i_01, i_1_0, i_0_1, not_true, not_false_eq_true, if_true, if_false, Bool.true_eq_false, Bool.false_eq_true, decide_true, decide_false]
    · rw [if_neg h0]
      obtain ⟨r, f', g', y1, y2, y3⟩ := c_makeL hd h hb hp q (i + 1) (by omega)
      refine ⟨r, f', g', ?_, y2, y3⟩
      have n0 : ¬ nI (S.1 1 i) = 0 := by rw [l_0, nI_eq (by omega) (by omega)]; exact h0
      rw [← y1, e_World_make_14, l_6, if_neg e6]
      simp (maxSteps := 4000000) (disch := first | omega | assumption) only [↓b_ix, ↓b_l3, ↓b_a3_0, ↓b_a3_1, ↓b_a3_2, ↓b_l4, ↓b_a4_0, ↓b_a4_1, ↓b_a4_2, ↓b_a4_3, ↓b_l129, ↓b_a129_0, ↓b_l130, ↓b_i130_1, ↓b_wi130_1, ↓b_l133, ↓b_a133_0, ↓b_a133_1, ↓b_i133_2, ↓b_wi133_2, ↓b_j133_3, ↓b_wj133_3, ↓b_i133_4, ↓b_wi133_4, ↓b_l134, ↓b_a134_0, ↓b_a134_1, ↓b_i134_2, ↓b_wi134_2, ↓b_i134_3, ↓b_wi134_3, ↓b_l135, ↓b_i135_1, ↓b_wi135_1, ↓b_l139, ↓b_a139_0, ↓b_a139_1, ↓b_a139_2, ↓b_a139_3, ↓b_a139_4, ↓b_a139_5, ↓b_a139_6, ↓b_a139_7, ↓b_a139_8, ↓b_a139_9, ↓b_a139_10, ↓b_a139_11, ↓b_a139_12, ↓b_a139_13, ↓b_a139_14, ↓b_i139_15, ↓b_wi139_15, ↓b_i139_16, ↓b_wi139_16, ↓b_i139_17, ↓b_wi139_17, ↓b_a139_18, ↓b_i139_19, ↓b_wi139_19, ↓b_i139_20, ↓b_wi139_20, ↓b_i139_21, ↓b_wi139_21, ↓b_l6, ↓b_i6, ↓b_wi6, ↓b_l140, ↓b_i140, ↓b_wi140, ↓b_l141, ↓b_i141, ↓b_wi141, ↓b_l142, ↓b_i142, ↓b_wi142, ↓b_l143, ↓b_i143, ↓b_wi143, ↓b_l144, ↓b_j144, ↓b_wj144, ↓b_l145, ↓b_j145, ↓b_wj145, ↓b_l146, ↓b_i146, ↓b_wi146, ↓b_l147, ↓b_i147, ↓b_wi147, ↓b_l148, ↓b_i148, ↓b_wi148, ↓b_l149, ↓b_i149, ↓b_wi149, ↓b_l150, ↓b_j150, ↓b_wj150, ↓b_l151, ↓b_i151, ↓b_wi151, ↓b_l152, ↓b_j152, ↓b_wj152, ↓b_l153, ↓b_i153, ↓b_wi153, ↓b_l154, ↓b_i154, ↓b_wi154, ↓b_l155, ↓b_j155, ↓b_wj155, ↓b_l156, ↓b_j156, ↓b_wj156, ↓b_l138, ↓b_j138, ↓b_wj138, ↓b_a5, ↓b_a13, ↓b_a44, ↓b_lA, ↓b_aA_0, ↓b_aA_1, ↓b_iA_2, ↓b_wiA_2, ↓b_iA_4, ↓b_wiA_4, ↓b_iA_5, ↓b_wiA_5, ↓b_iA_6, ↓b_wiA_6, ↓b_jA_3, ↓b_wjA_3, ↓b_lT, ↓b_lTc, ↓b_aT, ↓b_iT, ↓b_wiT, ↓b_iTc, ↓b_wiTc, ↓b_lW, ↓b_lWc, ↓b_aW, ↓b_iW, ↓b_wiW, ↓b_jWc, ↓b_wjWc, ↓b_rt, ↓b_ru, ↓b_wt, ↓b_wu, ↓b_0l, ↓b_0, ↓b_1, ↓b_2, m_tk, ↓reduceIte, cond_true, cond_false, Option.bind_some, e_World_make_0, e_World_make_11, e_World_make_54, e_World_make_60, hs, n0, nI_1, i_11, i_01, i_1_0, i_0_1, not_true, not_false_eq_true, if_true, if_false, Bool.true_eq_false, Bool.false_eq_true, decide_true, decide_false]
theorem c_make {p : Nat} {st : sTm} (hd : 3 ≤ d) (h : cA f g S.1 S.2) (hb : bd S.1) (hp : p < 3) : ∃ r f' g', am_Y d 61 [.ref 4, .int (nI p), .long (cTh st)] (mM xs f g t u c s) = some (.inl (some (.int r)), mM xs f' g' t u c s) ∧ frg g g' ∧ (match pMake S p st with
    | none => r = -1 ∧ f' = f ∧ g' = g
    | some q => r = nI q.1 ∧ cA f' g' q.2.1 q.2.2 ∧ (∀ x j, (129 ≤ x ∨ (14 ≤ x ∧ x < 44 ∧ (x % 5 = 0 ∨ x % 5 = 1) ∧ x ≠ 15 + 5 * q.1 ∧ x ≠ 16 + 5 * q.1)) → f' x j = f x j)) := by
  obtain ⟨d, rfl⟩ : ∃ e, d = e + 1 := ⟨d - 1, by omega⟩
  have hk : f 6 p = nI (S.1 0 p) := h.1 p hp
  have h1 := hb.2.2.2 p hp
  unfold pMake
  by_cases h0 : S.1 0 p = 0
  · rw [if_pos h0]
    refine ⟨-1, f, g, ?_, frg_r g, rfl, rfl, rfl⟩
    simp (maxSteps := 4000000) (disch := first | omega | assumption) only [↓b_ix, ↓b_l3, ↓b_a3_0, ↓b_a3_1, ↓b_a3_2, ↓b_l4, ↓b_a4_0, ↓b_a4_1, ↓b_a4_2, ↓b_a4_3, ↓b_l129, ↓b_a129_0, ↓b_l130, ↓b_i130_1, ↓b_wi130_1, ↓b_l133, ↓b_a133_0, ↓b_a133_1, ↓b_i133_2, ↓b_wi133_2, ↓b_j133_3, ↓b_wj133_3, ↓b_i133_4, ↓b_wi133_4, ↓b_l134, ↓b_a134_0, ↓b_a134_1, ↓b_i134_2, ↓b_wi134_2, ↓b_i134_3, ↓b_wi134_3, ↓b_l135, ↓b_i135_1, ↓b_wi135_1, ↓b_l139, ↓b_a139_0, ↓b_a139_1, ↓b_a139_2, ↓b_a139_3, ↓b_a139_4, ↓b_a139_5, ↓b_a139_6, ↓b_a139_7, ↓b_a139_8, ↓b_a139_9, ↓b_a139_10, ↓b_a139_11, ↓b_a139_12, ↓b_a139_13, ↓b_a139_14, ↓b_i139_15, ↓b_wi139_15, ↓b_i139_16, ↓b_wi139_16, ↓b_i139_17, ↓b_wi139_17, ↓b_a139_18, ↓b_i139_19, ↓b_wi139_19, ↓b_i139_20, ↓b_wi139_20, ↓b_i139_21, ↓b_wi139_21, ↓b_l6, ↓b_i6, ↓b_wi6, ↓b_l140, ↓b_i140, ↓b_wi140, ↓b_l141, ↓b_i141, ↓b_wi141, ↓b_l142, ↓b_i142, ↓b_wi142, ↓b_l143, ↓b_i143, ↓b_wi143, ↓b_l144, ↓b_j144, ↓b_wj144, ↓b_l145, ↓b_j145, ↓b_wj145, ↓b_l146, ↓b_i146, ↓b_wi146, ↓b_l147, ↓b_i147, ↓b_wi147, ↓b_l148, ↓b_i148, ↓b_wi148, ↓b_l149, ↓b_i149, ↓b_wi149, ↓b_l150, ↓b_j150, ↓b_wj150, ↓b_l151, ↓b_i151, ↓b_wi151, ↓b_l152, ↓b_j152, ↓b_wj152, ↓b_l153, ↓b_i153, ↓b_wi153, ↓b_l154, ↓b_i154, ↓b_wi154, ↓b_l155, ↓b_j155, ↓b_wj155, ↓b_l156, ↓b_j156, ↓b_wj156, ↓b_l138, ↓b_j138, ↓b_wj138, ↓b_a5, ↓b_a13, ↓b_a44, ↓b_lA, ↓b_aA_0, ↓b_aA_1, ↓b_iA_2, ↓b_wiA_2, ↓b_iA_4, ↓b_wiA_4, ↓b_iA_5, ↓b_wiA_5, ↓b_iA_6, ↓b_wiA_6, ↓b_jA_3, ↓b_wjA_3, ↓b_lT, ↓b_lTc, ↓b_aT, ↓b_iT, ↓b_wiT, ↓b_iTc, ↓b_wiTc, ↓b_lW, ↓b_lWc, ↓b_aW, ↓b_iW, ↓b_wiW, ↓b_jWc, ↓b_wjWc, ↓b_rt, ↓b_ru, ↓b_wt, ↓b_wu, ↓b_0l, ↓b_0, ↓b_1, ↓b_2, m_tk, ↓reduceIte, cond_true, cond_false, Option.bind_some, y_World_make, e_World_make_0, e_World_make_11, e_World_make_54, e_World_make_60, hk, h0, nI_0, i_11, i_01, i_1_0, i_0_1, not_true, not_false_eq_true, if_true, if_false, Bool.true_eq_false, Bool.false_eq_true, decide_true, decide_false]
  · rw [if_neg h0]
    obtain ⟨r, f', g', y1, y2, y3⟩ := c_makeL (xs := xs) (t := t) (u := u) (c := c) (s := s) (st := st) (show 2 ≤ d by omega) h hb hp 6 0 rfl
    refine ⟨r, f', g', ?_, y2, ?_⟩
    · have n0 : ¬ nI (S.1 0 p) = 0 := by rw [l_0, nI_eq (by omega) (by omega)]; exact h0
      rw [← y1]
      simp (maxSteps := 4000000) (disch := first | omega | assumption) only [↓b_ix, ↓b_l3, ↓b_a3_0, ↓b_a3_1, ↓b_a3_2, ↓b_l4, ↓b_a4_0, ↓b_a4_1, ↓b_a4_2, ↓b_a4_3, ↓b_l129, ↓b_a129_0, ↓b_l130, ↓b_i130_1, ↓b_wi130_1, ↓b_l133, ↓b_a133_0, ↓b_a133_1, ↓b_i133_2, ↓b_wi133_2, ↓b_j133_3, ↓b_wj133_3, ↓b_i133_4, ↓b_wi133_4, ↓b_l134, ↓b_a134_0, ↓b_a134_1, ↓b_i134_2, ↓b_wi134_2, ↓b_i134_3, ↓b_wi134_3, ↓b_l135, ↓b_i135_1, ↓b_wi135_1, ↓b_l139, ↓b_a139_0, ↓b_a139_1, ↓b_a139_2, ↓b_a139_3, ↓b_a139_4, ↓b_a139_5, ↓b_a139_6, ↓b_a139_7, ↓b_a139_8, ↓b_a139_9, ↓b_a139_10, ↓b_a139_11, ↓b_a139_12, ↓b_a139_13, ↓b_a139_14, ↓b_i139_15, ↓b_wi139_15, ↓b_i139_16, ↓b_wi139_16, ↓b_i139_17, ↓b_wi139_17, ↓b_a139_18, ↓b_i139_19, ↓b_wi139_19, ↓b_i139_20, ↓b_wi139_20, ↓b_i139_21, ↓b_wi139_21, ↓b_l6, ↓b_i6, ↓b_wi6, ↓b_l140, ↓b_i140, ↓b_wi140, ↓b_l141, ↓b_i141, ↓b_wi141, ↓b_l142, ↓b_i142, ↓b_wi142, ↓b_l143, ↓b_i143, ↓b_wi143, ↓b_l144, ↓b_j144, ↓b_wj144, ↓b_l145, ↓b_j145, ↓b_wj145, ↓b_l146, ↓b_i146, ↓b_wi146, ↓b_l147, ↓b_i147, ↓b_wi147, ↓b_l148, ↓b_i148, ↓b_wi148, ↓b_l149, ↓b_i149, ↓b_wi149, ↓b_l150, ↓b_j150, ↓b_wj150, ↓b_l151, ↓b_i151, ↓b_wi151, ↓b_l152, ↓b_j152, ↓b_wj152, ↓b_l153, ↓b_i153, ↓b_wi153, ↓b_l154, ↓b_i154, ↓b_wi154, ↓b_l155, ↓b_j155, ↓b_wj155, ↓b_l156, ↓b_j156, ↓b_wj156, ↓b_l138, ↓b_j138, ↓b_wj138, ↓b_a5, ↓b_a13, ↓b_a44, ↓b_lA, ↓b_aA_0, ↓b_aA_1, ↓b_iA_2, ↓b_wiA_2, ↓b_iA_4, ↓b_wiA_4, ↓b_iA_5, ↓b_wiA_5, ↓b_iA_6, ↓b_wiA_6, ↓b_jA_3, ↓b_wjA_3, ↓b_lT, ↓b_lTc, ↓b_aT, ↓b_iT, ↓b_wiT, ↓b_iTc, ↓b_wiTc, ↓b_lW, ↓b_lWc, ↓b_aW, ↓b_iW, ↓b_wiW, ↓b_jWc, ↓b_wjWc, ↓b_rt, ↓b_ru, ↓b_wt, ↓b_wu, ↓b_0l, ↓b_0, ↓b_1, ↓b_2, m_tk, ↓reduceIte, cond_true, cond_false, Option.bind_some, y_World_make, e_World_make_0, e_World_make_11, e_World_make_54, e_World_make_60, hk, n0, i_11, i_01, i_1_0, i_0_1, not_true, not_false_eq_true, if_true, if_false, Bool.true_eq_false, Bool.false_eq_true, decide_true, decide_false]
      rfl
    · cases hf : fFree S.1 6 0 with
      | none => rw [hf] at y3; exact y3
      | some k => rw [hf] at y3; exact y3
end MKE
