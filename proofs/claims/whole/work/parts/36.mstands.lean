/-! THE GRAMMAR OF THE MODEL: one sign -/
section MS
variable {xs : List Int32} {f : mF} {g : mG} {t u c s d : Nat} {x : Int32}
theorem lit_eq {n k : Nat} (h : n ≤ 12) (hk : k ≤ 12) : (nI n = nI k) = (n = k) := by rw [nI_eq (by omega) (by omega)]
theorem rA_push {f : mF} {m fo : Nat} {st : List (Int32 × Bool)} (h : rA f (m, fo, st)) (h4 : st.length ≠ 4) : rA (m_u (m_u (m_u (m_u f 153 st.length x) 154 st.length 0) 139 15 (nI (st.length + 1))) 139 16 1) (1, fo, (x, false) :: st) := by
  obtain ⟨h1, h2, h3, h5, h6, h7, h8⟩ := h
  simp only at h1 h2 h3 h5 h6 h7 h8
  refine ⟨m_uu _, ?_, ?_, by simp; omega, rst_139 (rst_139 ⟨?_, ?_, rst_congr st (fun k hk => ⟨?_, ?_⟩) h6⟩), (show 1 ≤ 12 by decide), h8⟩
  · rw [m_un (by omega), m_un (by omega), m_un (by omega), m_un (by omega)]; exact h2
  · rw [m_un (by omega)]; exact m_uu _
  · rw [m_un (by omega)]; exact m_uu _
  · exact m_uu _
  · rw [m_un (by omega), m_un (by omega)]
  · rw [m_un (by omega), m_un (by omega)]
theorem rA_mode {f : mF} {m fo m' : Nat} {st : List (Int32 × Bool)} (h : rA f (m, fo, st)) (hm : m' ≤ 12) {v : Int32} (hv : v = nI m') : rA (m_u f 139 16 v) (m', fo, st) := by
  obtain ⟨h1, h2, h3, h5, h6, h7, h8⟩ := h
  exact ⟨(m_uu _).trans hv, (m_un (by omega)).trans h2, (m_un (by omega)).trans h3, h5, rst_139 h6, hm, h8⟩
theorem rA_fol {f : mF} {m fo fo' : Nat} {st : List (Int32 × Bool)} (h : rA f (m, fo, st)) (hm : fo' ≤ 4) {v : Int32} (hv : v = nI fo') : rA (m_u f 139 17 v) (m, fo', st) := by
  obtain ⟨h1, h2, h3, h5, h6, h7, h8⟩ := h
  exact ⟨(m_un (by omega)).trans h1, (m_uu _).trans hv, (m_un (by omega)).trans h3, h5, rst_139 h6, h7, hm⟩
theorem rA_pop {f : mF} {m fo : Nat} {st : List (Int32 × Bool)} (h : rA f (m, fo, st)) (hs : st ≠ []) : rA (m_u f 139 15 (f 139 15 - 1)) (m, fo, st.tail) := by
  obtain ⟨h1, h2, h3, h5, h6, h7, h8⟩ := h
  cases st with
  | nil => exact absurd rfl hs
  | cons y r =>
    refine ⟨(m_un (by omega)).trans h1, (m_un (by omega)).trans h2, (m_uu _).trans ?_, by simp at h5 ⊢; omega, rst_139 h6.2.2, h7, h8⟩
    simp only [List.length_cons] at h3
    rw [h3, nI_pred]; rfl
theorem c_piece (hd : 3 ≤ d) {m fo : Nat} {st : List (Int32 × Bool)} (h : rA f (m, fo, st)) : ∃ f', am_Y d 97 [.ref 139, .int x] (mM xs f g t u c s) = some (.inl (some (.int (m_b (pce fo st x).isSome))), mM xs f' g t u c s) ∧ gfr f f' ∧ ∀ A', pce fo st x = some A' → rA f' A' := by
  obtain ⟨d, rfl⟩ : ∃ e, d = e + 1 := ⟨d - 1, by omega⟩
  obtain ⟨h1, h2, h3, h5, h6, h7, h8⟩ := id h
  simp only at h1 h2 h3 h5 h6 h7 h8
  have push : ∃ f', am_X (am_Y d) k_Md_piece 41 [(0, .ref 139), (1, .int x)] [] (mM xs f g t u c s) = some (.inl (some (.int (m_b (decide (st.length ≠ 4))))), mM xs f' g t u c s) ∧ gfr f f' ∧ (st.length ≠ 4 → rA f' (1, fo, (x, false) :: st)) := by
    by_cases h4 : st.length = 4
    · refine ⟨f, ?_, gfr_refl f, fun hh => absurd h4 hh⟩
      have e3 : f 139 15 = 4 := by rw [h3, h4]; rfl
      simp (maxSteps := 4000000) (disch := first | omega | assumption) only [m_l3, m_a3_0, m_a3_1, m_a3_2, m_l4, m_a4_0, m_a4_1, m_a4_2, m_a4_3, m_l129, m_a129_0, m_l130, m_i130_1, m_wi130_1, m_l133, m_a133_0, m_a133_1, m_i133_2, m_wi133_2, m_j133_3, m_wj133_3, m_i133_4, m_wi133_4, m_l134, m_a134_0, m_a134_1, m_i134_2, m_wi134_2, m_i134_3, m_wi134_3, m_l135, m_i135_1, m_wi135_1, m_l139, m_a139_0, m_a139_1, m_a139_2, m_a139_3, m_a139_4, m_a139_5, m_a139_6, m_a139_7, m_a139_8, m_a139_9, m_a139_10, m_a139_11, m_a139_12, m_a139_13, m_a139_14, m_i139_15, m_wi139_15, m_i139_16, m_wi139_16, m_i139_17, m_wi139_17, m_a139_18, m_i139_19, m_wi139_19, m_i139_20, m_wi139_20, m_i139_21, m_wi139_21, m_rt, m_ru, m_wt, m_wu, m_tk, m_l6, m_i6, m_wi6, m_l140, m_i140, m_wi140, m_l141, m_i141, m_wi141, m_l142, m_i142, m_wi142, m_l143, m_i143, m_wi143, m_l144, m_j144, m_wj144, m_l145, m_j145, m_wj145, m_l146, m_i146, m_wi146, m_l147, m_i147, m_wi147, m_l148, m_i148, m_wi148, m_l149, m_i149, m_wi149, m_l150, m_j150, m_wj150, m_l151, m_i151, m_wi151, m_l152, m_j152, m_wj152, m_l153, m_i153, m_wi153, m_l154, m_i154, m_wi154, m_l155, m_j155, m_wj155, m_l156, m_j156, m_wj156, m_l138, m_j138, m_wj138, m_a5, m_a13, m_a44, m_lA, m_aA_0, m_aA_1, m_iA_2, m_wiA_2, m_iA_4, m_wiA_4, m_iA_5, m_wiA_5, m_iA_6, m_wiA_6, m_jA_3, m_wjA_3, m_lT, m_lTc, m_aT, m_iT, m_wiT, m_iTc, m_wiTc, m_lW, m_lWc, m_aW, m_iW, m_wiW, m_jWc, m_wjWc, m_0l, m_0, m_1, m_2, Option.bind_some, am_cI, am_cJ, am_cA, am_cV, cond_true, cond_false, reduceIte, e_Md_piece_41, e3, i_11, i_01, i_1_0, i_0_1, not_true, not_false_eq_true, if_true, if_false, Bool.true_eq_false, Bool.false_eq_true, decide_true, decide_false]
      simp [h4, m_b]
    · refine ⟨m_u (m_u (m_u (m_u f 153 st.length x) 154 st.length 0) 139 15 (nI (st.length + 1))) 139 16 1, ?_, gfr_139 (gfr_139 (gfr_154 (gfr_153 (gfr_refl f))) (by decide)) (by decide), fun _ => rA_push h h4⟩
      have e3 : (nI st.length = 4) = False := by rw [show (4 : Int32) = nI 4 from rfl, nI_eq (by omega) (by omega)]; simp [h4]
      simp (maxSteps := 4000000) (disch := first | omega | assumption) only [m_l3, m_a3_0, m_a3_1, m_a3_2, m_l4, m_a4_0, m_a4_1, m_a4_2, m_a4_3, m_l129, m_a129_0, m_l130, m_i130_1, m_wi130_1, m_l133, m_a133_0, m_a133_1, m_i133_2, m_wi133_2, m_j133_3, m_wj133_3, m_i133_4, m_wi133_4, m_l134, m_a134_0, m_a134_1, m_i134_2, m_wi134_2, m_i134_3, m_wi134_3, m_l135, m_i135_1, m_wi135_1, m_l139, m_a139_0, m_a139_1, m_a139_2, m_a139_3, m_a139_4, m_a139_5, m_a139_6, m_a139_7, m_a139_8, m_a139_9, m_a139_10, m_a139_11, m_a139_12, m_a139_13, m_a139_14, m_i139_15, m_wi139_15, m_i139_16, m_wi139_16, m_i139_17, m_wi139_17, m_a139_18, m_i139_19, m_wi139_19, m_i139_20, m_wi139_20, m_i139_21, m_wi139_21, m_rt, m_ru, m_wt, m_wu, m_tk, m_l6, m_i6, m_wi6, m_l140, m_i140, m_wi140, m_l141, m_i141, m_wi141, m_l142, m_i142, m_wi142, m_l143, m_i143, m_wi143, m_l144, m_j144, m_wj144, m_l145, m_j145, m_wj145, m_l146, m_i146, m_wi146, m_l147, m_i147, m_wi147, m_l148, m_i148, m_wi148, m_l149, m_i149, m_wi149, m_l150, m_j150, m_wj150, m_l151, m_i151, m_wi151, m_l152, m_j152, m_wj152, m_l153, m_i153, m_wi153, m_l154, m_i154, m_wi154, m_l155, m_j155, m_wj155, m_l156, m_j156, m_wj156, m_l138, m_j138, m_wj138, m_a5, m_a13, m_a44, m_lA, m_aA_0, m_aA_1, m_iA_2, m_wiA_2, m_iA_4, m_wiA_4, m_iA_5, m_wiA_5, m_iA_6, m_wiA_6, m_jA_3, m_wjA_3, m_lT, m_lTc, m_aT, m_iT, m_wiT, m_iTc, m_wiTc, m_lW, m_lWc, m_aW, m_iW, m_wiW, m_jWc, m_wjWc, m_0l, m_0, m_1, m_2, Option.bind_some, am_cI, am_cJ, am_cA, am_cV, cond_true, cond_false, reduceIte, e_Md_piece_41, e_Md_piece_51, h3, e3, ix_n, m_un, nI_1, i_11, i_01, i_1_0, i_0_1, not_true, not_false_eq_true, if_true, if_false, Bool.true_eq_false, Bool.false_eq_true, decide_true, decide_false]
      simp [h4, m_b]
  have rest : ∀ s0 : Int32, (s0 = 0 ↔ fo ≠ 0) → ¬ (x = 40 ∨ (fo ≠ 0 ∧ (x = 43 ∨ x = 45 ∨ x = 47))) → ∃ f', am_X (am_Y d) k_Md_piece 88 [(0, .ref 139), (1, .int x), (2, .int s0)] [] (mM xs f g t u c s) = some (.inl (some (.int (m_b (pce fo st x).isSome))), mM xs f' g t u c s) ∧ gfr f f' ∧ ∀ A', pce fo st x = some A' → rA f' A' := by
    intro s0 hs hop
    by_cases h39 : x = 39
    · refine ⟨m_u f 139 16 8, ?_, gfr_139 (gfr_refl f) (by decide), fun A' hA => ?_⟩
      · simp (maxSteps := 4000000) (disch := first | omega | assumption) only [m_l3, m_a3_0, m_a3_1, m_a3_2, m_l4, m_a4_0, m_a4_1, m_a4_2, m_a4_3, m_l129, m_a129_0, m_l130, m_i130_1, m_wi130_1, m_l133, m_a133_0, m_a133_1, m_i133_2, m_wi133_2, m_j133_3, m_wj133_3, m_i133_4, m_wi133_4, m_l134, m_a134_0, m_a134_1, m_i134_2, m_wi134_2, m_i134_3, m_wi134_3, m_l135, m_i135_1, m_wi135_1, m_l139, m_a139_0, m_a139_1, m_a139_2, m_a139_3, m_a139_4, m_a139_5, m_a139_6, m_a139_7, m_a139_8, m_a139_9, m_a139_10, m_a139_11, m_a139_12, m_a139_13, m_a139_14, m_i139_15, m_wi139_15, m_i139_16, m_wi139_16, m_i139_17, m_wi139_17, m_a139_18, m_i139_19, m_wi139_19, m_i139_20, m_wi139_20, m_i139_21, m_wi139_21, m_rt, m_ru, m_wt, m_wu, m_tk, m_l6, m_i6, m_wi6, m_l140, m_i140, m_wi140, m_l141, m_i141, m_wi141, m_l142, m_i142, m_wi142, m_l143, m_i143, m_wi143, m_l144, m_j144, m_wj144, m_l145, m_j145, m_wj145, m_l146, m_i146, m_wi146, m_l147, m_i147, m_wi147, m_l148, m_i148, m_wi148, m_l149, m_i149, m_wi149, m_l150, m_j150, m_wj150, m_l151, m_i151, m_wi151, m_l152, m_j152, m_wj152, m_l153, m_i153, m_wi153, m_l154, m_i154, m_wi154, m_l155, m_j155, m_wj155, m_l156, m_j156, m_wj156, m_l138, m_j138, m_wj138, m_a5, m_a13, m_a44, m_lA, m_aA_0, m_aA_1, m_iA_2, m_wiA_2, m_iA_4, m_wiA_4, m_iA_5, m_wiA_5, m_iA_6, m_wiA_6, m_jA_3, m_wjA_3, m_lT, m_lTc, m_aT, m_iT, m_wiT, m_iTc, m_wiTc, m_lW, m_lWc, m_aW, m_iW, m_wiW, m_jWc, m_wjWc, m_0l, m_0, m_1, m_2, Option.bind_some, am_cI, am_cJ, am_cA, am_cV, cond_true, cond_false, reduceIte, e_Md_piece_88, h39, i_11, i_01, i_1_0, i_0_1, not_true, not_false_eq_true, if_true, if_false, Bool.true_eq_false, Bool.false_eq_true, decide_true, decide_false]
        simp only [pce, h39, show ¬ ((39 : Int32) = 40 ∨ (fo ≠ 0 ∧ ((39 : Int32) = 43 ∨ (39 : Int32) = 45 ∨ (39 : Int32) = 47))) by rintro (h | ⟨_, h | h | h⟩) <;> exact absurd h (by decide), if_true, if_false, Option.isSome, m_b, cond_true]
      · subst h39
        simp only [pce, hop, if_false, if_true, Option.some.injEq] at hA
        subst hA
        exact rA_mode h (by decide) rfl
    · by_cases hsim : isD x = true ∨ isA x = true ∨ isV x = true ∨ x = (if fo = 0 then 95 else 35)
      · obtain ⟨f', e1, e2, e3⟩ := c_complete (xs := xs) (g := g) (t := t) (u := u) (c := c) (s := s) (show 1 ≤ d by omega) st h
        refine ⟨f', ?_, e3, fun A' hA => ?_⟩
        · have r : am_X (am_Y d) k_Md_piece 140 [(0, .ref 139)] [] (mM xs f g t u c s) = some (.inl (some (.int 1)), mM xs f' g t u c s) := by
            simp (maxSteps := 4000000) (disch := first | omega | assumption) only [m_l3, m_a3_0, m_a3_1, m_a3_2, m_l4, m_a4_0, m_a4_1, m_a4_2, m_a4_3, m_l129, m_a129_0, m_l130, m_i130_1, m_wi130_1, m_l133, m_a133_0, m_a133_1, m_i133_2, m_wi133_2, m_j133_3, m_wj133_3, m_i133_4, m_wi133_4, m_l134, m_a134_0, m_a134_1, m_i134_2, m_wi134_2, m_i134_3, m_wi134_3, m_l135, m_i135_1, m_wi135_1, m_l139, m_a139_0, m_a139_1, m_a139_2, m_a139_3, m_a139_4, m_a139_5, m_a139_6, m_a139_7, m_a139_8, m_a139_9, m_a139_10, m_a139_11, m_a139_12, m_a139_13, m_a139_14, m_i139_15, m_wi139_15, m_i139_16, m_wi139_16, m_i139_17, m_wi139_17, m_a139_18, m_i139_19, m_wi139_19, m_i139_20, m_wi139_20, m_i139_21, m_wi139_21, m_rt, m_ru, m_wt, m_wu, m_tk, m_l6, m_i6, m_wi6, m_l140, m_i140, m_wi140, m_l141, m_i141, m_wi141, m_l142, m_i142, m_wi142, m_l143, m_i143, m_wi143, m_l144, m_j144, m_wj144, m_l145, m_j145, m_wj145, m_l146, m_i146, m_wi146, m_l147, m_i147, m_wi147, m_l148, m_i148, m_wi148, m_l149, m_i149, m_wi149, m_l150, m_j150, m_wj150, m_l151, m_i151, m_wi151, m_l152, m_j152, m_wj152, m_l153, m_i153, m_wi153, m_l154, m_i154, m_wi154, m_l155, m_j155, m_wj155, m_l156, m_j156, m_wj156, m_l138, m_j138, m_wj138, m_a5, m_a13, m_a44, m_lA, m_aA_0, m_aA_1, m_iA_2, m_wiA_2, m_iA_4, m_wiA_4, m_iA_5, m_wiA_5, m_iA_6, m_wiA_6, m_jA_3, m_wjA_3, m_lT, m_lTc, m_aT, m_iT, m_wiT, m_iTc, m_wiTc, m_lW, m_lWc, m_aW, m_iW, m_wiW, m_jWc, m_wjWc, m_0l, m_0, m_1, m_2, Option.bind_some, am_cI, am_cJ, am_cA, am_cV, cond_true, cond_false, reduceIte, e_Md_piece_140, e1, i_11, i_01, i_1_0, i_0_1, not_true, not_false_eq_true, if_true, if_false, Bool.true_eq_false, Bool.false_eq_true, decide_true, decide_false]
          simp only [pce, hop, if_false, h39, hsim, if_true, Option.isSome, m_b, cond_true]
          simp (maxSteps := 4000000) (disch := first | omega | assumption) only [m_l3, m_a3_0, m_a3_1, m_a3_2, m_l4, m_a4_0, m_a4_1, m_a4_2, m_a4_3, m_l129, m_a129_0, m_l130, m_i130_1, m_wi130_1, m_l133, m_a133_0, m_a133_1, m_i133_2, m_wi133_2, m_j133_3, m_wj133_3, m_i133_4, m_wi133_4, m_l134, m_a134_0, m_a134_1, m_i134_2, m_wi134_2, m_i134_3, m_wi134_3, m_l135, m_i135_1, m_wi135_1, m_l139, m_a139_0, m_a139_1, m_a139_2, m_a139_3, m_a139_4, m_a139_5, m_a139_6, m_a139_7, m_a139_8, m_a139_9, m_a139_10, m_a139_11, m_a139_12, m_a139_13, m_a139_14, m_i139_15, m_wi139_15, m_i139_16, m_wi139_16, m_i139_17, m_wi139_17, m_a139_18, m_i139_19, m_wi139_19, m_i139_20, m_wi139_20, m_i139_21, m_wi139_21, m_rt, m_ru, m_wt, m_wu, m_tk, m_l6, m_i6, m_wi6, m_l140, m_i140, m_wi140, m_l141, m_i141, m_wi141, m_l142, m_i142, m_wi142, m_l143, m_i143, m_wi143, m_l144, m_j144, m_wj144, m_l145, m_j145, m_wj145, m_l146, m_i146, m_wi146, m_l147, m_i147, m_wi147, m_l148, m_i148, m_wi148, m_l149, m_i149, m_wi149, m_l150, m_j150, m_wj150, m_l151, m_i151, m_wi151, m_l152, m_j152, m_wj152, m_l153, m_i153, m_wi153, m_l154, m_i154, m_wi154, m_l155, m_j155, m_wj155, m_l156, m_j156, m_wj156, m_l138, m_j138, m_wj138, m_a5, m_a13, m_a44, m_lA, m_aA_0, m_aA_1, m_iA_2, m_wiA_2, m_iA_4, m_wiA_4, m_iA_5, m_wiA_5, m_iA_6, m_wiA_6, m_jA_3, m_wjA_3, m_lT, m_lTc, m_aT, m_iT, m_wiT, m_iTc, m_wiTc, m_lW, m_lWc, m_aW, m_iW, m_wiW, m_jWc, m_wjWc, m_0l, m_0, m_1, m_2, Option.bind_some, am_cI, am_cJ, am_cA, am_cV, cond_true, cond_false, reduceIte, e_Md_piece_0, e_Md_piece_11, e_Md_piece_12, e_Md_piece_41, e_Md_piece_51, e_Md_piece_88, e_Md_piece_102, e_Md_piece_133, e_Md_piece_135, c_isDigit, c_isAtom, c_mvariableOf, m_b0, vOf_nn, h39, r, i_11, i_01, i_1_0, i_0_1, not_true, not_false_eq_true, if_true, if_false, Bool.true_eq_false, Bool.false_eq_true, decide_true, decide_false]
          cases hD : isD x
          case true => simp only [i_11, i_01, i_1_0, i_0_1, not_true, not_false_eq_true, if_true, if_false, Bool.true_eq_false, Bool.false_eq_true, decide_true, decide_false]
          case false =>
            cases hA : isA x
            case true => simp only [i_11, i_01, i_1_0, i_0_1, not_true, not_false_eq_true, if_true, if_false, Bool.true_eq_false, Bool.false_eq_true, decide_true, decide_false]
            case false =>
              cases hV : isV x
              case true => simp only [i_11, i_01, i_1_0, i_0_1, not_true, not_false_eq_true, if_true, if_false, Bool.true_eq_false, Bool.false_eq_true, decide_true, decide_false]
              case false =>
                have hx : x = (if fo = 0 then 95 else 35) := by simpa only [hD, hA, hV, Bool.false_eq_true, false_or] using hsim
                simp only [i_11, i_01, i_1_0, i_0_1, not_true, not_false_eq_true, if_true, if_false, Bool.true_eq_false, Bool.false_eq_true, decide_true, decide_false]
                by_cases hfo : fo = 0
                · have : ¬ s0 = 0 := fun e => (hs.mp e) hfo
                  simp only [hfo, if_true] at hx
                  simp only [this, hx, if_false, if_true]
                · have : s0 = 0 := hs.mpr hfo
                  simp only [hfo, if_false] at hx
                  simp only [this, hx, if_false, if_true]
        · simp only [pce, hop, if_false, h39, hsim, if_true, Option.some.injEq] at hA
          subst hA
          exact e2
      · refine ⟨f, ?_, gfr_refl f, fun A' hA => ?_⟩
        · simp only [pce, hop, if_false, h39, hsim, Option.isSome, m_b, cond_false]
          have hD : isD x = false := Bool.eq_false_iff.mpr fun e => hsim (.inl e)
          have hA : isA x = false := Bool.eq_false_iff.mpr fun e => hsim (.inr (.inl e))
          have hV : isV x = false := Bool.eq_false_iff.mpr fun e => hsim (.inr (.inr (.inl e)))
          have hx : ¬ x = (if fo = 0 then 95 else 35) := fun e => hsim (.inr (.inr (.inr e)))
          simp (maxSteps := 4000000) (disch := first | omega | assumption) only [m_l3, m_a3_0, m_a3_1, m_a3_2, m_l4, m_a4_0, m_a4_1, m_a4_2, m_a4_3, m_l129, m_a129_0, m_l130, m_i130_1, m_wi130_1, m_l133, m_a133_0, m_a133_1, m_i133_2, m_wi133_2, m_j133_3, m_wj133_3, m_i133_4, m_wi133_4, m_l134, m_a134_0, m_a134_1, m_i134_2, m_wi134_2, m_i134_3, m_wi134_3, m_l135, m_i135_1, m_wi135_1, m_l139, m_a139_0, m_a139_1, m_a139_2, m_a139_3, m_a139_4, m_a139_5, m_a139_6, m_a139_7, m_a139_8, m_a139_9, m_a139_10, m_a139_11, m_a139_12, m_a139_13, m_a139_14, m_i139_15, m_wi139_15, m_i139_16, m_wi139_16, m_i139_17, m_wi139_17, m_a139_18, m_i139_19, m_wi139_19, m_i139_20, m_wi139_20, m_i139_21, m_wi139_21, m_rt, m_ru, m_wt, m_wu, m_tk, m_l6, m_i6, m_wi6, m_l140, m_i140, m_wi140, m_l141, m_i141, m_wi141, m_l142, m_i142, m_wi142, m_l143, m_i143, m_wi143, m_l144, m_j144, m_wj144, m_l145, m_j145, m_wj145, m_l146, m_i146, m_wi146, m_l147, m_i147, m_wi147, m_l148, m_i148, m_wi148, m_l149, m_i149, m_wi149, m_l150, m_j150, m_wj150, m_l151, m_i151, m_wi151, m_l152, m_j152, m_wj152, m_l153, m_i153, m_wi153, m_l154, m_i154, m_wi154, m_l155, m_j155, m_wj155, m_l156, m_j156, m_wj156, m_l138, m_j138, m_wj138, m_a5, m_a13, m_a44, m_lA, m_aA_0, m_aA_1, m_iA_2, m_wiA_2, m_iA_4, m_wiA_4, m_iA_5, m_wiA_5, m_iA_6, m_wiA_6, m_jA_3, m_wjA_3, m_lT, m_lTc, m_aT, m_iT, m_wiT, m_iTc, m_wiTc, m_lW, m_lWc, m_aW, m_iW, m_wiW, m_jWc, m_wjWc, m_0l, m_0, m_1, m_2, Option.bind_some, am_cI, am_cJ, am_cA, am_cV, cond_true, cond_false, reduceIte, e_Md_piece_0, e_Md_piece_11, e_Md_piece_12, e_Md_piece_41, e_Md_piece_51, e_Md_piece_88, e_Md_piece_102, e_Md_piece_133, e_Md_piece_135, c_isDigit, c_isAtom, c_mvariableOf, m_b0, vOf_nn, h39, hD, hA, hV, i_11, i_01, i_1_0, i_0_1, not_true, not_false_eq_true, if_true, if_false, Bool.true_eq_false, Bool.false_eq_true, decide_true, decide_false]
          by_cases hfo : fo = 0
          · have : ¬ s0 = 0 := fun e => (hs.mp e) hfo
            simp only [hfo, if_true] at hx
            simp only [this, hx, if_false, if_true]
          · have : s0 = 0 := hs.mpr hfo
            simp only [hfo, if_false] at hx
            simp only [this, hx, if_false, if_true]
        · simp only [pce, hop, if_false, h39, hsim] at hA
          exact nomatch hA
  have top : ∀ s0 : Int32, (s0 = 0 ↔ fo ≠ 0) → ∃ f', am_X (am_Y d) k_Md_piece 12 [(0, .ref 139), (1, .int x)] [.int s0] (mM xs f g t u c s) = some (.inl (some (.int (m_b (pce fo st x).isSome))), mM xs f' g t u c s) ∧ gfr f f' ∧ ∀ A', pce fo st x = some A' → rA f' A' := by
    intro s0 hs
    by_cases hop : x = 40 ∨ (fo ≠ 0 ∧ (x = 43 ∨ x = 45 ∨ x = 47))
    · obtain ⟨f', e1, e2, e3⟩ := push
      refine ⟨f', ?_, e2, fun A' hA => ?_⟩
      · rw [e_Md_piece_12]
        have : (pce fo st x).isSome = decide (st.length ≠ 4) := by
          simp only [pce, hop, if_true]
          by_cases h4 : st.length = 4 <;> simp [h4]
        rw [this, ← e1]
        rcases hop with h40 | ⟨hf, hh⟩
        · simp only [h40, if_true]
        · have hs0 : s0 = 0 := hs.mpr hf
          rcases hh with hh | hh | hh
          · simp only [hh, hs0, show ¬ (43 : Int32) = 40 by decide, not_true, if_true, if_false]
          · simp only [hh, hs0, show ¬ (45 : Int32) = 40 by decide, show ¬ (45 : Int32) = 43 by decide, not_true, if_true, if_false]
          · simp only [hh, hs0, show ¬ (47 : Int32) = 40 by decide, show ¬ (47 : Int32) = 43 by decide, show ¬ (47 : Int32) = 45 by decide, not_true, if_true, if_false]
      · simp only [pce, hop, if_true] at hA
        by_cases h4 : st.length = 4
        · simp only [h4, if_true] at hA; exact nomatch hA
        · simp only [h4, if_false, Option.some.injEq] at hA
          subst hA
          exact e3 h4
    · obtain ⟨f', e1, e2, e3⟩ := rest s0 hs hop
      refine ⟨f', ?_, e2, e3⟩
      rw [e_Md_piece_12, ← e1]
      have h40 : ¬ x = 40 := fun e => hop (.inl e)
      by_cases hs0 : s0 = 0
      · have hf := hs.mp hs0
        have h43 : ¬ x = 43 := fun e => hop (.inr ⟨hf, .inl e⟩)
        have h45 : ¬ x = 45 := fun e => hop (.inr ⟨hf, .inr (.inl e)⟩)
        have h47 : ¬ x = 47 := fun e => hop (.inr ⟨hf, .inr (.inr e)⟩)
        simp only [h40, hs0, h43, h45, h47, not_true, not_false_eq_true, if_true, if_false]
      · simp only [h40, hs0, not_false_eq_true, if_true, if_false]
  rw [y_Md_piece, e_Md_piece_0]
  by_cases hfo : fo = 0
  · obtain ⟨f', e1, e2, e3⟩ := top 1 ⟨fun h => absurd h (by decide), fun h => absurd hfo h⟩
    refine ⟨f', ?_, e2, e3⟩
    rw [← e1]
    have e17 : f 139 17 = 0 := by rw [h2, hfo]; rfl
    simp (maxSteps := 4000000) (disch := first | omega | assumption) only [m_l3, m_a3_0, m_a3_1, m_a3_2, m_l4, m_a4_0, m_a4_1, m_a4_2, m_a4_3, m_l129, m_a129_0, m_l130, m_i130_1, m_wi130_1, m_l133, m_a133_0, m_a133_1, m_i133_2, m_wi133_2, m_j133_3, m_wj133_3, m_i133_4, m_wi133_4, m_l134, m_a134_0, m_a134_1, m_i134_2, m_wi134_2, m_i134_3, m_wi134_3, m_l135, m_i135_1, m_wi135_1, m_l139, m_a139_0, m_a139_1, m_a139_2, m_a139_3, m_a139_4, m_a139_5, m_a139_6, m_a139_7, m_a139_8, m_a139_9, m_a139_10, m_a139_11, m_a139_12, m_a139_13, m_a139_14, m_i139_15, m_wi139_15, m_i139_16, m_wi139_16, m_i139_17, m_wi139_17, m_a139_18, m_i139_19, m_wi139_19, m_i139_20, m_wi139_20, m_i139_21, m_wi139_21, m_rt, m_ru, m_wt, m_wu, m_tk, m_l6, m_i6, m_wi6, m_l140, m_i140, m_wi140, m_l141, m_i141, m_wi141, m_l142, m_i142, m_wi142, m_l143, m_i143, m_wi143, m_l144, m_j144, m_wj144, m_l145, m_j145, m_wj145, m_l146, m_i146, m_wi146, m_l147, m_i147, m_wi147, m_l148, m_i148, m_wi148, m_l149, m_i149, m_wi149, m_l150, m_j150, m_wj150, m_l151, m_i151, m_wi151, m_l152, m_j152, m_wj152, m_l153, m_i153, m_wi153, m_l154, m_i154, m_wi154, m_l155, m_j155, m_wj155, m_l156, m_j156, m_wj156, m_l138, m_j138, m_wj138, m_a5, m_a13, m_a44, m_lA, m_aA_0, m_aA_1, m_iA_2, m_wiA_2, m_iA_4, m_wiA_4, m_iA_5, m_wiA_5, m_iA_6, m_wiA_6, m_jA_3, m_wjA_3, m_lT, m_lTc, m_aT, m_iT, m_wiT, m_iTc, m_wiTc, m_lW, m_lWc, m_aW, m_iW, m_wiW, m_jWc, m_wjWc, m_0l, m_0, m_1, m_2, Option.bind_some, am_cI, am_cJ, am_cA, am_cV, cond_true, cond_false, reduceIte, e17, i_11, i_01, i_1_0, i_0_1, not_true, not_false_eq_true, if_true, if_false, Bool.true_eq_false, Bool.false_eq_true, decide_true, decide_false]
  · obtain ⟨f', e1, e2, e3⟩ := top 0 ⟨fun _ => hfo, fun _ => rfl⟩
    refine ⟨f', ?_, e2, e3⟩
    rw [← e1]
    have e17 : ¬ nI fo = 0 := nI_ne0 (by omega) (by omega)
    simp (maxSteps := 4000000) (disch := first | omega | assumption) only [m_l3, m_a3_0, m_a3_1, m_a3_2, m_l4, m_a4_0, m_a4_1, m_a4_2, m_a4_3, m_l129, m_a129_0, m_l130, m_i130_1, m_wi130_1, m_l133, m_a133_0, m_a133_1, m_i133_2, m_wi133_2, m_j133_3, m_wj133_3, m_i133_4, m_wi133_4, m_l134, m_a134_0, m_a134_1, m_i134_2, m_wi134_2, m_i134_3, m_wi134_3, m_l135, m_i135_1, m_wi135_1, m_l139, m_a139_0, m_a139_1, m_a139_2, m_a139_3, m_a139_4, m_a139_5, m_a139_6, m_a139_7, m_a139_8, m_a139_9, m_a139_10, m_a139_11, m_a139_12, m_a139_13, m_a139_14, m_i139_15, m_wi139_15, m_i139_16, m_wi139_16, m_i139_17, m_wi139_17, m_a139_18, m_i139_19, m_wi139_19, m_i139_20, m_wi139_20, m_i139_21, m_wi139_21, m_rt, m_ru, m_wt, m_wu, m_tk, m_l6, m_i6, m_wi6, m_l140, m_i140, m_wi140, m_l141, m_i141, m_wi141, m_l142, m_i142, m_wi142, m_l143, m_i143, m_wi143, m_l144, m_j144, m_wj144, m_l145, m_j145, m_wj145, m_l146, m_i146, m_wi146, m_l147, m_i147, m_wi147, m_l148, m_i148, m_wi148, m_l149, m_i149, m_wi149, m_l150, m_j150, m_wj150, m_l151, m_i151, m_wi151, m_l152, m_j152, m_wj152, m_l153, m_i153, m_wi153, m_l154, m_i154, m_wi154, m_l155, m_j155, m_wj155, m_l156, m_j156, m_wj156, m_l138, m_j138, m_wj138, m_a5, m_a13, m_a44, m_lA, m_aA_0, m_aA_1, m_iA_2, m_wiA_2, m_iA_4, m_wiA_4, m_iA_5, m_wiA_5, m_iA_6, m_wiA_6, m_jA_3, m_wjA_3, m_lT, m_lTc, m_aT, m_iT, m_wiT, m_iTc, m_wiTc, m_lW, m_lWc, m_aW, m_iW, m_wiW, m_jWc, m_wjWc, m_0l, m_0, m_1, m_2, Option.bind_some, am_cI, am_cJ, am_cA, am_cV, cond_true, cond_false, reduceIte, h2, e17, e_Md_piece_11, i_11, i_01, i_1_0, i_0_1, not_true, not_false_eq_true, if_true, if_false, Bool.true_eq_false, Bool.false_eq_true, decide_true, decide_false]
end MS
