/-! THE GRAMMAR OF THE CLASS: actions, the whole -/
section GRC3
variable {xs : List Int32} {f : mF} {g : mG} {t u c s d i n : Nat}
theorem e60 {k : Nat} (h : k < 60) : ((60 : Int32) ≤ nI k) = False := by rw [show (60 : Int32) = nI 60 from rfl, nI_leI (by omega) (by omega)]; simp; omega
theorem e60' : ((60 : Int32) ≤ nI 60) = True := by decide
theorem c_readActions (hT : mX f t n) (hd : 10 ≤ d) : am_Y d 20 [.ref 129] (mM xs (m_u f 130 1 (nP (i))) g t u c s) = some (.inl (some (.int (m_b (pActs (f (t + 1)) n 60 i).1))), (mM xs (m_u f 130 1 (nP ((pActs (f (t + 1)) n 60 i).2))) g t u c s)) := by
  obtain ⟨d, rfl⟩ : ∃ e, d = e + 1 := ⟨d - 1, by omega⟩
  have key : ∀ (m k i : Nat), k + m = 60 → am_X (am_Y d) k_Grammar_readActions 2 [(0, .ref 129), (1, .int (nI k))] [] (mM xs (m_u f 130 1 (nP (i))) g t u c s) = some (.inl (some (.int (m_b (pActs (f (t + 1)) n m i).1))), (mM xs (m_u f 130 1 (nP ((pActs (f (t + 1)) n m i).2))) g t u c s)) := by
    intro m
    induction m with
    | zero =>
      intro k i hk
      obtain rfl : k = 60 := by omega
      rw [e_Grammar_readActions_2]
      simp only [e60', if_true, e_Grammar_readActions_37]
      rfl
    | succ m ih =>
      intro k i hk
      rw [e_Grammar_readActions_2]
      simp (maxSteps := 4000000) (disch := first | omega | assumption) only [m_l3, m_a3_0, m_a3_1, m_a3_2, m_l4, m_a4_0, m_a4_1, m_a4_2, m_a4_3, m_l129, m_a129_0, m_l130, m_i130_1, m_wi130_1, m_l133, m_a133_0, m_a133_1, m_i133_2, m_wi133_2, m_j133_3, m_wj133_3, m_i133_4, m_wi133_4, m_l134, m_a134_0, m_a134_1, m_i134_2, m_wi134_2, m_i134_3, m_wi134_3, m_l135, m_i135_1, m_wi135_1, m_l139, m_a139_0, m_a139_1, m_a139_2, m_a139_3, m_a139_4, m_a139_5, m_a139_6, m_a139_7, m_a139_8, m_a139_9, m_a139_10, m_a139_11, m_a139_12, m_a139_13, m_a139_14, m_i139_15, m_wi139_15, m_i139_16, m_wi139_16, m_i139_17, m_wi139_17, m_a139_18, m_i139_19, m_wi139_19, m_i139_20, m_wi139_20, m_i139_21, m_wi139_21, m_rt, m_ru, m_wt, m_wu, m_tk, m_l6, m_i6, m_wi6, m_l140, m_i140, m_wi140, m_l141, m_i141, m_wi141, m_l142, m_i142, m_wi142, m_l143, m_i143, m_wi143, m_l144, m_j144, m_wj144, m_l145, m_j145, m_wj145, m_l146, m_i146, m_wi146, m_l147, m_i147, m_wi147, m_l148, m_i148, m_wi148, m_l149, m_i149, m_wi149, m_l150, m_j150, m_wj150, m_l151, m_i151, m_wi151, m_l152, m_j152, m_wj152, m_l153, m_i153, m_wi153, m_l154, m_i154, m_wi154, m_l155, m_j155, m_wj155, m_l156, m_j156, m_wj156, m_l138, m_j138, m_wj138, m_a5, m_a13, m_a44, m_lA, m_aA_0, m_aA_1, m_iA_2, m_wiA_2, m_iA_4, m_wiA_4, m_iA_5, m_wiA_5, m_iA_6, m_wiA_6, m_jA_3, m_wjA_3, m_lT, m_lTc, m_aT, m_iT, m_wiT, m_iTc, m_wiTc, m_lW, m_lWc, m_aW, m_iW, m_wiW, m_jWc, m_wjWc, m_0l, m_0, m_1, m_2, Option.bind_some, am_cI, am_cJ, am_cA, am_cV, cond_true, cond_false, reduceIte, e_Grammar_readActions_0, e_Grammar_readActions_22, e_Grammar_readActions_31, e_Grammar_readActions_37, e60, if_false, c_accept1 (f := f) _ hT, c_readAction (f := f) _ hT, m_b0, nI_1, ih (k + 1) _ (by omega)]
      simp only [pActs, pq]
      cases h1 : (pa (f (t + 1)) n 59 i).1
      · cases h2 : (pAct (f (t + 1)) n (pa (f (t + 1)) n 59 i).2).1
        · simp [h2, m_b]
        · simp [h2]
      · simp [m_b]
  have := key 60 0 i rfl
  rw [y_Grammar_readActions, e_Grammar_readActions_0]
  exact this
theorem c_placeOfFault (hd : 11 ≤ d) {T : Nat} (hT : mX f T n) : ∃ j, am_Y d 14 [.ref 129, .ref T] (mM xs f g t u c s) = some (.inl (some (.int (match pAll (f (T + 1)) n 60 0 with | none => -2 | some i => nP i))), mM xs (m_u f 130 1 (nP j)) g T u c s) := by
  obtain ⟨d, rfl⟩ : ∃ e, d = e + 1 := ⟨d - 1, by omega⟩
  have key : ∀ (m k i : Nat), k + m = 60 → ∃ j, am_X (am_Y d) k_Grammar_placeOfFault 10 [(0, .ref 129), (2, .int (nI k))] [] (mM xs (m_u f 130 1 (nP i)) g T u c s) = some (.inl (some (.int (match pAll (f (T + 1)) n m i with | none => -2 | some i => nP i))), mM xs (m_u f 130 1 (nP j)) g T u c s) := by
    intro m
    induction m with
    | zero =>
      intro k i hk
      obtain rfl : k = 60 := by omega
      refine ⟨i, ?_⟩
      rw [e_Grammar_placeOfFault_10]
      simp only [e60', if_true, e_Grammar_placeOfFault_84]
      rfl
    | succ m ih =>
      intro k i hk
      rw [e_Grammar_placeOfFault_10]
      simp (maxSteps := 4000000) (disch := first | omega | assumption) only [m_l3, m_a3_0, m_a3_1, m_a3_2, m_l4, m_a4_0, m_a4_1, m_a4_2, m_a4_3, m_l129, m_a129_0, m_l130, m_i130_1, m_wi130_1, m_l133, m_a133_0, m_a133_1, m_i133_2, m_wi133_2, m_j133_3, m_wj133_3, m_i133_4, m_wi133_4, m_l134, m_a134_0, m_a134_1, m_i134_2, m_wi134_2, m_i134_3, m_wi134_3, m_l135, m_i135_1, m_wi135_1, m_l139, m_a139_0, m_a139_1, m_a139_2, m_a139_3, m_a139_4, m_a139_5, m_a139_6, m_a139_7, m_a139_8, m_a139_9, m_a139_10, m_a139_11, m_a139_12, m_a139_13, m_a139_14, m_i139_15, m_wi139_15, m_i139_16, m_wi139_16, m_i139_17, m_wi139_17, m_a139_18, m_i139_19, m_wi139_19, m_i139_20, m_wi139_20, m_i139_21, m_wi139_21, m_rt, m_ru, m_wt, m_wu, m_tk, m_l6, m_i6, m_wi6, m_l140, m_i140, m_wi140, m_l141, m_i141, m_wi141, m_l142, m_i142, m_wi142, m_l143, m_i143, m_wi143, m_l144, m_j144, m_wj144, m_l145, m_j145, m_wj145, m_l146, m_i146, m_wi146, m_l147, m_i147, m_wi147, m_l148, m_i148, m_wi148, m_l149, m_i149, m_wi149, m_l150, m_j150, m_wj150, m_l151, m_i151, m_wi151, m_l152, m_j152, m_wj152, m_l153, m_i153, m_wi153, m_l154, m_i154, m_wi154, m_l155, m_j155, m_wj155, m_l156, m_j156, m_wj156, m_l138, m_j138, m_wj138, m_a5, m_a13, m_a44, m_lA, m_aA_0, m_aA_1, m_iA_2, m_wiA_2, m_iA_4, m_wiA_4, m_iA_5, m_wiA_5, m_iA_6, m_wiA_6, m_jA_3, m_wjA_3, m_lT, m_lTc, m_aT, m_iT, m_wiT, m_iTc, m_wiTc, m_lW, m_lWc, m_aW, m_iW, m_wiW, m_jWc, m_wjWc, m_0l, m_0, m_1, m_2, Option.bind_some, am_cI, am_cJ, am_cA, am_cV, cond_true, cond_false, reduceIte, e_Grammar_placeOfFault_0, e_Grammar_placeOfFault_64, e_Grammar_placeOfFault_65, e_Grammar_placeOfFault_84, e60, if_false, c_isAtEnd1 (f := f) _ hT, c_accept1 (f := f) _ hT, c_readPattern0 (f := f) _ hT, c_readGuard (f := f) _ hT, c_readActions (f := f) hT, m_b0, m_uu, not_true, not_false_eq_true, show ¬ (1 : Int32) = 0 by decide]
      by_cases h0 : n ≤ i
      · refine ⟨i, ?_⟩
        simp [h0, pAll]
      · simp only [h0, decide_false, not_true, if_false, pAll]
        simp only [pClause, pq]
        cases h1 : (pPat (f (T + 1)) n 4 i).1
        · refine ⟨(pPat (f (T + 1)) n 4 i).2, ?_⟩
          simp only [h1, Bool.false_eq_true, if_false, if_true]
        · cases h2 : (pGuard (f (T + 1)) n (pPat (f (T + 1)) n 4 i).2).1
          · refine ⟨(pGuard (f (T + 1)) n (pPat (f (T + 1)) n 4 i).2).2, ?_⟩
            simp only [h1, h2, Bool.false_eq_true, Bool.true_eq_false, if_false, if_true]
          · cases h3 : (pa (f (T + 1)) n 58 (pGuard (f (T + 1)) n (pPat (f (T + 1)) n 4 i).2).2).1
            · refine ⟨(pa (f (T + 1)) n 58 (pGuard (f (T + 1)) n (pPat (f (T + 1)) n 4 i).2).2).2, ?_⟩
              simp only [h1, h2, h3, Bool.false_eq_true, Bool.true_eq_false, if_false, if_true]
            · cases h4 : (pActs (f (T + 1)) n 60 (pa (f (T + 1)) n 58 (pGuard (f (T + 1)) n (pPat (f (T + 1)) n 4 i).2).2).2).1
              · refine ⟨(pActs (f (T + 1)) n 60 (pa (f (T + 1)) n 58 (pGuard (f (T + 1)) n (pPat (f (T + 1)) n 4 i).2).2).2).2, ?_⟩
                simp only [h1, h2, h3, h4, Bool.false_eq_true, Bool.true_eq_false, if_false, if_true]
              · obtain ⟨j, hj⟩ := ih (k + 1) (pActs (f (T + 1)) n 60 (pa (f (T + 1)) n 58 (pGuard (f (T + 1)) n (pPat (f (T + 1)) n 4 i).2).2).2).2 (by omega)
                refine ⟨j, ?_⟩
                simp only [h1, h2, h3, h4, Bool.false_eq_true, Bool.true_eq_false, if_false, if_true, e_Grammar_placeOfFault_78, nI_1, hj]
  obtain ⟨j, hj⟩ := key 60 0 0 rfl
  refine ⟨j, ?_⟩
  have h1 := hT.1
  simp (maxSteps := 4000000) (disch := first | omega | assumption) only [m_l3, m_a3_0, m_a3_1, m_a3_2, m_l4, m_a4_0, m_a4_1, m_a4_2, m_a4_3, m_l129, m_a129_0, m_l130, m_i130_1, m_wi130_1, m_l133, m_a133_0, m_a133_1, m_i133_2, m_wi133_2, m_j133_3, m_wj133_3, m_i133_4, m_wi133_4, m_l134, m_a134_0, m_a134_1, m_i134_2, m_wi134_2, m_i134_3, m_wi134_3, m_l135, m_i135_1, m_wi135_1, m_l139, m_a139_0, m_a139_1, m_a139_2, m_a139_3, m_a139_4, m_a139_5, m_a139_6, m_a139_7, m_a139_8, m_a139_9, m_a139_10, m_a139_11, m_a139_12, m_a139_13, m_a139_14, m_i139_15, m_wi139_15, m_i139_16, m_wi139_16, m_i139_17, m_wi139_17, m_a139_18, m_i139_19, m_wi139_19, m_i139_20, m_wi139_20, m_i139_21, m_wi139_21, m_rt, m_ru, m_wt, m_wu, m_tk, m_l6, m_i6, m_wi6, m_l140, m_i140, m_wi140, m_l141, m_i141, m_wi141, m_l142, m_i142, m_wi142, m_l143, m_i143, m_wi143, m_l144, m_j144, m_wj144, m_l145, m_j145, m_wj145, m_l146, m_i146, m_wi146, m_l147, m_i147, m_wi147, m_l148, m_i148, m_wi148, m_l149, m_i149, m_wi149, m_l150, m_j150, m_wj150, m_l151, m_i151, m_wi151, m_l152, m_j152, m_wj152, m_l153, m_i153, m_wi153, m_l154, m_i154, m_wi154, m_l155, m_j155, m_wj155, m_l156, m_j156, m_wj156, m_l138, m_j138, m_wj138, m_a5, m_a13, m_a44, m_lA, m_aA_0, m_aA_1, m_iA_2, m_wiA_2, m_iA_4, m_wiA_4, m_iA_5, m_wiA_5, m_iA_6, m_wiA_6, m_jA_3, m_wjA_3, m_lT, m_lTc, m_aT, m_iT, m_wiT, m_iTc, m_wiTc, m_lW, m_lWc, m_aW, m_iW, m_wiW, m_jWc, m_wjWc, m_0l, m_0, m_1, m_2, Option.bind_some, am_cI, am_cJ, am_cA, am_cV, cond_true, cond_false, reduceIte, y_Grammar_placeOfFault, e_Grammar_placeOfFault_0, c_open1]
  exact hj
end GRC3
