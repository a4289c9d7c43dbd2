/-! THE MODEL STEPS, wholly -/
section MK2
variable {xs : List Int32} {t u c s d n B self : Nat} {w : Nat → Int32}
theorem gTm_step {g : mG} {A W i m k : Nat} (h : k + 1 < m) (hk : i ≤ k) : m_w (fun x j => if x = A ∧ W + i ≤ j ∧ j < W + k then g A (j + 1) else g x j) A (W + k) (g A (W + k + 1)) = (fun x j => if x = A ∧ W + i ≤ j ∧ j < W + (k + 1) then g A (j + 1) else g x j) := by
  funext x j
  simp only [m_w]
  by_cases e : x = A ∧ j = W + k
  · rw [if_pos e, if_pos (by omega), e.2]
  · rw [if_neg e]
    by_cases e2 : x = A ∧ W + i ≤ j ∧ j < W + k
    · rw [if_pos e2, if_pos (by omega)]
    · rw [if_neg e2, if_neg (by omega)]
theorem m_takeL {g : mG} {i r m : Nat} {f : mF} (hi : i < 6) (hm6 : m ≤ 6) (hm0 : 0 < m) (hc : f 146 i = nI (m - 1)) : ∀ q k, q + k + 1 = m → r ≤ k → am_X (am_Y d) k_Md_take 12 [(0, .ref 139), (1, .int (nI i)), (3, .int (nI k))] [] (mM xs f (fun x j => if x = 145 ∧ 6 * i + r ≤ j ∧ j < 6 * i + k then g 145 (j + 1) else g x j) t u c s) = some (.inl none, mM xs f (gTm g 145 (6 * i) r m) t u c s)
  | 0, k, hq, hr => by
    have e1 : nI (m - 1) ≤ nI k := nI_le (by omega) (by omega)
    rw [e_Md_take_12]
    simp (maxSteps := 4000000) (disch := first | omega | assumption) only [↓b_ix, ↓b_l3, ↓b_a3_0, ↓b_a3_1, ↓b_a3_2, ↓b_l4, ↓b_a4_0, ↓b_a4_1, ↓b_a4_2, ↓b_a4_3, ↓b_l129, ↓b_a129_0, ↓b_l130, ↓b_i130_1, ↓b_wi130_1, ↓b_l133, ↓b_a133_0, ↓b_a133_1, ↓b_i133_2, ↓b_wi133_2, ↓b_j133_3, ↓b_wj133_3, ↓b_i133_4, ↓b_wi133_4, ↓b_l134, ↓b_a134_0, ↓b_a134_1, ↓b_i134_2, ↓b_wi134_2, ↓b_i134_3, ↓b_wi134_3, ↓b_l135, ↓b_i135_1, ↓b_wi135_1, ↓b_l139, ↓b_a139_0, ↓b_a139_1, ↓b_a139_2, ↓b_a139_3, ↓b_a139_4, ↓b_a139_5, ↓b_a139_6, ↓b_a139_7, ↓b_a139_8, ↓b_a139_9, ↓b_a139_10, ↓b_a139_11, ↓b_a139_12, ↓b_a139_13, ↓b_a139_14, ↓b_i139_15, ↓b_wi139_15, ↓b_i139_16, ↓b_wi139_16, ↓b_i139_17, ↓b_wi139_17, ↓b_a139_18, ↓b_i139_19, ↓b_wi139_19, ↓b_i139_20, ↓b_wi139_20, ↓b_i139_21, ↓b_wi139_21, ↓b_l6, ↓b_i6, ↓b_wi6, ↓b_l140, ↓b_i140, ↓b_wi140, ↓b_l141, ↓b_i141, ↓b_wi141, ↓b_l142, ↓b_i142, ↓b_wi142, ↓b_l143, ↓b_i143, ↓b_wi143, ↓b_l144, ↓b_j144, ↓b_wj144, ↓b_l145, ↓b_j145, ↓b_wj145, ↓b_l146, ↓b_i146, ↓b_wi146, ↓b_l147, ↓b_i147, ↓b_wi147, ↓b_l148, ↓b_i148, ↓b_wi148, ↓b_l149, ↓b_i149, ↓b_wi149, ↓b_l150, ↓b_j150, ↓b_wj150, ↓b_l151, ↓b_i151, ↓b_wi151, ↓b_l152, ↓b_j152, ↓b_wj152, ↓b_l153, ↓b_i153, ↓b_wi153, ↓b_l154, ↓b_i154, ↓b_wi154, ↓b_l155, ↓b_j155, ↓b_wj155, ↓b_l156, ↓b_j156, ↓b_wj156, ↓b_l138, ↓b_j138, ↓b_wj138, ↓b_a5, ↓b_a13, ↓b_a44, ↓b_lA, ↓b_aA_0, ↓b_aA_1, ↓b_iA_2, ↓b_wiA_2, ↓b_iA_4, ↓b_wiA_4, ↓b_iA_5, ↓b_wiA_5, ↓b_iA_6, ↓b_wiA_6, ↓b_jA_3, ↓b_wjA_3, ↓b_lT, ↓b_lTc, ↓b_aT, ↓b_iT, ↓b_wiT, ↓b_iTc, ↓b_wiTc, ↓b_lW, ↓b_lWc, ↓b_aW, ↓b_iW, ↓b_wiW, ↓b_jWc, ↓b_wjWc, ↓b_rt, ↓b_ru, ↓b_wt, ↓b_wu, ↓b_0l, ↓b_0, ↓b_1, ↓b_2, m_tk, ↓reduceIte, cond_true, cond_false, Option.bind_some, e_Md_take_0, e_Md_take_52, hc, e1, if_true]
    rw [show (fun x j => if x = 145 ∧ 6 * i + r ≤ j ∧ j < 6 * i + k then g 145 (j + 1) else g x j) = gTm g 145 (6 * i) r m from ?_]
    funext x j
    unfold gTm
    by_cases e : x = 145 ∧ 6 * i + r ≤ j ∧ j < 6 * i + k
    · rw [if_pos e, if_pos (by omega)]
    · rw [if_neg e, if_neg (by omega)]
  | q + 1, k, hq, hr => by
    have ih := m_takeL (g := g) (r := r) hi hm6 hm0 hc q (k + 1) (by omega) (by omega)
    rw [← gTm_step (m := m) (by omega) hr] at ih
    have e1 : ¬ nI (m - 1) ≤ nI k := by rw [nI_leI (by omega) (by omega)]; omega
    have ei : 6 * nI i + nI k = nI (6 * i + k) := by rw [l_6, nI_mul, nI_add]
    have r1 : (if True ∧ 6 * i + r ≤ 6 * i + k + 1 ∧ 6 * i + k + 1 < 6 * i + k then g 145 (6 * i + k + 1 + 1) else g 145 (6 * i + k + 1)) = g 145 (6 * i + k + 1) := by rw [if_neg (by omega)]
    rw [← ih, e_Md_take_12]
    simp (maxSteps := 4000000) (disch := first | omega | assumption) only [↓b_ix, ↓b_l3, ↓b_a3_0, ↓b_a3_1, ↓b_a3_2, ↓b_l4, ↓b_a4_0, ↓b_a4_1, ↓b_a4_2, ↓b_a4_3, ↓b_l129, ↓b_a129_0, ↓b_l130, ↓b_i130_1, ↓b_wi130_1, ↓b_l133, ↓b_a133_0, ↓b_a133_1, ↓b_i133_2, ↓b_wi133_2, ↓b_j133_3, ↓b_wj133_3, ↓b_i133_4, ↓b_wi133_4, ↓b_l134, ↓b_a134_0, ↓b_a134_1, ↓b_i134_2, ↓b_wi134_2, ↓b_i134_3, ↓b_wi134_3, ↓b_l135, ↓b_i135_1, ↓b_wi135_1, ↓b_l139, ↓b_a139_0, ↓b_a139_1, ↓b_a139_2, ↓b_a139_3, ↓b_a139_4, ↓b_a139_5, ↓b_a139_6, ↓b_a139_7, ↓b_a139_8, ↓b_a139_9, ↓b_a139_10, ↓b_a139_11, ↓b_a139_12, ↓b_a139_13, ↓b_a139_14, ↓b_i139_15, ↓b_wi139_15, ↓b_i139_16, ↓b_wi139_16, ↓b_i139_17, ↓b_wi139_17, ↓b_a139_18, ↓b_i139_19, ↓b_wi139_19, ↓b_i139_20, ↓b_wi139_20, ↓b_i139_21, ↓b_wi139_21, ↓b_l6, ↓b_i6, ↓b_wi6, ↓b_l140, ↓b_i140, ↓b_wi140, ↓b_l141, ↓b_i141, ↓b_wi141, ↓b_l142, ↓b_i142, ↓b_wi142, ↓b_l143, ↓b_i143, ↓b_wi143, ↓b_l144, ↓b_j144, ↓b_wj144, ↓b_l145, ↓b_j145, ↓b_wj145, ↓b_l146, ↓b_i146, ↓b_wi146, ↓b_l147, ↓b_i147, ↓b_wi147, ↓b_l148, ↓b_i148, ↓b_wi148, ↓b_l149, ↓b_i149, ↓b_wi149, ↓b_l150, ↓b_j150, ↓b_wj150, ↓b_l151, ↓b_i151, ↓b_wi151, ↓b_l152, ↓b_j152, ↓b_wj152, ↓b_l153, ↓b_i153, ↓b_wi153, ↓b_l154, ↓b_i154, ↓b_wi154, ↓b_l155, ↓b_j155, ↓b_wj155, ↓b_l156, ↓b_j156, ↓b_wj156, ↓b_l138, ↓b_j138, ↓b_wj138, ↓b_a5, ↓b_a13, ↓b_a44, ↓b_lA, ↓b_aA_0, ↓b_aA_1, ↓b_iA_2, ↓b_wiA_2, ↓b_iA_4, ↓b_wiA_4, ↓b_iA_5, ↓b_wiA_5, ↓b_iA_6, ↓b_wiA_6, ↓b_jA_3, ↓b_wjA_3, ↓b_lT, ↓b_lTc, ↓b_aT, ↓b_iT, ↓b_wiT, ↓b_iTc, ↓b_wiTc, ↓b_lW, ↓b_lWc, ↓b_aW, ↓b_iW, ↓b_wiW, ↓b_jWc, ↓b_wjWc, ↓b_rt, ↓b_ru, ↓b_wt, ↓b_wu, ↓b_0l, ↓b_0, ↓b_1, ↓b_2, m_tk, ↓reduceIte, cond_true, cond_false, Option.bind_some, hc, e1, ei, nI_1, if_false]
    rw [r1]
theorem m_take {g : mG} {i k : Nat} {f : mF} {S : sS2} (hd : 1 ≤ d) (hi : i < 6) (hm : mA f g S.1 S.2) (hb : bd S.1) (hk : k < S.1 5 i) : am_Y d 131 [.ref 139, .int (nI i), .int (nI k)] (mM xs f g t u c s) = some (.inl none, mM xs (m_u f 146 i (nI (S.1 5 i - 1))) (gTm g 145 (6 * i) k (S.1 5 i)) t u c s) := by
  obtain ⟨d, rfl⟩ : ∃ e, d = e + 1 := ⟨d - 1, by omega⟩
  have h5 := (hb.1 i hi).2.2.2
  have hc : f 146 i = nI (S.1 5 i) := hm.2.2.2.2.2.1 i hi
  have e1 : nI (S.1 5 i) - 1 = nI (S.1 5 i - 1) := nI_sub (a := S.1 5 i) (b := 1) (by omega)
  have ih := m_takeL (xs := xs) (t := t) (u := u) (c := c) (s := s) (d := d) (f := m_u f 146 i (nI (S.1 5 i - 1))) (g := g) (r := k) hi h5 (by omega) (m_uu _) (S.1 5 i - k - 1) k (by omega) (Nat.le_refl _)
  rw [show (fun x j => if x = 145 ∧ 6 * i + k ≤ j ∧ j < 6 * i + k then g 145 (j + 1) else g x j) = g from (by funext x j; rw [if_neg (by omega)])] at ih
  rw [← ih]
  simp (maxSteps := 4000000) (disch := first | omega | assumption) only [↓b_ix, ↓b_l3, ↓b_a3_0, ↓b_a3_1, ↓b_a3_2, ↓b_l4, ↓b_a4_0, ↓b_a4_1, ↓b_a4_2, ↓b_a4_3, ↓b_l129, ↓b_a129_0, ↓b_l130, ↓b_i130_1, ↓b_wi130_1, ↓b_l133, ↓b_a133_0, ↓b_a133_1, ↓b_i133_2, ↓b_wi133_2, ↓b_j133_3, ↓b_wj133_3, ↓b_i133_4, ↓b_wi133_4, ↓b_l134, ↓b_a134_0, ↓b_a134_1, ↓b_i134_2, ↓b_wi134_2, ↓b_i134_3, ↓b_wi134_3, ↓b_l135, ↓b_i135_1, ↓b_wi135_1, ↓b_l139, ↓b_a139_0, ↓b_a139_1, ↓b_a139_2, ↓b_a139_3, ↓b_a139_4, ↓b_a139_5, ↓b_a139_6, ↓b_a139_7, ↓b_a139_8, ↓b_a139_9, ↓b_a139_10, ↓b_a139_11, ↓b_a139_12, ↓b_a139_13, ↓b_a139_14, ↓b_i139_15, ↓b_wi139_15, ↓b_i139_16, ↓b_wi139_16, ↓b_i139_17, ↓b_wi139_17, ↓b_a139_18, ↓b_i139_19, ↓b_wi139_19, ↓b_i139_20, ↓b_wi139_20, ↓b_i139_21, ↓b_wi139_21, ↓b_l6, ↓b_i6, ↓b_wi6, ↓b_l140, ↓b_i140, ↓b_wi140, ↓b_l141, ↓b_i141, ↓b_wi141, ↓b_l142, ↓b_i142, ↓b_wi142, ↓b_l143, ↓b_i143, ↓b_wi143, ↓b_l144, ↓b_j144, ↓b_wj144, ↓b_l145, ↓b_j145, ↓b_wj145, ↓b_l146, ↓b_i146, ↓b_wi146, ↓b_l147, ↓b_i147, ↓b_wi147, ↓b_l148, ↓b_i148, ↓b_wi148, ↓b_l149, ↓b_i149, ↓b_wi149, ↓b_l150, ↓b_j150, ↓b_wj150, ↓b_l151, ↓b_i151, ↓b_wi151, ↓b_l152, ↓b_j152, ↓b_wj152, ↓b_l153, ↓b_i153, ↓b_wi153, ↓b_l154, ↓b_i154, ↓b_wi154, ↓b_l155, ↓b_j155, ↓b_wj155, ↓b_l156, ↓b_j156, ↓b_wj156, ↓b_l138, ↓b_j138, ↓b_wj138, ↓b_a5, ↓b_a13, ↓b_a44, ↓b_lA, ↓b_aA_0, ↓b_aA_1, ↓b_iA_2, ↓b_wiA_2, ↓b_iA_4, ↓b_wiA_4, ↓b_iA_5, ↓b_wiA_5, ↓b_iA_6, ↓b_wiA_6, ↓b_jA_3, ↓b_wjA_3, ↓b_lT, ↓b_lTc, ↓b_aT, ↓b_iT, ↓b_wiT, ↓b_iTc, ↓b_wiTc, ↓b_lW, ↓b_lWc, ↓b_aW, ↓b_iW, ↓b_wiW, ↓b_jWc, ↓b_wjWc, ↓b_rt, ↓b_ru, ↓b_wt, ↓b_wu, ↓b_0l, ↓b_0, ↓b_1, ↓b_2, m_tk, ↓reduceIte, cond_true, cond_false, Option.bind_some, y_Md_take, e_Md_take_0, e_Md_take_52, hc, e1]
theorem m_scan {g : mG} {f : mF} {a1 a3 a4 : Int32} {q : Nat} (hx : tX f B n w) (hq : q < n) (h59 : w q = 59) : ∀ m i, i + m = q → (∀ k, i ≤ k → k < q → ¬ w k = 59) → am_X (am_Y d) k_Md_step 148 [(0, .ref 139), (1, .int a1), (2, .int (nI B)), (3, .int a3), (4, .int a4), (5, .int (nI (B + i)))] [] (mM xs f g t u c s) = am_X (am_Y d) k_Md_step 66 [(0, .ref 139), (1, .int a1), (2, .int (nI B)), (3, .int a3), (4, .int (a4 + 1)), (5, .int (nI (B + (q + 1))))] [] (mM xs f g t u c s)
  | 0, i, h1, h2 => by
    have : i = q := by omega
    subst this
    have hB := hx.1
    have w0 := hx.2 i hq
    have b1 : nI (B + i) + 1 = nI (B + (i + 1)) := by rw [nI_1, Nat.add_assoc]
    rw [e_Md_step_148]
    simp (maxSteps := 4000000) (disch := first | omega | assumption) only [↓b_ix, ↓b_l3, ↓b_a3_0, ↓b_a3_1, ↓b_a3_2, ↓b_l4, ↓b_a4_0, ↓b_a4_1, ↓b_a4_2, ↓b_a4_3, ↓b_l129, ↓b_a129_0, ↓b_l130, ↓b_i130_1, ↓b_wi130_1, ↓b_l133, ↓b_a133_0, ↓b_a133_1, ↓b_i133_2, ↓b_wi133_2, ↓b_j133_3, ↓b_wj133_3, ↓b_i133_4, ↓b_wi133_4, ↓b_l134, ↓b_a134_0, ↓b_a134_1, ↓b_i134_2, ↓b_wi134_2, ↓b_i134_3, ↓b_wi134_3, ↓b_l135, ↓b_i135_1, ↓b_wi135_1, ↓b_l139, ↓b_a139_0, ↓b_a139_1, ↓b_a139_2, ↓b_a139_3, ↓b_a139_4, ↓b_a139_5, ↓b_a139_6, ↓b_a139_7, ↓b_a139_8, ↓b_a139_9, ↓b_a139_10, ↓b_a139_11, ↓b_a139_12, ↓b_a139_13, ↓b_a139_14, ↓b_i139_15, ↓b_wi139_15, ↓b_i139_16, ↓b_wi139_16, ↓b_i139_17, ↓b_wi139_17, ↓b_a139_18, ↓b_i139_19, ↓b_wi139_19, ↓b_i139_20, ↓b_wi139_20, ↓b_i139_21, ↓b_wi139_21, ↓b_l6, ↓b_i6, ↓b_wi6, ↓b_l140, ↓b_i140, ↓b_wi140, ↓b_l141, ↓b_i141, ↓b_wi141, ↓b_l142, ↓b_i142, ↓b_wi142, ↓b_l143, ↓b_i143, ↓b_wi143, ↓b_l144, ↓b_j144, ↓b_wj144, ↓b_l145, ↓b_j145, ↓b_wj145, ↓b_l146, ↓b_i146, ↓b_wi146, ↓b_l147, ↓b_i147, ↓b_wi147, ↓b_l148, ↓b_i148, ↓b_wi148, ↓b_l149, ↓b_i149, ↓b_wi149, ↓b_l150, ↓b_j150, ↓b_wj150, ↓b_l151, ↓b_i151, ↓b_wi151, ↓b_l152, ↓b_j152, ↓b_wj152, ↓b_l153, ↓b_i153, ↓b_wi153, ↓b_l154, ↓b_i154, ↓b_wi154, ↓b_l155, ↓b_j155, ↓b_wj155, ↓b_l156, ↓b_j156, ↓b_wj156, ↓b_l138, ↓b_j138, ↓b_wj138, ↓b_a5, ↓b_a13, ↓b_a44, ↓b_lA, ↓b_aA_0, ↓b_aA_1, ↓b_iA_2, ↓b_wiA_2, ↓b_iA_4, ↓b_wiA_4, ↓b_iA_5, ↓b_wiA_5, ↓b_iA_6, ↓b_wiA_6, ↓b_jA_3, ↓b_wjA_3, ↓b_lT, ↓b_lTc, ↓b_aT, ↓b_iT, ↓b_wiT, ↓b_iTc, ↓b_wiTc, ↓b_lW, ↓b_lWc, ↓b_aW, ↓b_iW, ↓b_wiW, ↓b_jWc, ↓b_wjWc, ↓b_rt, ↓b_ru, ↓b_wt, ↓b_wu, ↓b_0l, ↓b_0, ↓b_1, ↓b_2, m_tk, ↓reduceIte, cond_true, cond_false, Option.bind_some, e_Md_step_166, w0, h59, b1, i_11, i_01, i_1_0, i_0_1, not_true, not_false_eq_true, if_true, if_false, Bool.true_eq_false, Bool.false_eq_true, decide_true, decide_false]
  | m + 1, i, h1, h2 => by
    have ih := m_scan (g := g) (a1 := a1) (a3 := a3) (a4 := a4) hx hq h59 m (i + 1) (by omega) (fun k a b => h2 k (by omega) b)
    have hB := hx.1
    have w0 := hx.2 i (by omega)
    have n9 := h2 i (by omega) (by omega)
    have b1 : nI (B + i) + 1 = nI (B + (i + 1)) := by rw [nI_1, Nat.add_assoc]
    rw [← ih, e_Md_step_148]
    simp (maxSteps := 4000000) (disch := first | omega | assumption) only [↓b_ix, ↓b_l3, ↓b_a3_0, ↓b_a3_1, ↓b_a3_2, ↓b_l4, ↓b_a4_0, ↓b_a4_1, ↓b_a4_2, ↓b_a4_3, ↓b_l129, ↓b_a129_0, ↓b_l130, ↓b_i130_1, ↓b_wi130_1, ↓b_l133, ↓b_a133_0, ↓b_a133_1, ↓b_i133_2, ↓b_wi133_2, ↓b_j133_3, ↓b_wj133_3, ↓b_i133_4, ↓b_wi133_4, ↓b_l134, ↓b_a134_0, ↓b_a134_1, ↓b_i134_2, ↓b_wi134_2, ↓b_i134_3, ↓b_wi134_3, ↓b_l135, ↓b_i135_1, ↓b_wi135_1, ↓b_l139, ↓b_a139_0, ↓b_a139_1, ↓b_a139_2, ↓b_a139_3, ↓b_a139_4, ↓b_a139_5, ↓b_a139_6, ↓b_a139_7, ↓b_a139_8, ↓b_a139_9, ↓b_a139_10, ↓b_a139_11, ↓b_a139_12, ↓b_a139_13, ↓b_a139_14, ↓b_i139_15, ↓b_wi139_15, ↓b_i139_16, ↓b_wi139_16, ↓b_i139_17, ↓b_wi139_17, ↓b_a139_18, ↓b_i139_19, ↓b_wi139_19, ↓b_i139_20, ↓b_wi139_20, ↓b_i139_21, ↓b_wi139_21, ↓b_l6, ↓b_i6, ↓b_wi6, ↓b_l140, ↓b_i140, ↓b_wi140, ↓b_l141, ↓b_i141, ↓b_wi141, ↓b_l142, ↓b_i142, ↓b_wi142, ↓b_l143, ↓b_i143, ↓b_wi143, ↓b_l144, ↓b_j144, ↓b_wj144, ↓b_l145, ↓b_j145, ↓b_wj145, ↓b_l146, ↓b_i146, ↓b_wi146, ↓b_l147, ↓b_i147, ↓b_wi147, ↓b_l148, ↓b_i148, ↓b_wi148, ↓b_l149, ↓b_i149, ↓b_wi149, ↓b_l150, ↓b_j150, ↓b_wj150, ↓b_l151, ↓b_i151, ↓b_wi151, ↓b_l152, ↓b_j152, ↓b_wj152, ↓b_l153, ↓b_i153, ↓b_wi153, ↓b_l154, ↓b_i154, ↓b_wi154, ↓b_l155, ↓b_j155, ↓b_wj155, ↓b_l156, ↓b_j156, ↓b_wj156, ↓b_l138, ↓b_j138, ↓b_wj138, ↓b_a5, ↓b_a13, ↓b_a44, ↓b_lA, ↓b_aA_0, ↓b_aA_1, ↓b_iA_2, ↓b_wiA_2, ↓b_iA_4, ↓b_wiA_4, ↓b_iA_5, ↓b_wiA_5, ↓b_iA_6, ↓b_wiA_6, ↓b_jA_3, ↓b_wjA_3, ↓b_lT, ↓b_lTc, ↓b_aT, ↓b_iT, ↓b_wiT, ↓b_iTc, ↓b_wiTc, ↓b_lW, ↓b_lWc, ↓b_aW, ↓b_iW, ↓b_wiW, ↓b_jWc, ↓b_wjWc, ↓b_rt, ↓b_ru, ↓b_wt, ↓b_wu, ↓b_0l, ↓b_0, ↓b_1, ↓b_2, m_tk, ↓reduceIte, cond_true, cond_false, Option.bind_some, w0, n9, b1, i_11, i_01, i_1_0, i_0_1, not_true, not_false_eq_true, if_true, if_false, Bool.true_eq_false, Bool.false_eq_true, decide_true, decide_false]
/-- the clauses for one message -/
theorem m_fcL {st x : sTm} {k : Nat} (hd : 7 ≤ d) (h6 : self < 6) (hBs : B = 60 * (3 + self)) (hn : n ≤ 60) (hk : k < 6) (hst : tv st.1 st.2) (hX : tv x.1 x.2) : ∀ m cl i {f : mF} {g : mG}, cl + m ≤ 60 → i ≤ n → tX f B n w → f 141 (3 + self) = nI n → g 144 self = mTh st → g 145 (6 * self + k) = mTh x → pz w n m i →
    (fc w n self st x m cl i = none → ∃ f' g', am_X (am_Y d) k_Md_step 66 [(0, .ref 139), (1, .int (nI self)), (2, .int (nI B)), (3, .int (nI k)), (4, .int (nI cl)), (5, .int (nI (B + i)))] [] (mM xs f g t u c s) = am_X (am_Y d) k_Md_step 175 [(0, .ref 139), (1, .int (nI self)), (2, .int (nI B)), (3, .int (nI k))] [] (mM xs f' g' t u c s) ∧ fQ f f' ∧ gQ g g') ∧
    (∀ r, fc w n self st x m cl i = some r → ∃ f' g', am_X (am_Y d) k_Md_step 66 [(0, .ref 139), (1, .int (nI self)), (2, .int (nI B)), (3, .int (nI k)), (4, .int (nI cl)), (5, .int (nI (B + i)))] [] (mM xs f g t u c s) = am_cV (am_Y d 131 [.ref 139, .int (nI self), .int (nI k)] (mM xs f' g' t u c s)) (fun M10 => am_X (am_Y d) k_Md_step 108 [(0, .ref 139), (1, .int (nI self)), (3, .int (nI k)), (4, .int (nI r.1))] [] M10) (fun e M => some (.inr e, M)) ∧ fQ f f' ∧ gQ g g' ∧ f' 139 19 = nI (B + r.2.1) ∧ ∀ v, v < 6 → g' 152 v = mTh (r.2.2 v)) := by
  have fin : ∀ (m cl i : Nat) {f : mF} {g : mG}, n ≤ i → i ≤ n → tX f B n w → f 141 (3 + self) = nI n → am_X (am_Y d) k_Md_step 66 [(0, .ref 139), (1, .int (nI self)), (2, .int (nI B)), (3, .int (nI k)), (4, .int (nI cl)), (5, .int (nI (B + i)))] [] (mM xs f g t u c s) = am_X (am_Y d) k_Md_step 175 [(0, .ref 139), (1, .int (nI self)), (2, .int (nI B)), (3, .int (nI k))] [] (mM xs f g t u c s) := by
    intro m cl i f g h1 h2 hx hl
    have hB := hx.1
    have e3 : 3 + nI self = nI (3 + self) := by rw [l_3, nI_add]
    have le : nI (B + n) ≤ nI (B + i) := nI_le (by omega) (by omega)
    rw [e_Md_step_66]
    simp (maxSteps := 4000000) (disch := first | omega | assumption) only [↓b_ix, ↓b_l3, ↓b_a3_0, ↓b_a3_1, ↓b_a3_2, ↓b_l4, ↓b_a4_0, ↓b_a4_1, ↓b_a4_2, ↓b_a4_3, ↓b_l129, ↓b_a129_0, ↓b_l130, ↓b_i130_1, ↓b_wi130_1, ↓b_l133, ↓b_a133_0, ↓b_a133_1, ↓b_i133_2, ↓b_wi133_2, ↓b_j133_3, ↓b_wj133_3, ↓b_i133_4, ↓b_wi133_4, ↓b_l134, ↓b_a134_0, ↓b_a134_1, ↓b_i134_2, ↓b_wi134_2, ↓b_i134_3, ↓b_wi134_3, ↓b_l135, ↓b_i135_1, ↓b_wi135_1, ↓b_l139, ↓b_a139_0, ↓b_a139_1, ↓b_a139_2, ↓b_a139_3, ↓b_a139_4, ↓b_a139_5, ↓b_a139_6, ↓b_a139_7, ↓b_a139_8, ↓b_a139_9, ↓b_a139_10, ↓b_a139_11, ↓b_a139_12, ↓b_a139_13, ↓b_a139_14, ↓b_i139_15, ↓b_wi139_15, ↓b_i139_16, ↓b_wi139_16, ↓b_i139_17, ↓b_wi139_17, ↓b_a139_18, ↓b_i139_19, ↓b_wi139_19, ↓b_i139_20, ↓b_wi139_20, ↓b_i139_21, ↓b_wi139_21, ↓b_l6, ↓b_i6, ↓b_wi6, ↓b_l140, ↓b_i140, ↓b_wi140, ↓b_l141, ↓b_i141, ↓b_wi141, ↓b_l142, ↓b_i142, ↓b_wi142, ↓b_l143, ↓b_i143, ↓b_wi143, ↓b_l144, ↓b_j144, ↓b_wj144, ↓b_l145, ↓b_j145, ↓b_wj145, ↓b_l146, ↓b_i146, ↓b_wi146, ↓b_l147, ↓b_i147, ↓b_wi147, ↓b_l148, ↓b_i148, ↓b_wi148, ↓b_l149, ↓b_i149, ↓b_wi149, ↓b_l150, ↓b_j150, ↓b_wj150, ↓b_l151, ↓b_i151, ↓b_wi151, ↓b_l152, ↓b_j152, ↓b_wj152, ↓b_l153, ↓b_i153, ↓b_wi153, ↓b_l154, ↓b_i154, ↓b_wi154, ↓b_l155, ↓b_j155, ↓b_wj155, ↓b_l156, ↓b_j156, ↓b_wj156, ↓b_l138, ↓b_j138, ↓b_wj138, ↓b_a5, ↓b_a13, ↓b_a44, ↓b_lA, ↓b_aA_0, ↓b_aA_1, ↓b_iA_2, ↓b_wiA_2, ↓b_iA_4, ↓b_wiA_4, ↓b_iA_5, ↓b_wiA_5, ↓b_iA_6, ↓b_wiA_6, ↓b_jA_3, ↓b_wjA_3, ↓b_lT, ↓b_lTc, ↓b_aT, ↓b_iT, ↓b_wiT, ↓b_iTc, ↓b_wiTc, ↓b_lW, ↓b_lWc, ↓b_aW, ↓b_iW, ↓b_wiW, ↓b_jWc, ↓b_wjWc, ↓b_rt, ↓b_ru, ↓b_wt, ↓b_wu, ↓b_0l, ↓b_0, ↓b_1, ↓b_2, m_tk, ↓reduceIte, cond_true, cond_false, Option.bind_some, e3, hl, nI_add, le, if_true]
  intro m
  induction m with
  | zero =>
    intro cl i f g hcl hi hx hl hs hm hp
    refine ⟨fun _ => ⟨f, g, fin 0 cl i hp hi hx hl, fQ_r f, gQ_r g⟩, fun r hr => (nomatch hr)⟩
  | succ m ih =>
    intro cl i f g hcl hi hx hl hs hm hp
    rcases hp with hp | ⟨hin, j1, j2, j, hc, hp⟩
    · have e : fc w n self st x (m + 1) cl i = none := by rw [fc, if_pos hp]
      rw [e]
      exact ⟨fun _ => ⟨f, g, fin 0 cl i hp hi hx hl, fQ_r f, gQ_r g⟩, fun r hr => (nomatch hr)⟩
    · have hB := hx.1
      have hni : ¬ n ≤ i := by omega
      obtain ⟨f1, g1, y1, y2, y3, y4⟩ := m_takes (xs := xs) (t := t) (u := u) (c := c) (s := s) (f := f) (g := g) (show 6 ≤ d by omega) hn h6 hst hX hx hs hc
      have e3 : 3 + nI self = nI (3 + self) := by rw [l_3, nI_add]
      have nle : ¬ nI (B + n) ≤ nI (B + i) := by rw [nI_leI (by omega) (by omega)]; omega
      have ei : 6 * nI self + nI k = nI (6 * self + k) := by rw [l_6, nI_mul, nI_add]
      by_cases ht : (tk w n self st x i).1 = true
      · have e : fc w n self st x (m + 1) cl i = some (cl, (tk w n self st x i).2.1, (tk w n self st x i).2.2) := by rw [fc, if_neg hni, if_pos ht]
        rw [e]
        refine ⟨fun hh => (nomatch hh), fun r hr => ?_⟩
        have := Option.some.inj hr
        subst this
        obtain ⟨z1, z2⟩ := y4 ht
        obtain ⟨a1, a2⟩ := tk_all h6 hst hX hc ht
        refine ⟨f1, g1, ?_, y2, y3, by simp only; rw [a1]; exact z1, z2⟩
        rw [ht] at y1
        rw [e_Md_step_66]
        simp (maxSteps := 4000000) (disch := first | omega | assumption) only [↓b_ix, ↓b_l3, ↓b_a3_0, ↓b_a3_1, ↓b_a3_2, ↓b_l4, ↓b_a4_0, ↓b_a4_1, ↓b_a4_2, ↓b_a4_3, ↓b_l129, ↓b_a129_0, ↓b_l130, ↓b_i130_1, ↓b_wi130_1, ↓b_l133, ↓b_a133_0, ↓b_a133_1, ↓b_i133_2, ↓b_wi133_2, ↓b_j133_3, ↓b_wj133_3, ↓b_i133_4, ↓b_wi133_4, ↓b_l134, ↓b_a134_0, ↓b_a134_1, ↓b_i134_2, ↓b_wi134_2, ↓b_i134_3, ↓b_wi134_3, ↓b_l135, ↓b_i135_1, ↓b_wi135_1, ↓b_l139, ↓b_a139_0, ↓b_a139_1, ↓b_a139_2, ↓b_a139_3, ↓b_a139_4, ↓b_a139_5, ↓b_a139_6, ↓b_a139_7, ↓b_a139_8, ↓b_a139_9, ↓b_a139_10, ↓b_a139_11, ↓b_a139_12, ↓b_a139_13, ↓b_a139_14, ↓b_i139_15, ↓b_wi139_15, ↓b_i139_16, ↓b_wi139_16, ↓b_i139_17, ↓b_wi139_17, ↓b_a139_18, ↓b_i139_19, ↓b_wi139_19, ↓b_i139_20, ↓b_wi139_20, ↓b_i139_21, ↓b_wi139_21, ↓b_l6, ↓b_i6, ↓b_wi6, ↓b_l140, ↓b_i140, ↓b_wi140, ↓b_l141, ↓b_i141, ↓b_wi141, ↓b_l142, ↓b_i142, ↓b_wi142, ↓b_l143, ↓b_i143, ↓b_wi143, ↓b_l144, ↓b_j144, ↓b_wj144, ↓b_l145, ↓b_j145, ↓b_wj145, ↓b_l146, ↓b_i146, ↓b_wi146, ↓b_l147, ↓b_i147, ↓b_wi147, ↓b_l148, ↓b_i148, ↓b_wi148, ↓b_l149, ↓b_i149, ↓b_wi149, ↓b_l150, ↓b_j150, ↓b_wj150, ↓b_l151, ↓b_i151, ↓b_wi151, ↓b_l152, ↓b_j152, ↓b_wj152, ↓b_l153, ↓b_i153, ↓b_wi153, ↓b_l154, ↓b_i154, ↓b_wi154, ↓b_l155, ↓b_j155, ↓b_wj155, ↓b_l156, ↓b_j156, ↓b_wj156, ↓b_l138, ↓b_j138, ↓b_wj138, ↓b_a5, ↓b_a13, ↓b_a44, ↓b_lA, ↓b_aA_0, ↓b_aA_1, ↓b_iA_2, ↓b_wiA_2, ↓b_iA_4, ↓b_wiA_4, ↓b_iA_5, ↓b_wiA_5, ↓b_iA_6, ↓b_wiA_6, ↓b_jA_3, ↓b_wjA_3, ↓b_lT, ↓b_lTc, ↓b_aT, ↓b_iT, ↓b_wiT, ↓b_iTc, ↓b_wiTc, ↓b_lW, ↓b_lWc, ↓b_aW, ↓b_iW, ↓b_wiW, ↓b_jWc, ↓b_wjWc, ↓b_rt, ↓b_ru, ↓b_wt, ↓b_wu, ↓b_0l, ↓b_0, ↓b_1, ↓b_2, m_tk, ↓reduceIte, cond_true, cond_false, Option.bind_some, e3, hl, nI_add, nle, ei, hm, ↓bI y1, m_bt, i_1_0, i_11, i_01, i_1_0, i_0_1, not_true, not_false_eq_true, if_true, if_false, Bool.true_eq_false, Bool.false_eq_true, decide_true, decide_false]
      · have ht' : (tk w n self st x i).1 = false := by simpa using ht
        obtain ⟨z1, z2⟩ := no59_cz hc
        have hcn := cz_n hc
        have hnx : nx w 60 i = j := by rw [nx_e (q := j - 1) 60 i (by omega) (by omega) z1 z2]; omega
        have e : fc w n self st x (m + 1) cl i = fc w n self st x m (cl + 1) j := by rw [fc, if_neg hni, if_neg ht, hnx]
        rw [e]
        have sc := m_scan (xs := xs) (t := t) (u := u) (c := c) (s := s) (d := d) (g := g1) (a1 := nI self) (a3 := nI k) (a4 := nI cl) (tX_Q hx y2) (show j - 1 < n by omega) z1 (j - 1 - i) i (by omega) z2
        rw [show j - 1 + 1 = j by omega, nI_1] at sc
        have st1 : am_X (am_Y d) k_Md_step 66 [(0, .ref 139), (1, .int (nI self)), (2, .int (nI B)), (3, .int (nI k)), (4, .int (nI cl)), (5, .int (nI (B + i)))] [] (mM xs f g t u c s) = am_X (am_Y d) k_Md_step 66 [(0, .ref 139), (1, .int (nI self)), (2, .int (nI B)), (3, .int (nI k)), (4, .int (nI (cl + 1))), (5, .int (nI (B + j)))] [] (mM xs f1 g1 t u c s) := by
          rw [ht'] at y1
          rw [← sc, e_Md_step_66]
          simp (maxSteps := 4000000) (disch := first | omega | assumption) only [↓b_ix, ↓b_l3, ↓b_a3_0, ↓b_a3_1, ↓b_a3_2, ↓b_l4, ↓b_a4_0, ↓b_a4_1, ↓b_a4_2, ↓b_a4_3, ↓b_l129, ↓b_a129_0, ↓b_l130, ↓b_i130_1, ↓b_wi130_1, ↓b_l133, ↓b_a133_0, ↓b_a133_1, ↓b_i133_2, ↓b_wi133_2, ↓b_j133_3, ↓b_wj133_3, ↓b_i133_4, ↓b_wi133_4, ↓b_l134, ↓b_a134_0, ↓b_a134_1, ↓b_i134_2, ↓b_wi134_2, ↓b_i134_3, ↓b_wi134_3, ↓b_l135, ↓b_i135_1, ↓b_wi135_1, ↓b_l139, ↓b_a139_0, ↓b_a139_1, ↓b_a139_2, ↓b_a139_3, ↓b_a139_4, ↓b_a139_5, ↓b_a139_6, ↓b_a139_7, ↓b_a139_8, ↓b_a139_9, ↓b_a139_10, ↓b_a139_11, ↓b_a139_12, ↓b_a139_13, ↓b_a139_14, ↓b_i139_15, ↓b_wi139_15, ↓b_i139_16, ↓b_wi139_16, ↓b_i139_17, ↓b_wi139_17, ↓b_a139_18, ↓b_i139_19, ↓b_wi139_19, ↓b_i139_20, ↓b_wi139_20, ↓b_i139_21, ↓b_wi139_21, ↓b_l6, ↓b_i6, ↓b_wi6, ↓b_l140, ↓b_i140, ↓b_wi140, ↓b_l141, ↓b_i141, ↓b_wi141, ↓b_l142, ↓b_i142, ↓b_wi142, ↓b_l143, ↓b_i143, ↓b_wi143, ↓b_l144, ↓b_j144, ↓b_wj144, ↓b_l145, ↓b_j145, ↓b_wj145, ↓b_l146, ↓b_i146, ↓b_wi146, ↓b_l147, ↓b_i147, ↓b_wi147, ↓b_l148, ↓b_i148, ↓b_wi148, ↓b_l149, ↓b_i149, ↓b_wi149, ↓b_l150, ↓b_j150, ↓b_wj150, ↓b_l151, ↓b_i151, ↓b_wi151, ↓b_l152, ↓b_j152, ↓b_wj152, ↓b_l153, ↓b_i153, ↓b_wi153, ↓b_l154, ↓b_i154, ↓b_wi154, ↓b_l155, ↓b_j155, ↓b_wj155, ↓b_l156, ↓b_j156, ↓b_wj156, ↓b_l138, ↓b_j138, ↓b_wj138, ↓b_a5, ↓b_a13, ↓b_a44, ↓b_lA, ↓b_aA_0, ↓b_aA_1, ↓b_iA_2, ↓b_wiA_2, ↓b_iA_4, ↓b_wiA_4, ↓b_iA_5, ↓b_wiA_5, ↓b_iA_6, ↓b_wiA_6, ↓b_jA_3, ↓b_wjA_3, ↓b_lT, ↓b_lTc, ↓b_aT, ↓b_iT, ↓b_wiT, ↓b_iTc, ↓b_wiTc, ↓b_lW, ↓b_lWc, ↓b_aW, ↓b_iW, ↓b_wiW, ↓b_jWc, ↓b_wjWc, ↓b_rt, ↓b_ru, ↓b_wt, ↓b_wu, ↓b_0l, ↓b_0, ↓b_1, ↓b_2, m_tk, ↓reduceIte, cond_true, cond_false, Option.bind_some, e3, hl, nI_add, nle, ei, hm, ↓bI y1, m_bf, i_11, i_01, i_1_0, i_0_1, not_true, not_false_eq_true, if_true, if_false, Bool.true_eq_false, Bool.false_eq_true, decide_true, decide_false]
        have N1 : cl + 1 + m ≤ 60 := by omega
        have N2 : j ≤ n := by omega
        have Q1 : ¬ ((141 : Nat) = 139 ∧ (3 + self = 19 ∨ 3 + self = 20)) := by omega
        have Q2 : (141 : Nat) ≠ 153 := by omega
        have Q3 : ¬ ((144 : Nat) = 155 ∧ self < 4) := by omega
        have Q4 : ¬ ((145 : Nat) = 155 ∧ 6 * self + k < 4) := by omega
        obtain ⟨i1, i2⟩ := ih (cl + 1) j (f := f1) (g := g1) N1 N2 (tX_Q hx y2) (by rw [y2 _ _ Q1 Q2]; exact hl) (by rw [y3 _ _ (by decide) Q3]; exact hs) (by rw [y3 _ _ (by decide) Q4]; exact hm) hp
        refine ⟨fun hh => ?_, fun r hr => ?_⟩
        · obtain ⟨f', g', v1, v2, v3⟩ := i1 hh
          exact ⟨f', g', st1.trans v1, fQ_t y2 v2, gQ_t y3 v3⟩
        · obtain ⟨f', g', v1, v2, v3, v4, v5⟩ := i2 r hr
          exact ⟨f', g', st1.trans v1, fQ_t y2 v2, gQ_t y3 v3, v4, v5⟩
/-- the messages -/
theorem m_fiL {st : sTm} {ml : Nat → sTm} {N : Nat} (hd : 7 ≤ d) (h6 : self < 6) (hBs : B = 60 * (3 + self)) (hn : n ≤ 60) (hN : N ≤ 6) (hst : tv st.1 st.2) (hml : ∀ k, k < N → tv (ml k).1 (ml k).2) (hp : pz w n 60 0) : ∀ q k {f : mF} {g : mG}, q + k = N → tX f B n w → f 141 (3 + self) = nI n → f 146 self = nI N → g 144 self = mTh st → (∀ k, k < N → g 145 (6 * self + k) = mTh (ml k)) →
    (fi w n self st ml q k = none → ∃ f' g', am_X (am_Y d) k_Md_step 50 [(0, .ref 139), (1, .int (nI self)), (2, .int (nI B)), (3, .int (nI k))] [] (mM xs f g t u c s) = some (.inl (some (.int 0)), mM xs (m_u f' 139 21 3) g' t u c s) ∧ fQ f f' ∧ gQ g g') ∧
    (∀ r, fi w n self st ml q k = some r → r.1 < N ∧ ∃ f' g', am_X (am_Y d) k_Md_step 50 [(0, .ref 139), (1, .int (nI self)), (2, .int (nI B)), (3, .int (nI k))] [] (mM xs f g t u c s) = am_cV (am_Y d 131 [.ref 139, .int (nI self), .int (nI r.1)] (mM xs f' g' t u c s)) (fun M10 => am_X (am_Y d) k_Md_step 108 [(0, .ref 139), (1, .int (nI self)), (3, .int (nI r.1)), (4, .int (nI r.2.1))] [] M10) (fun e M => some (.inr e, M)) ∧ fQ f f' ∧ gQ g g' ∧ f' 139 19 = nI (B + r.2.2.1) ∧ ∀ v, v < 6 → g' 152 v = mTh (r.2.2.2 v)) := by
  intro q
  induction q with
  | zero =>
    intro k f g hq hx hl hc hs hm
    have le : nI N ≤ nI k := nI_le (by omega) (by omega)
    refine ⟨fun _ => ⟨f, g, ?_, fQ_r f, gQ_r g⟩, fun r hr => (nomatch hr)⟩
    rw [e_Md_step_50]
    simp (maxSteps := 4000000) (disch := first | omega | assumption) only [↓b_ix, ↓b_l3, ↓b_a3_0, ↓b_a3_1, ↓b_a3_2, ↓b_l4, ↓b_a4_0, ↓b_a4_1, ↓b_a4_2, ↓b_a4_3, ↓b_l129, ↓b_a129_0, ↓b_l130, ↓b_i130_1, ↓b_wi130_1, ↓b_l133, ↓b_a133_0, ↓b_a133_1, ↓b_i133_2, ↓b_wi133_2, ↓b_j133_3, ↓b_wj133_3, ↓b_i133_4, ↓b_wi133_4, ↓b_l134, ↓b_a134_0, ↓b_a134_1, ↓b_i134_2, ↓b_wi134_2, ↓b_i134_3, ↓b_wi134_3, ↓b_l135, ↓b_i135_1, ↓b_wi135_1, ↓b_l139, ↓b_a139_0, ↓b_a139_1, ↓b_a139_2, ↓b_a139_3, ↓b_a139_4, ↓b_a139_5, ↓b_a139_6, ↓b_a139_7, ↓b_a139_8, ↓b_a139_9, ↓b_a139_10, ↓b_a139_11, ↓b_a139_12, ↓b_a139_13, ↓b_a139_14, ↓b_i139_15, ↓b_wi139_15, ↓b_i139_16, ↓b_wi139_16, ↓b_i139_17, ↓b_wi139_17, ↓b_a139_18, ↓b_i139_19, ↓b_wi139_19, ↓b_i139_20, ↓b_wi139_20, ↓b_i139_21, ↓b_wi139_21, ↓b_l6, ↓b_i6, ↓b_wi6, ↓b_l140, ↓b_i140, ↓b_wi140, ↓b_l141, ↓b_i141, ↓b_wi141, ↓b_l142, ↓b_i142, ↓b_wi142, ↓b_l143, ↓b_i143, ↓b_wi143, ↓b_l144, ↓b_j144, ↓b_wj144, ↓b_l145, ↓b_j145, ↓b_wj145, ↓b_l146, ↓b_i146, ↓b_wi146, ↓b_l147, ↓b_i147, ↓b_wi147, ↓b_l148, ↓b_i148, ↓b_wi148, ↓b_l149, ↓b_i149, ↓b_wi149, ↓b_l150, ↓b_j150, ↓b_wj150, ↓b_l151, ↓b_i151, ↓b_wi151, ↓b_l152, ↓b_j152, ↓b_wj152, ↓b_l153, ↓b_i153, ↓b_wi153, ↓b_l154, ↓b_i154, ↓b_wi154, ↓b_l155, ↓b_j155, ↓b_wj155, ↓b_l156, ↓b_j156, ↓b_wj156, ↓b_l138, ↓b_j138, ↓b_wj138, ↓b_a5, ↓b_a13, ↓b_a44, ↓b_lA, ↓b_aA_0, ↓b_aA_1, ↓b_iA_2, ↓b_wiA_2, ↓b_iA_4, ↓b_wiA_4, ↓b_iA_5, ↓b_wiA_5, ↓b_iA_6, ↓b_wiA_6, ↓b_jA_3, ↓b_wjA_3, ↓b_lT, ↓b_lTc, ↓b_aT, ↓b_iT, ↓b_wiT, ↓b_iTc, ↓b_wiTc, ↓b_lW, ↓b_lWc, ↓b_aW, ↓b_iW, ↓b_wiW, ↓b_jWc, ↓b_wjWc, ↓b_rt, ↓b_ru, ↓b_wt, ↓b_wu, ↓b_0l, ↓b_0, ↓b_1, ↓b_2, m_tk, ↓reduceIte, cond_true, cond_false, Option.bind_some, e_Md_step_181, hc, le, ↓bI (m_fail (show 1 ≤ d by omega)), if_true]
  | succ q ih =>
    intro k f g hq hx hl hc hs hm
    have hk : k < N := by omega
    have nle : ¬ nI N ≤ nI k := by rw [nI_leI (by omega) (by omega)]; omega
    obtain ⟨i1, i2⟩ := m_fcL (xs := xs) (t := t) (u := u) (c := c) (s := s) (d := d) (k := k) hd h6 hBs hn (by omega) hst (hml k hk) 60 0 0 (f := f) (g := g) (by omega) (by omega) hx hl hs (hm k hk) hp
    have st0 : am_X (am_Y d) k_Md_step 50 [(0, .ref 139), (1, .int (nI self)), (2, .int (nI B)), (3, .int (nI k))] [] (mM xs f g t u c s) = am_X (am_Y d) k_Md_step 66 [(0, .ref 139), (1, .int (nI self)), (2, .int (nI B)), (3, .int (nI k)), (4, .int (nI 0)), (5, .int (nI (B + 0)))] [] (mM xs f g t u c s) := by
      rw [e_Md_step_50]
      simp (maxSteps := 4000000) (disch := first | omega | assumption) only [↓b_ix, ↓b_l3, ↓b_a3_0, ↓b_a3_1, ↓b_a3_2, ↓b_l4, ↓b_a4_0, ↓b_a4_1, ↓b_a4_2, ↓b_a4_3, ↓b_l129, ↓b_a129_0, ↓b_l130, ↓b_i130_1, ↓b_wi130_1, ↓b_l133, ↓b_a133_0, ↓b_a133_1, ↓b_i133_2, ↓b_wi133_2, ↓b_j133_3, ↓b_wj133_3, ↓b_i133_4, ↓b_wi133_4, ↓b_l134, ↓b_a134_0, ↓b_a134_1, ↓b_i134_2, ↓b_wi134_2, ↓b_i134_3, ↓b_wi134_3, ↓b_l135, ↓b_i135_1, ↓b_wi135_1, ↓b_l139, ↓b_a139_0, ↓b_a139_1, ↓b_a139_2, ↓b_a139_3, ↓b_a139_4, ↓b_a139_5, ↓b_a139_6, ↓b_a139_7, ↓b_a139_8, ↓b_a139_9, ↓b_a139_10, ↓b_a139_11, ↓b_a139_12, ↓b_a139_13, ↓b_a139_14, ↓b_i139_15, ↓b_wi139_15, ↓b_i139_16, ↓b_wi139_16, ↓b_i139_17, ↓b_wi139_17, ↓b_a139_18, ↓b_i139_19, ↓b_wi139_19, ↓b_i139_20, ↓b_wi139_20, ↓b_i139_21, ↓b_wi139_21, ↓b_l6, ↓b_i6, ↓b_wi6, ↓b_l140, ↓b_i140, ↓b_wi140, ↓b_l141, ↓b_i141, ↓b_wi141, ↓b_l142, ↓b_i142, ↓b_wi142, ↓b_l143, ↓b_i143, ↓b_wi143, ↓b_l144, ↓b_j144, ↓b_wj144, ↓b_l145, ↓b_j145, ↓b_wj145, ↓b_l146, ↓b_i146, ↓b_wi146, ↓b_l147, ↓b_i147, ↓b_wi147, ↓b_l148, ↓b_i148, ↓b_wi148, ↓b_l149, ↓b_i149, ↓b_wi149, ↓b_l150, ↓b_j150, ↓b_wj150, ↓b_l151, ↓b_i151, ↓b_wi151, ↓b_l152, ↓b_j152, ↓b_wj152, ↓b_l153, ↓b_i153, ↓b_wi153, ↓b_l154, ↓b_i154, ↓b_wi154, ↓b_l155, ↓b_j155, ↓b_wj155, ↓b_l156, ↓b_j156, ↓b_wj156, ↓b_l138, ↓b_j138, ↓b_wj138, ↓b_a5, ↓b_a13, ↓b_a44, ↓b_lA, ↓b_aA_0, ↓b_aA_1, ↓b_iA_2, ↓b_wiA_2, ↓b_iA_4, ↓b_wiA_4, ↓b_iA_5, ↓b_wiA_5, ↓b_iA_6, ↓b_wiA_6, ↓b_jA_3, ↓b_wjA_3, ↓b_lT, ↓b_lTc, ↓b_aT, ↓b_iT, ↓b_wiT, ↓b_iTc, ↓b_wiTc, ↓b_lW, ↓b_lWc, ↓b_aW, ↓b_iW, ↓b_wiW, ↓b_jWc, ↓b_wjWc, ↓b_rt, ↓b_ru, ↓b_wt, ↓b_wu, ↓b_0l, ↓b_0, ↓b_1, ↓b_2, m_tk, ↓reduceIte, cond_true, cond_false, Option.bind_some, hc, nle, if_false]
      rfl
    cases hfc : fc w n self st (ml k) 60 0 0 with
    | none =>
      have e : fi w n self st ml (q + 1) k = fi w n self st ml q (k + 1) := by rw [fi, hfc]
      rw [e]
      obtain ⟨f1, g1, y1, y2, y3⟩ := i1 hfc
      have st1 : am_X (am_Y d) k_Md_step 50 [(0, .ref 139), (1, .int (nI self)), (2, .int (nI B)), (3, .int (nI k))] [] (mM xs f g t u c s) = am_X (am_Y d) k_Md_step 50 [(0, .ref 139), (1, .int (nI self)), (2, .int (nI B)), (3, .int (nI (k + 1)))] [] (mM xs f1 g1 t u c s) := by
        rw [st0, y1, e_Md_step_175, nI_1]
      have Q0 : q + (k + 1) = N := by omega
      have Q1 : ¬ ((141 : Nat) = 139 ∧ (3 + self = 19 ∨ 3 + self = 20)) := by omega
      have Q2 : (141 : Nat) ≠ 153 := by omega
      have Q1b : ¬ ((146 : Nat) = 139 ∧ (self = 19 ∨ self = 20)) := by omega
      have Q2b : (146 : Nat) ≠ 153 := by omega
      have Q3 : ¬ ((144 : Nat) = 155 ∧ self < 4) := by omega
      obtain ⟨j1, j2⟩ := ih (k + 1) (f := f1) (g := g1) Q0 (tX_Q hx y2) (by rw [y2 _ _ Q1 Q2]; exact hl) (by rw [y2 _ _ Q1b Q2b]; exact hc) (by rw [y3 _ _ (by decide) Q3]; exact hs) (fun k hk => by rw [y3 _ _ (by decide) (fun hh => absurd hh.1 (by decide))]; exact hm k hk)
      refine ⟨fun hh => ?_, fun r hr => ?_⟩
      · obtain ⟨f', g', v1, v2, v3⟩ := j1 hh
        exact ⟨f', g', st1.trans v1, fQ_t y2 v2, gQ_t y3 v3⟩
      · obtain ⟨v0, f', g', v1, v2, v3, v4, v5⟩ := j2 r hr
        exact ⟨v0, f', g', st1.trans v1, fQ_t y2 v2, gQ_t y3 v3, v4, v5⟩
    | some v =>
      have e : fi w n self st ml (q + 1) k = some (k, v) := by rw [fi, hfc]
      rw [e]
      refine ⟨fun hh => (nomatch hh), fun r hr => ?_⟩
      have := Option.some.inj hr
      subst this
      obtain ⟨f1, g1, y1, y2, y3, y4, y5⟩ := i2 v hfc
      exact ⟨hk, f1, g1, st0.trans y1, y2, y3, y4, y5⟩
end MK2
